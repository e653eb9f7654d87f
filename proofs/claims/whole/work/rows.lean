section
-- ===== PART A: goes FIRST, ahead of the names: the tables' words, and 'selects' of the private methods out of them =====
/-- a private method of a class that the tables say can be made, by its rows of tables_1 -/
def lw_okq (q : MethodName × Nat) : Prop := (q.1.cls ≠ "java/lang/invoke/MethodHandle" ∧ q.1.cls ≠ "java/lang/invoke/VarHandle") ∧ Cond.instantiable q.1.cls q.2 ∈ tables_1 ∧ Cond.privateMethod q.1 ∈ tables_1 ∧ Cond.instanceMethod q.1 ∈ tables_1
theorem lw_p0 : lw_okq (⟨"CurfewDesk", "isOnAt", "(II)Z"⟩, 16) := ⟨⟨by decide +kernel, by decide +kernel⟩, List.mem_of_getElem? (i := 11) (by decide +kernel), List.mem_of_getElem? (i := 94) (by decide +kernel), List.mem_of_getElem? (i := 95) (by decide +kernel)⟩
theorem lw_p1 : lw_okq (⟨"CurfewDesk", "isInHours", "(II)Z"⟩, 16) := ⟨⟨by decide +kernel, by decide +kernel⟩, List.mem_of_getElem? (i := 11) (by decide +kernel), List.mem_of_getElem? (i := 98) (by decide +kernel), List.mem_of_getElem? (i := 99) (by decide +kernel)⟩
theorem lw_p2 : lw_okq (⟨"CurfewDesk", "duskOf", "(I)I"⟩, 16) := ⟨⟨by decide +kernel, by decide +kernel⟩, List.mem_of_getElem? (i := 11) (by decide +kernel), List.mem_of_getElem? (i := 102) (by decide +kernel), List.mem_of_getElem? (i := 103) (by decide +kernel)⟩
theorem lw_p3 : lw_okq (⟨"CurfewDesk", "pairsFreedBy", "(I)I"⟩, 16) := ⟨⟨by decide +kernel, by decide +kernel⟩, List.mem_of_getElem? (i := 11) (by decide +kernel), List.mem_of_getElem? (i := 124) (by decide +kernel), List.mem_of_getElem? (i := 125) (by decide +kernel)⟩
theorem lw_p4 : lw_okq (⟨"CurfewDesk", "missing", "(III)I"⟩, 16) := ⟨⟨by decide +kernel, by decide +kernel⟩, List.mem_of_getElem? (i := 11) (by decide +kernel), List.mem_of_getElem? (i := 128) (by decide +kernel), List.mem_of_getElem? (i := 129) (by decide +kernel)⟩
theorem lw_p5 : lw_okq (⟨"CurfewDesk", "bars", "(IIII)Z"⟩, 16) := ⟨⟨by decide +kernel, by decide +kernel⟩, List.mem_of_getElem? (i := 11) (by decide +kernel), List.mem_of_getElem? (i := 132) (by decide +kernel), List.mem_of_getElem? (i := 133) (by decide +kernel)⟩
theorem lw_p6 : lw_okq (⟨"CurfewDesk", "exempts", "(II)Z"⟩, 16) := ⟨⟨by decide +kernel, by decide +kernel⟩, List.mem_of_getElem? (i := 11) (by decide +kernel), List.mem_of_getElem? (i := 136) (by decide +kernel), List.mem_of_getElem? (i := 137) (by decide +kernel)⟩
theorem lw_p7 : lw_okq (⟨"java/lang/Throwable", "fillInStackTrace", "(I)Ljava/lang/Throwable;"⟩, 6) := ⟨⟨by decide +kernel, by decide +kernel⟩, List.mem_of_getElem? (i := 207) (by decide +kernel), List.mem_of_getElem? (i := 205) (by decide +kernel), List.mem_of_getElem? (i := 206) (by decide +kernel)⟩
theorem lw_p8 : lw_okq (⟨"CurfewDesk", "foldOrder", "(JI)J"⟩, 16) := ⟨⟨by decide +kernel, by decide +kernel⟩, List.mem_of_getElem? (i := 11) (by decide +kernel), List.mem_of_getElem? (i := 242) (by decide +kernel), List.mem_of_getElem? (i := 243) (by decide +kernel)⟩
theorem lw_p9 : lw_okq (⟨"CurfewDesk", "requireOrder", "(I)V"⟩, 16) := ⟨⟨by decide +kernel, by decide +kernel⟩, List.mem_of_getElem? (i := 11) (by decide +kernel), List.mem_of_getElem? (i := 253) (by decide +kernel), List.mem_of_getElem? (i := 254) (by decide +kernel)⟩
theorem lw_p10 : lw_okq (⟨"CurfewDesk", "foldPerson", "(JI)J"⟩, 16) := ⟨⟨by decide +kernel, by decide +kernel⟩, List.mem_of_getElem? (i := 11) (by decide +kernel), List.mem_of_getElem? (i := 273) (by decide +kernel), List.mem_of_getElem? (i := 274) (by decide +kernel)⟩
theorem lw_p11 : lw_okq (⟨"CurfewDesk", "requirePerson", "(I)V"⟩, 16) := ⟨⟨by decide +kernel, by decide +kernel⟩, List.mem_of_getElem? (i := 11) (by decide +kernel), List.mem_of_getElem? (i := 281) (by decide +kernel), List.mem_of_getElem? (i := 282) (by decide +kernel)⟩
theorem lw_p12 : lw_okq (⟨"CurfewDesk", "requireQuarter", "(I)V"⟩, 16) := ⟨⟨by decide +kernel, by decide +kernel⟩, List.mem_of_getElem? (i := 11) (by decide +kernel), List.mem_of_getElem? (i := 286) (by decide +kernel), List.mem_of_getElem? (i := 287) (by decide +kernel)⟩
theorem lw_p13 : lw_okq (⟨"CurfewDesk", "useStamp", "(II)Z"⟩, 16) := ⟨⟨by decide +kernel, by decide +kernel⟩, List.mem_of_getElem? (i := 11) (by decide +kernel), List.mem_of_getElem? (i := 386) (by decide +kernel), List.mem_of_getElem? (i := 387) (by decide +kernel)⟩
theorem lw_p14 : lw_okq (⟨"CurfewDesk", "fineOnce", "(I)I"⟩, 16) := ⟨⟨by decide +kernel, by decide +kernel⟩, List.mem_of_getElem? (i := 11) (by decide +kernel), List.mem_of_getElem? (i := 390) (by decide +kernel), List.mem_of_getElem? (i := 391) (by decide +kernel)⟩
theorem lw_p15 : lw_okq (⟨"CurfewDesk", "timesBegun", "(II)I"⟩, 16) := ⟨⟨by decide +kernel, by decide +kernel⟩, List.mem_of_getElem? (i := 11) (by decide +kernel), List.mem_of_getElem? (i := 401) (by decide +kernel), List.mem_of_getElem? (i := 402) (by decide +kernel)⟩
def lw_privs_1 : List (MethodName × Nat) := [(⟨"CurfewDesk", "isOnAt", "(II)Z"⟩, 16), (⟨"CurfewDesk", "isInHours", "(II)Z"⟩, 16), (⟨"CurfewDesk", "duskOf", "(I)I"⟩, 16), (⟨"CurfewDesk", "pairsFreedBy", "(I)I"⟩, 16), (⟨"CurfewDesk", "missing", "(III)I"⟩, 16), (⟨"CurfewDesk", "bars", "(IIII)Z"⟩, 16), (⟨"CurfewDesk", "exempts", "(II)Z"⟩, 16), (⟨"java/lang/Throwable", "fillInStackTrace", "(I)Ljava/lang/Throwable;"⟩, 6), (⟨"CurfewDesk", "foldOrder", "(JI)J"⟩, 16), (⟨"CurfewDesk", "requireOrder", "(I)V"⟩, 16), (⟨"CurfewDesk", "foldPerson", "(JI)J"⟩, 16), (⟨"CurfewDesk", "requirePerson", "(I)V"⟩, 16), (⟨"CurfewDesk", "requireQuarter", "(I)V"⟩, 16), (⟨"CurfewDesk", "useStamp", "(II)Z"⟩, 16), (⟨"CurfewDesk", "fineOnce", "(I)I"⟩, 16), (⟨"CurfewDesk", "timesBegun", "(II)I"⟩, 16)]
theorem lw_r1 : ∀ q ∈ lw_privs_1, lw_okq q := List.forall_mem_cons.mpr ⟨lw_p0, List.forall_mem_cons.mpr ⟨lw_p1, List.forall_mem_cons.mpr ⟨lw_p2, List.forall_mem_cons.mpr ⟨lw_p3, List.forall_mem_cons.mpr ⟨lw_p4, List.forall_mem_cons.mpr ⟨lw_p5, List.forall_mem_cons.mpr ⟨lw_p6, List.forall_mem_cons.mpr ⟨lw_p7, List.forall_mem_cons.mpr ⟨lw_p8, List.forall_mem_cons.mpr ⟨lw_p9, List.forall_mem_cons.mpr ⟨lw_p10, List.forall_mem_cons.mpr ⟨lw_p11, List.forall_mem_cons.mpr ⟨lw_p12, List.forall_mem_cons.mpr ⟨lw_p13, List.forall_mem_cons.mpr ⟨lw_p14, List.forall_mem_cons.mpr ⟨lw_p15, fun _ h => absurd h List.not_mem_nil⟩⟩⟩⟩⟩⟩⟩⟩⟩⟩⟩⟩⟩⟩⟩⟩
theorem lw_p16 : lw_okq (⟨"CurfewDesk", "isFreeAt", "(III)Z"⟩, 16) := ⟨⟨by decide +kernel, by decide +kernel⟩, List.mem_of_getElem? (i := 11) (by decide +kernel), List.mem_of_getElem? (i := 512) (by decide +kernel), List.mem_of_getElem? (i := 513) (by decide +kernel)⟩
theorem lw_p17 : lw_okq (⟨"CurfewDeskModel", "fail", "(I)I"⟩, 18) := ⟨⟨by decide +kernel, by decide +kernel⟩, List.mem_of_getElem? (i := 523) (by decide +kernel), List.mem_of_getElem? (i := 592) (by decide +kernel), List.mem_of_getElem? (i := 593) (by decide +kernel)⟩
theorem lw_p18 : lw_okq (⟨"CurfewDeskModel", "isQuarter", "(I)Z"⟩, 18) := ⟨⟨by decide +kernel, by decide +kernel⟩, List.mem_of_getElem? (i := 523) (by decide +kernel), List.mem_of_getElem? (i := 610) (by decide +kernel), List.mem_of_getElem? (i := 611) (by decide +kernel)⟩
theorem lw_p19 : lw_okq (⟨"CurfewDeskModel", "isOrder", "(I)Z"⟩, 18) := ⟨⟨by decide +kernel, by decide +kernel⟩, List.mem_of_getElem? (i := 523) (by decide +kernel), List.mem_of_getElem? (i := 621) (by decide +kernel), List.mem_of_getElem? (i := 622) (by decide +kernel)⟩
theorem lw_p20 : lw_okq (⟨"CurfewDeskModel", "failed", "(I)Z"⟩, 18) := ⟨⟨by decide +kernel, by decide +kernel⟩, List.mem_of_getElem? (i := 523) (by decide +kernel), List.mem_of_getElem? (i := 625) (by decide +kernel), List.mem_of_getElem? (i := 626) (by decide +kernel)⟩
theorem lw_p21 : lw_okq (⟨"CurfewDeskModel", "isPass", "(II)Z"⟩, 18) := ⟨⟨by decide +kernel, by decide +kernel⟩, List.mem_of_getElem? (i := 523) (by decide +kernel), List.mem_of_getElem? (i := 641) (by decide +kernel), List.mem_of_getElem? (i := 642) (by decide +kernel)⟩
theorem lw_p22 : lw_okq (⟨"CurfewDeskModel", "isPerson", "(I)Z"⟩, 18) := ⟨⟨by decide +kernel, by decide +kernel⟩, List.mem_of_getElem? (i := 523) (by decide +kernel), List.mem_of_getElem? (i := 645) (by decide +kernel), List.mem_of_getElem? (i := 646) (by decide +kernel)⟩
theorem lw_p23 : lw_okq (⟨"CurfewDeskModel", "isPair", "(II)Z"⟩, 18) := ⟨⟨by decide +kernel, by decide +kernel⟩, List.mem_of_getElem? (i := 523) (by decide +kernel), List.mem_of_getElem? (i := 658) (by decide +kernel), List.mem_of_getElem? (i := 659) (by decide +kernel)⟩
theorem lw_p24 : lw_okq (⟨"CurfewDeskModel", "barsAt", "(IIII)Z"⟩, 18) := ⟨⟨by decide +kernel, by decide +kernel⟩, List.mem_of_getElem? (i := 523) (by decide +kernel), List.mem_of_getElem? (i := 662) (by decide +kernel), List.mem_of_getElem? (i := 663) (by decide +kernel)⟩
theorem lw_p25 : lw_okq (⟨"CurfewDeskModel", "onAt", "(II)Z"⟩, 18) := ⟨⟨by decide +kernel, by decide +kernel⟩, List.mem_of_getElem? (i := 523) (by decide +kernel), List.mem_of_getElem? (i := 666) (by decide +kernel), List.mem_of_getElem? (i := 667) (by decide +kernel)⟩
theorem lw_p26 : lw_okq (⟨"CurfewDeskModel", "isAt", "(II)Z"⟩, 18) := ⟨⟨by decide +kernel, by decide +kernel⟩, List.mem_of_getElem? (i := 523) (by decide +kernel), List.mem_of_getElem? (i := 670) (by decide +kernel), List.mem_of_getElem? (i := 671) (by decide +kernel)⟩
theorem lw_p27 : lw_okq (⟨"CurfewDeskModel", "dusk", "(I)I"⟩, 18) := ⟨⟨by decide +kernel, by decide +kernel⟩, List.mem_of_getElem? (i := 523) (by decide +kernel), List.mem_of_getElem? (i := 674) (by decide +kernel), List.mem_of_getElem? (i := 675) (by decide +kernel)⟩
theorem lw_p28 : lw_okq (⟨"CurfewDeskModel", "barred", "(I)I"⟩, 18) := ⟨⟨by decide +kernel, by decide +kernel⟩, List.mem_of_getElem? (i := 523) (by decide +kernel), List.mem_of_getElem? (i := 728) (by decide +kernel), List.mem_of_getElem? (i := 729) (by decide +kernel)⟩
theorem lw_p29 : lw_okq (⟨"CurfewDeskModel", "against", "(III)I"⟩, 18) := ⟨⟨by decide +kernel, by decide +kernel⟩, List.mem_of_getElem? (i := 523) (by decide +kernel), List.mem_of_getElem? (i := 752) (by decide +kernel), List.mem_of_getElem? (i := 753) (by decide +kernel)⟩
theorem lw_p30 : lw_okq (⟨"CurfewDeskModel", "missing", "(II)I"⟩, 18) := ⟨⟨by decide +kernel, by decide +kernel⟩, List.mem_of_getElem? (i := 523) (by decide +kernel), List.mem_of_getElem? (i := 760) (by decide +kernel), List.mem_of_getElem? (i := 761) (by decide +kernel)⟩
theorem lw_p31 : lw_okq (⟨"CurfewDeskModel", "manyOn", "()I"⟩, 18) := ⟨⟨by decide +kernel, by decide +kernel⟩, List.mem_of_getElem? (i := 523) (by decide +kernel), List.mem_of_getElem? (i := 785) (by decide +kernel), List.mem_of_getElem? (i := 786) (by decide +kernel)⟩
def lw_privs_2 : List (MethodName × Nat) := [(⟨"CurfewDesk", "isFreeAt", "(III)Z"⟩, 16), (⟨"CurfewDeskModel", "fail", "(I)I"⟩, 18), (⟨"CurfewDeskModel", "isQuarter", "(I)Z"⟩, 18), (⟨"CurfewDeskModel", "isOrder", "(I)Z"⟩, 18), (⟨"CurfewDeskModel", "failed", "(I)Z"⟩, 18), (⟨"CurfewDeskModel", "isPass", "(II)Z"⟩, 18), (⟨"CurfewDeskModel", "isPerson", "(I)Z"⟩, 18), (⟨"CurfewDeskModel", "isPair", "(II)Z"⟩, 18), (⟨"CurfewDeskModel", "barsAt", "(IIII)Z"⟩, 18), (⟨"CurfewDeskModel", "onAt", "(II)Z"⟩, 18), (⟨"CurfewDeskModel", "isAt", "(II)Z"⟩, 18), (⟨"CurfewDeskModel", "dusk", "(I)I"⟩, 18), (⟨"CurfewDeskModel", "barred", "(I)I"⟩, 18), (⟨"CurfewDeskModel", "against", "(III)I"⟩, 18), (⟨"CurfewDeskModel", "missing", "(II)I"⟩, 18), (⟨"CurfewDeskModel", "manyOn", "()I"⟩, 18)]
theorem lw_r2 : ∀ q ∈ lw_privs_2, lw_okq q := List.forall_mem_cons.mpr ⟨lw_p16, List.forall_mem_cons.mpr ⟨lw_p17, List.forall_mem_cons.mpr ⟨lw_p18, List.forall_mem_cons.mpr ⟨lw_p19, List.forall_mem_cons.mpr ⟨lw_p20, List.forall_mem_cons.mpr ⟨lw_p21, List.forall_mem_cons.mpr ⟨lw_p22, List.forall_mem_cons.mpr ⟨lw_p23, List.forall_mem_cons.mpr ⟨lw_p24, List.forall_mem_cons.mpr ⟨lw_p25, List.forall_mem_cons.mpr ⟨lw_p26, List.forall_mem_cons.mpr ⟨lw_p27, List.forall_mem_cons.mpr ⟨lw_p28, List.forall_mem_cons.mpr ⟨lw_p29, List.forall_mem_cons.mpr ⟨lw_p30, List.forall_mem_cons.mpr ⟨lw_p31, fun _ h => absurd h List.not_mem_nil⟩⟩⟩⟩⟩⟩⟩⟩⟩⟩⟩⟩⟩⟩⟩⟩
theorem lw_p32 : lw_okq (⟨"CurfewDeskModel", "all", "()I"⟩, 18) := ⟨⟨by decide +kernel, by decide +kernel⟩, List.mem_of_getElem? (i := 523) (by decide +kernel), List.mem_of_getElem? (i := 797) (by decide +kernel), List.mem_of_getElem? (i := 798) (by decide +kernel)⟩
theorem lw_p33 : lw_okq (⟨"CurfewDeskModel", "pairs", "()I"⟩, 18) := ⟨⟨by decide +kernel, by decide +kernel⟩, List.mem_of_getElem? (i := 523) (by decide +kernel), List.mem_of_getElem? (i := 817) (by decide +kernel), List.mem_of_getElem? (i := 818) (by decide +kernel)⟩
def lw_privs_3 : List (MethodName × Nat) := [(⟨"CurfewDeskModel", "all", "()I"⟩, 18), (⟨"CurfewDeskModel", "pairs", "()I"⟩, 18)]
theorem lw_r3 : ∀ q ∈ lw_privs_3, lw_okq q := List.forall_mem_cons.mpr ⟨lw_p32, List.forall_mem_cons.mpr ⟨lw_p33, fun _ h => absurd h List.not_mem_nil⟩⟩
def lw_privs : List (MethodName × Nat) := lw_privs_1 ++ (lw_privs_2 ++ (lw_privs_3))
def lw_tbl : List Cond := k2_sels lw_privs ++ tables_1
theorem lw_privs_ok : ∀ q ∈ lw_privs, lw_okq q := by
  show ∀ q ∈ lw_privs_1 ++ (lw_privs_2 ++ (lw_privs_3)), lw_okq q
  exact List.forall_mem_append.mpr ⟨lw_r1, List.forall_mem_append.mpr ⟨lw_r2, lw_r3⟩⟩
/-- the streams that the claim lets the run draw from -/
abbrev lw_cs : List Choice := [Jvm.Choice.named "NaN.bits"]
theorem lw_bits : nanBits ∈ lw_cs := by first | decide | exact List.mem_cons_self | simp [lw_cs, nanBits]
-- ===== end of PART A; then your names; then what follows =====
end
section
/-! ===== BEGIN words of one list among another's, by their places ===== -/
theorem goodIn_r {big : List Cond} (ws : List Cond) (ps : List Nat) (hp : ws = ps.filterMap (fun i => big[i]?)) (h : ws.all goodWord = true) : GoodIn big ws := by
  intro w hw
  have h1 := List.all_eq_true.mp h w hw
  rw [hp] at hw
  obtain ⟨i, -, hi⟩ := List.mem_filterMap.mp hw
  have hm : w ∈ big := by first | exact List.mem_of_getElem? hi | exact List.getElem?_mem hi
  exact ⟨hm, good_of_word h1⟩
theorem goodIn_app {big a b : List Cond} (ha : GoodIn big a) (hb : GoodIn big b) : GoodIn big (a ++ b) := fun w h => (List.mem_append.mp h).elim (ha w) (hb w)
theorem goodIn_ca {big a b : List Cond} {c : Cond} (ha : GoodIn big (c :: a)) (hb : GoodIn big b) : GoodIn big (c :: (a ++ b)) := fun w h => (List.mem_cons.mp h).elim (fun e => ha w (List.mem_cons.mpr (Or.inl e))) (fun h => (List.mem_append.mp h).elim (fun h => ha w (List.mem_cons.mpr (Or.inr h))) (hb w))
theorem goodIn_sub {big ws : List Cond} (hm : ∀ w ∈ ws, w ∈ big) (h : ws.all goodWord = true) : GoodIn big ws := fun w hw => ⟨hm w hw, good_of_word (List.all_eq_true.mp h w hw)⟩
/-! ===== END ===== -/

/-! ===== BEGIN exceptions that leave a method, and their catching by the caller (launches without stack traces) ===== -/
section VXA
/-! The laws vx_back, vx_callV, vx_callS, vx_callSW, vx_throw0, vx_throwS follow proofs of the library, with one case more: JvmDerived/Free/Laws.lean (Back.of_free), Shelf42/LK1.lean (callV, callS), Shelf/KitTraced.lean (throwNew0V, throwNewS). -/
/-- where a method has thrown q: the class by its name, the cell, what was written, the world -/
def vx_T (XC : String → State → State → Prop) (st : State) (q : Addr) (t : State) (mc ms : Nat) (free : Addr → Prop) : Prop :=
  ∃ (E : String) (ce : Cell) (L : List Loc), XC E st t ∧ t.heap[q]? = some ce ∧ ce.vm = .none ∧ st.vm.findClass E = some ce.cls ∧ st.WarmedH t.vm ∧ st.sameButNew ({ t with vm := st.vm } : State) L mc ms ∧ ∀ z ∈ L, free z.base
def vx_Q (Qc : Array Value → State → Outcome → State → Prop) (XC : String → State → State → Prop) (mc ms : Nat) (free : Addr → Prop) : Array Value → State → Outcome → State → Prop := fun a st o t =>
  (Qc a st o t ∧ ∃ L, FrameEnd st o t L mc ms ∧ ∀ q ∈ L, free q.base) ∨ ∃ q, o = .threw q ∧ vx_T XC st q t mc ms free
/-- a callee that returns or throws -/
def vx_Met (l : Launch) (y : MethodName) (ws : List Cond) (rm : Room) (Pc : Array Value → State → Prop) (Qc : Array Value → State → Outcome → State → Prop) (XC : String → State → State → Prop) (mc ms : Nat) (free : Addr → Prop) : Prop :=
  MetFree l y (headSpec ws rm) Pc (fun _ _ _ _ _ => True) (vx_Q Qc XC mc ms free)
def vx_Post (XC : String → State → State → Prop) (mc ms : Nat) (free : Addr → Prop) : Pt → Array Value → Addr → Pt → Prop := fun A a q B =>
  ∃ (g : JFrame) (mk : MethodId) (t : State) (L : List Loc) (E : String) (ce : Cell), B.U.heap = t.heap ∧ B.U.vm = t.vm ∧ XC E (A.U.calling g mk a) t ∧ t.heap[q]? = some ce ∧ ce.vm = .none ∧ A.U.vm.findClass E = some ce.cls ∧ B.locs = A.locs ++ L ∧ (∀ z ∈ L, free z.base) ∧ B.cells = A.cells + mc ∧ B.slots = A.slots + ms
def vx_Back (l : Launch) (R : Room) (p : Program) (e : Env) (below : List Frame) (s : State) (sargs : Array Value) (y : MethodName) (len W9 : Nat)
    (Pre : Pt → Array Value → Prop) (Post : Pt → Array Value → Option Value → Pt → Prop) (PostX : Pt → Array Value → Addr → Pt → Prop) : Prop :=
  ∀ (m : MethodId) (meth : Method) (c : Code) (A : Pt) (g : JFrame) (ig : Instr) (mk : MethodId) (a : Array Value),
    Stand p l e R s m sargs below meth c A.U A.locs A.cells A.slots → g.method = m → g.locals.size = c.maxLocals → decode c.code g.pc = .ok (ig, len) →
    2 * g.monitorRoom + (g.stack.map fun v => v.category).sum ≤ W9 → A.U.methodNamed? y = some mk → Pre A a →
    (∃ (v : Option Value) (B : Pt), Stand p l e R s m sargs below meth c B.U B.locs B.cells B.slots ∧ Post A a v B ∧
      Steps p.tables e below (doInvoke e (A.U.setTop g) [] mk a).1 (B.U.setTop { g with pc := g.pc + len, stack := v.toList ++ g.stack })) ∨
    (∃ (q : Addr) (B : Pt), Stand p l e R s m sargs below meth c B.U B.locs B.cells B.slots ∧ PostX A a q B ∧
      Steps p.tables e below (doInvoke e (A.U.setTop g) [] mk a).1 ((B.U.setTop g).pushFrame (.throwing q)))
section Payer
variable {l : Launch} {R : Room} {p : Program} {e : Env} {below : List Frame} {s : State} {sargs : Array Value} {y : MethodName} {len W9 : Nat}
theorem vx_back {ws : List Cond} {rm : Room} {Pc : Array Value → State → Prop} {Qc : Array Value → State → Outcome → State → Prop} {XC : String → State → State → Prop} {mc ms : Nat} {free : Addr → Prop} {bytes : ByteArray} {maxL : Nat} {ret : Option FieldType}
    (hM : vx_Met l y ws rm Pc Qc XC mc ms free) (hblind : FrameBlind Pc) (hrc : rm.cells = mc) (hrs : rm.slots = ms)
    (hframes : rm.frames + 1 ≤ R.frames) (hlocals : W9 + (maxL + 11) + rm.locals ≤ R.locals)
    (hws : ∀ w ∈ ws, ∀ a' U, s.WarmedH U.vm → w.before a' U = true) (hcode : Cond.code y bytes maxL ret ∈ ws) (hinit : ∀ a' U, s.WarmedH U.vm → (Cond.initialized y.cls).before a' U = true) :
    vx_Back l R p e below s sargs y len W9 (PreOf R mc ms Pc) (PostOf Qc mc ms free) (vx_Post XC mc ms free) := by
  intro m meth c A g ig mk a X hg hsize hdg hW hn hp
  have h1 : (headSpec ws rm).pre.before a A.U = true := atoms_intro fun w hw => hws w hw _ _ X.warmed
  have h2 : (Cond.code y bytes maxL ret).before a A.U = true := hws _ hcode _ _ X.warmed
  have h3 : (Cond.initialized y.cls).before a A.U = true := hinit _ _ X.warmed
  have h4 : A.cells + (headSpec ws rm).room.cells ≤ R.cells := by rw [show (headSpec ws rm).room.cells = mc from hrc]; exact hp.1
  have h5 : A.slots + (headSpec ws rm).room.slots ≤ R.slots := by rw [show (headSpec ws rm).room.slots = ms from hrs]; exact hp.2.1
  have hPc : Pc a (A.U.calling g mk a) := hblind _ _ _ _ hp.2.2
  obtain ⟨U, Ls, c0, s0⟩ := A
  dsimp only [Pt.U, Pt.locs, Pt.cells, Pt.slots] at h1 h2 h3 h4 h5 X hn hPc ⊢
  obtain ⟨methY, cY, hmY, hcY, -, hlY, -, -, -, -⟩ := Cond.code_spec hn h2
  obtain ⟨kY, hkY, -⟩ := className_of_methodNamed hn
  have hinitY : kY.init = .initialized := Cond.initialized_spec (findClass_of_methodNamed hn) hkY h3
  have h : At U g.method c below := by rw [hg]; exact X.here
  have hlocals9 : W9 + (maxL + 11) + (headSpec ws rm).room.locals ≤ R.locals := hlocals
  have happ : (headSpec ws rm).appliesLoose y e.platform (U.calling g mk a) = true :=
    Spec.appliesLoose_calling (g := g) h hdg hn hkY hinitY
      (X.room_calling (g := g) (R' := (headSpec ws rm).room) hsize hmY hcY hframes (by rw [hlY]; omega) h4 h5) h1
  obtain ⟨mid, hmid⟩ := h.above
  have hfr : (U.setTop g).frames = (.java g :: mid) ++ below := by rw [State.frames_setTop' g h.top, hmid]; rfl
  obtain ⟨o, s₂, hsteps, -, hend, hq⟩ := Steps.callFree hM p X.admits X.cas X.clock (acts := []) hfr happ hPc trivial
  have hq' : vx_Q Qc XC mc ms free a (U.calling g mk a) o s₂ := hq
  rw [State.frames_setTop' g h.top] at hend
  obtain ⟨g₀, hg0⟩ := Option.isSome_iff_exists.mp h.top
  obtain ⟨r, hr⟩ := State.topJava?_eq_some.mp hg0
  have hr' : (({ U with heap := s₂.heap, slotsUsed := s₂.slotsUsed } : State).setVm s₂.vm).frames = .java g₀ :: r := hr
  rcases hq' with ⟨hqc, L, hfe, hL⟩ | ⟨q, rfl, E, ce, L, hx, hce, hcv, hcl, hW₂, hsm, hL⟩
  · obtain ⟨⟨v, rfl⟩, hW₂, e2, q2, q3, q4, q5, q6⟩ := id hfe
    have e3 : s₂ = ({ (U.calling g mk a).setFrames s₂.frames with heap := s₂.heap, slotsUsed := s₂.slotsUsed } : State).setVm s₂.vm := by
      have : s₂ = ({ s₂ with vm := (U.calling g mk a).vm } : State).setVm s₂.vm := rfl
      rw [e2] at this
      exact this
    obtain ⟨c₂, i₂, len₂, hc₂, hd₂, hf₂⟩ := hend
    have hW' : U.WarmedH s₂.vm := hW₂
    have hcc : c₂ = c := by
      have h1 : s₂.code? g.method = U.code? g.method := by
        rw [State.code?_eq, State.code?_eq, hW'.alike.method?]
      exact Option.some.inj (hc₂.symm.trans (h1.trans h.code))
    subst hcc
    have hlen : len₂ = len := by rw [hdg] at hd₂; cases hd₂; rfl
    subst hlen
    have hs₂ : s₂ = (({ U with heap := s₂.heap, slotsUsed := s₂.slotsUsed } : State).setVm s₂.vm).setTop { g with pc := g.pc + len₂, stack := v.toList ++ g.stack } := by
      refine e3.trans ?_
      rw [hf₂, State.calling_eq h.top, State.setFrames_setFrames, State.setTop_of_frames _ hr', hr]
      rfl
    have hsame : U.sameButNew ({ U with heap := s₂.heap, slotsUsed := s₂.slotsUsed } : State) L mc ms := by
      refine ⟨?_, q2, q3, q4, q5, q6⟩
      obtain ⟨t, ht, -⟩ := State.frames_cons hr
      show ({ U with heap := s₂.heap, slotsUsed := s₂.slotsUsed } : State) = { U.setFrames U.frames with heap := s₂.heap, slotsUsed := s₂.slotsUsed }
      rw [State.setFrames_self ht]
    subst hg
    refine Or.inl ⟨v, ⟨(({ U with heap := s₂.heap, slotsUsed := s₂.slotsUsed } : State).setVm s₂.vm), Ls ++ L, c0 + mc, s0 + ms⟩,
      ⟨X.admits, X.cas, X.clock, X.frames, X.room, X.hears, X.method, X.code, (X.here.setHeapUsed s₂.heap s₂.slotsUsed).setVm hW'.alike, X.tail, State.WarmedH.trans X.warmed hW', X.limits, X.bytes, X.same.trans (hsame.setVm s.vm)⟩,
      ⟨g, mk, s₂, L, rfl, rfl, hqc, rfl, hL, rfl, rfl⟩, ?_⟩
    show Steps p.tables e below _ ((({ U with heap := s₂.heap, slotsUsed := s₂.slotsUsed } : State).setVm s₂.vm).setTop { g with pc := g.pc + len₂, stack := v.toList ++ g.stack })
    rw [← hs₂]
    exact hsteps
  · obtain ⟨e2, q2, q3, q4, q5, q6⟩ := id hsm
    have e3 : s₂ = ({ (U.calling g mk a).setFrames s₂.frames with heap := s₂.heap, slotsUsed := s₂.slotsUsed } : State).setVm s₂.vm := by
      have : s₂ = ({ s₂ with vm := (U.calling g mk a).vm } : State).setVm s₂.vm := rfl
      rw [e2] at this
      exact this
    have hf₂ : s₂.frames = .throwing q :: .java g :: U.frames.tail := hend
    have hW' : U.WarmedH s₂.vm := hW₂
    have hs₂ : s₂ = ((({ U with heap := s₂.heap, slotsUsed := s₂.slotsUsed } : State).setVm s₂.vm).setTop g).pushFrame (.throwing q) := by
      refine e3.trans ?_
      rw [hf₂, State.calling_eq h.top, State.setFrames_setFrames, State.pushFrame, State.frames_setTop _ hr', State.setTop_of_frames _ hr', State.setFrames_setFrames, hr]
      rfl
    have hsame : U.sameButNew ({ U with heap := s₂.heap, slotsUsed := s₂.slotsUsed } : State) L mc ms := by
      refine ⟨?_, q2, q3, q4, q5, q6⟩
      obtain ⟨t, ht, -⟩ := State.frames_cons hr
      show ({ U with heap := s₂.heap, slotsUsed := s₂.slotsUsed } : State) = { U.setFrames U.frames with heap := s₂.heap, slotsUsed := s₂.slotsUsed }
      rw [State.setFrames_self ht]
    subst hg
    refine Or.inr ⟨q, ⟨(({ U with heap := s₂.heap, slotsUsed := s₂.slotsUsed } : State).setVm s₂.vm), Ls ++ L, c0 + mc, s0 + ms⟩,
      ⟨X.admits, X.cas, X.clock, X.frames, X.room, X.hears, X.method, X.code, (X.here.setHeapUsed s₂.heap s₂.slotsUsed).setVm hW'.alike, X.tail, State.WarmedH.trans X.warmed hW', X.limits, X.bytes, X.same.trans (hsame.setVm s.vm)⟩,
      ⟨g, mk, s₂, L, E, ce, rfl, rfl, hx, hce, hcv, hcl, rfl, hL, rfl, rfl⟩, ?_⟩
    show Steps p.tables e below _ (((({ U with heap := s₂.heap, slotsUsed := s₂.slotsUsed } : State).setVm s₂.vm).setTop g).pushFrame (.throwing q))
    rw [← hs₂]
    exact hsteps
end Payer
section Calls
variable {p : Program} {l : Launch} {e : Env} {R : Room} {s : State} {m : MethodId} {args : Array Value} {below : List Frame} {meth : Method} {c : Code} {T : State} {locs : List Loc} {cells slots : Nat}
theorem vx_callV (X : Stand p l e R s m args below meth c T locs cells slots) (hexec : p.tables.exec = Jvm.exec) {own C : String} {index : Nat} {y : MethodName} {bytes : ByteArray} {maxL : Nat} {ret : Option FieldType}
    (hown : s.vm.findClass own = some m.cls) (hlink : (Cond.methodLink own index y).before args s = true) (hinst : (Cond.instanceMethod y).before args s = true) (hsel : (Cond.selects C y y).before args s = true)
    (hcode : (Cond.code y bytes maxL ret).before args s = true) (hy : y.cls ≠ "java/lang/invoke/MethodHandle" ∧ y.cls ≠ "java/lang/invoke/VarHandle")
    {W9 : Nat} {Pre : Pt → Array Value → Prop} {Post : Pt → Array Value → Option Value → Pt → Prop} {PostX : Pt → Array Value → Addr → Pt → Prop} (hK : vx_Back l R p e below s args y 3 W9 Pre Post PostX)
    {b : Addr} {cellB : Cell} (hcell : T.heap[b]? = some cellB) (hobj : cellB.vm.isStatics = false) (hcls : s.vm.findClass C = some cellB.cls)
    {g : JFrame} (hg : g.method = m) (hsize : g.locals.size = c.maxLocals) {argsL rest : List Value} (hlen : ∀ sig, parseMethodDescriptor y.desc = some sig → argsL.length = sig.parameters.length)
    (hstack : g.stack = argsL.reverse ++ .ref b :: rest) (hW : 2 * g.monitorRoom + (rest.map fun v => v.category).sum ≤ W9) (hdg : decode c.code g.pc = .ok (.invokevirtual index, 3))
    (hpre : ∀ vm₁, s.WarmedH vm₁ → Pre ⟨T.setVm vm₁, locs, cells, slots⟩ (Value.ref b :: argsL).toArray) :
    (∃ (v : Option Value) (vm₁ : Vm) (B : Pt), s.WarmedH vm₁ ∧ Stand p l e R s m args below meth c B.U B.locs B.cells B.slots ∧ Post ⟨T.setVm vm₁, locs, cells, slots⟩ (Value.ref b :: argsL).toArray v B ∧
      ∀ target, Steps p.tables e below (B.U.setTop { g with pc := g.pc + 3, stack := v.toList ++ rest }) target → Steps p.tables e below (T.setTop g) target) ∨
    (∃ (q : Addr) (vm₁ : Vm) (B : Pt), s.WarmedH vm₁ ∧ Stand p l e R s m args below meth c B.U B.locs B.cells B.slots ∧ PostX ⟨T.setVm vm₁, locs, cells, slots⟩ (Value.ref b :: argsL).toArray q B ∧
      Steps p.tables e below (T.setTop g) ((B.U.setTop { g with stack := rest }).pushFrame (.throwing q))) := by
  obtain ⟨mk, methM, hnamed, hmethM, hstM, habM⟩ := Cond.instanceMethod_spec hinst
  obtain ⟨methM', cM, hmethM', -, -, -, -, -, -, hsigM⟩ := Cond.code_spec hnamed hcode
  cases hmethM.symm.trans hmethM'
  obtain ⟨c2, r2, m2, q1, q2, q3, q4, kP, hkP, hkPi⟩ := Cond.selects_spec hsel
  cases hcls.symm.trans q1
  cases (State.methodFound?_of_named hnamed hy).symm.trans q2
  cases hnamed.symm.trans q3
  have hselP : selectMethod e.platform s.vm cellB.cls mk = .method mk := by rw [Launch.admits_selectMethod X.admits]; exact q4
  obtain ⟨vm₁, X₁, hstep₁⟩ := X.invokevirtual hexec hown hlink hnamed hmethM hstM hkP hkPi hy (a := b) (cell := cellB) hcell
    (fun z h => by rw [h] at hobj; cases hobj) hselP hmethM habM hkP hkPi (g := g) hg (argsL := argsL) (rest := rest) (hlen _ hsigM) hstack hdg
  rcases hK m meth c ⟨T.setVm vm₁, locs, cells, slots⟩ { g with stack := rest } (.invokevirtual index) mk (Value.ref b :: argsL).toArray X₁ hg hsize hdg hW (X₁.named hnamed) (hpre vm₁ X₁.warmed) with ⟨v, B, X', hpost, hsteps⟩ | ⟨q, B, X', hpost, hsteps⟩
  · exact Or.inl ⟨v, vm₁, B, X₁.warmed, X', hpost, fun target h => hstep₁ _ fun acts => by rw [doInvoke_state]; exact hsteps.trans h⟩
  · exact Or.inr ⟨q, vm₁, B, X₁.warmed, X', hpost, hstep₁ _ fun acts => by rw [doInvoke_state]; exact hsteps⟩
theorem vx_callS (X : Stand p l e R s m args below meth c T locs cells slots) (hexec : p.tables.exec = Jvm.exec) {own : String} {index : Nat} {y : MethodName} {bytes : ByteArray} {maxL : Nat} {ret : Option FieldType}
    (hown : s.vm.findClass own = some m.cls) (hlink : (Cond.methodLink own index y).before args s = true) (hstat : (Cond.static y).before args s = true) (hinit : (Cond.initialized y.cls).before args s = true)
    (hcode : (Cond.code y bytes maxL ret).before args s = true) (hy : y.cls ≠ "java/lang/invoke/MethodHandle" ∧ y.cls ≠ "java/lang/invoke/VarHandle")
    {W9 : Nat} {Pre : Pt → Array Value → Prop} {Post : Pt → Array Value → Option Value → Pt → Prop} {PostX : Pt → Array Value → Addr → Pt → Prop} (hK : vx_Back l R p e below s args y 3 W9 Pre Post PostX)
    {g : JFrame} (hg : g.method = m) (hsize : g.locals.size = c.maxLocals) {argsL rest : List Value} (hlen : ∀ sig, parseMethodDescriptor y.desc = some sig → argsL.length = sig.parameters.length)
    (hstack : g.stack = argsL.reverse ++ rest) (hW : 2 * g.monitorRoom + (rest.map fun v => v.category).sum ≤ W9) (hdg : decode c.code g.pc = .ok (.invokestatic index, 3))
    (hpre : ∀ vm₁, s.WarmedH vm₁ → Pre ⟨T.setVm vm₁, locs, cells, slots⟩ argsL.toArray) :
    (∃ (v : Option Value) (vm₁ : Vm) (B : Pt), s.WarmedH vm₁ ∧ Stand p l e R s m args below meth c B.U B.locs B.cells B.slots ∧ Post ⟨T.setVm vm₁, locs, cells, slots⟩ argsL.toArray v B ∧
      ∀ target, Steps p.tables e below (B.U.setTop { g with pc := g.pc + 3, stack := v.toList ++ rest }) target → Steps p.tables e below (T.setTop g) target) ∨
    (∃ (q : Addr) (vm₁ : Vm) (B : Pt), s.WarmedH vm₁ ∧ Stand p l e R s m args below meth c B.U B.locs B.cells B.slots ∧ PostX ⟨T.setVm vm₁, locs, cells, slots⟩ argsL.toArray q B ∧
      Steps p.tables e below (T.setTop g) ((B.U.setTop { g with stack := rest }).pushFrame (.throwing q))) := by
  obtain ⟨mk, hnamed⟩ := Cond.code_named hcode
  obtain ⟨methM, cM, hmethM, -, -, -, -, -, -, hsigM⟩ := Cond.code_spec hnamed hcode
  have hstatic : methM.isStatic = true := Cond.static_spec hnamed hmethM hstat
  obtain ⟨kP, hkP, -⟩ := className_of_methodNamed hnamed
  have hinitP : kP.init = .initialized := Cond.initialized_spec (findClass_of_methodNamed hnamed) hkP hinit
  obtain ⟨vm₁, X₁, hstep₁⟩ := X.invokestatic hexec hown hlink hnamed hmethM hstatic hkP hinitP hy (g := g) hg (argsL := argsL) (rest := rest) (hlen _ hsigM) hstack hdg
  rcases hK m meth c ⟨T.setVm vm₁, locs, cells, slots⟩ { g with stack := rest } (.invokestatic index) mk argsL.toArray X₁ hg hsize hdg hW (X₁.named hnamed) (hpre vm₁ X₁.warmed) with ⟨v, B, X', hpost, hsteps⟩ | ⟨q, B, X', hpost, hsteps⟩
  · exact Or.inl ⟨v, vm₁, B, X₁.warmed, X', hpost, fun target h => hstep₁ _ fun acts => by rw [doInvoke_state]; exact hsteps.trans h⟩
  · exact Or.inr ⟨q, vm₁, B, X₁.warmed, X', hpost, hstep₁ _ fun acts => by rw [doInvoke_state]; exact hsteps⟩
end Calls
theorem vx_cls {s : State} {T : State} {vm₁ : Vm} {E : String} {k : ClassId} (hW : s.WarmedH vm₁) (h : (T.setVm vm₁).vm.findClass E = some k) : s.vm.findClass E = some k := by
  have h1 : vm₁.findClass E = some k := h
  rw [hW.alike.findClass] at h1
  exact h1
/-- the method's frame g, with q thrown over it -/
def vx_W (p : Program) (l : Launch) (e : Env) (R : Room) (s : State) (m : MethodId) (args : Array Value) (below : List Frame) (meth : Method) (c : Code) (H : Heap) (locs : List Loc) (cells slots : Nat) (Q : State → Prop) (g : JFrame) (q : Addr) : Prop :=
  ∀ T : State, T.heap = H → Stand p l e R s m args below meth c T locs cells slots → ∃ t, Steps p.tables e below ((T.setTop g).pushFrame (.throwing q)) t ∧ Q t
def vx_Run (p : Program) (l : Launch) (e : Env) (R : Room) (s : State) (m : MethodId) (args : Array Value) (below : List Frame) (meth : Method) (c : Code) (H : Heap) (locs : List Loc) (cells slots mc ms : Nat) (g : JFrame) (rest : List Value) (Qa : State → Outcome → State → Prop) (XC : String → State → State → Prop) (free : Addr → Prop) : Prop :=
  ∀ T : State, T.heap = H → Stand p l e R s m args below meth c T locs cells slots →
    (∃ (v : Option Value) (st₀ t T' : State) (L : List Loc), st₀.heap = H ∧ Stand p l e R s m args below meth c T' (locs ++ L) (cells + mc) (slots + ms) ∧ (∀ q ∈ L, free q.base) ∧ T'.heap = t.heap ∧ T'.vm = t.vm ∧ Qa st₀ (.returned v) t ∧
      Goes p e below T g T' { g with pc := g.pc + 3, stack := v.toList ++ rest }) ∨
    (∃ (q : Addr) (st₀ t T' : State) (L : List Loc) (E : String) (ce : Cell), st₀.heap = H ∧ Stand p l e R s m args below meth c T' (locs ++ L) (cells + mc) (slots + ms) ∧ (∀ z ∈ L, free z.base) ∧ T'.heap = t.heap ∧ T'.vm = t.vm ∧ XC E st₀ t ∧ t.heap[q]? = some ce ∧ ce.vm = .none ∧ s.vm.findClass E = some ce.cls ∧
      Steps p.tables e below (T.setTop g) ((T'.setTop { g with stack := rest }).pushFrame (.throwing q)))
def vx_X {S : Type} (px : S → Prop) (B : String → S → State → Prop) (A : Nat → Prop) : String → State → State → Prop := fun E st t => ∃ u : S, px u ∧ B E u t ∧ va_F A st t
section Runs
variable {p : Program} {l : Launch} {e : Env} {R : Room} {s : State} {m : MethodId} {args : Array Value} {below : List Frame} {meth : Method} {c : Code} {H : Heap} {locs : List Loc} {cells slots : Nat}
variable {y : MethodName} {bytes cc : ByteArray} {maxL nL mc ms n index : Nat} {ret : Option FieldType} {ws : List Cond} {rm : Room} {Pc : Array Value → State → Prop} {Qc : Array Value → State → Outcome → State → Prop} {XC : String → State → State → Prop} {free : Addr → Prop} {Ts : List Cond} {own C : String} {b : Addr} {As rest : List Value} {g : JFrame}
theorem vx_callBack (cb : CallB R s args own index y bytes maxL ret ws rm mc ms n) (hM : vx_Met l y ws rm Pc Qc XC mc ms free) (hbl : FrameBlind Pc) : vx_Back l R p e below s args y 3 8 (PreOf R mc ms Pc) (PostOf Qc mc ms free) (vx_Post XC mc ms free) := by
  obtain ⟨hrc, hrs, hfr, hlo, hws, hcw, -, hini, -⟩ := cb
  exact vx_back (bytes := bytes) (maxL := maxL) (ret := ret) hM hbl hrc hrs hfr hlo hws hcw (fun a' U hW => word_at hW (Or.inl (by first | rfl | simp [Cond.onTables, Cond.keeps, Cond.steady])) hini)
theorem vx_runV (S : CallFix p m c cc nL s args Ts own) (hM : vx_Met l y ws rm Pc Qc XC mc ms free) (cw : CallW R s args own C index y bytes maxL ret ws rm mc ms n) (hp : PreV s H C b Pc As)
    (hg : g.method = m) (hn : As.length = n) (hsize : g.locals.size = nL) (hstack : g.stack = As.reverse ++ .ref b :: rest) (hW : 2 * g.monitorRoom + (rest.map fun v => v.category).sum ≤ 8) (hdg : decode cc g.pc = .ok (.invokevirtual index, 3)) (hf : cells + mc ≤ R.cells ∧ slots + ms ≤ R.slots) :
    vx_Run p l e R s m args below meth c H locs cells slots mc ms g rest (Qc (Value.ref b :: As).toArray) XC free := by
  have hK : vx_Back l R p e below s args y 3 8 (PreOf R mc ms Pc) (PostOf Qc mc ms free) (vx_Post XC mc ms free) := vx_callBack cw.1 hM hp.1
  obtain ⟨⟨-, -, -, -, -, -, hcode, -, hy, hlen, hl⟩, hin, hse⟩ := cw
  obtain ⟨hx, hb, hml, ho, -⟩ := S
  obtain ⟨-, ⟨cellB, hcB, hoB, hclB⟩, hPc⟩ := hp
  intro T hT X
  rcases vx_callV X hx (C := C) (bytes := bytes) (maxL := maxL) (ret := ret) ho hl hin hse hcode hy hK (by rw [hT]; exact hcB) hoB hclB hg (hsize.trans hml.symm) (argsL := As) (rest := rest) (fun sig h => hn.trans (hlen sig h)) hstack hW (by rw [hb]; exact hdg)
    (fun vm₁ hW₁ => ⟨hf.1, hf.2, hPc (T.setVm vm₁) hT hW₁⟩) with ⟨v, vm₁, ⟨U', l2, c2, s2⟩, hW₁, X', ⟨g', mk, t, L, e1, e2, hq, h1, hL, h2, h3⟩, st⟩ | ⟨q, vm₁, ⟨U', l2, c2, s2⟩, hW₁, X', ⟨g', mk, t, L, E, ce, e1, e2, hq, hce, hcv, hcl, h1, hL, h2, h3⟩, st⟩
  · dsimp only [Pt.U, Pt.locs, Pt.cells, Pt.slots] at X' e1 e2 h1 h2 h3 st
    subst h1; subst h2; subst h3
    exact Or.inl ⟨v, (T.setVm vm₁).calling g' mk (Value.ref b :: As).toArray, t, U', L, hT, X', hL, e1, e2, hq, st⟩
  · dsimp only [Pt.U, Pt.locs, Pt.cells, Pt.slots] at X' e1 e2 h1 h2 h3 st hcl
    subst h1; subst h2; subst h3
    exact Or.inr ⟨q, (T.setVm vm₁).calling g' mk (Value.ref b :: As).toArray, t, U', L, E, ce, hT, X', hL, e1, e2, hq, hce, hcv, vx_cls hW₁ hcl, st⟩
theorem vx_runS (S : CallFix p m c cc nL s args Ts own) (hM : vx_Met l y ws rm Pc Qc XC mc ms free) (cw : CallB R s args own index y bytes maxL ret ws rm mc ms n ∧ (Cond.static y).before args s = true) (hp : PreS s H Pc As)
    (hg : g.method = m) (hn : As.length = n) (hsize : g.locals.size = nL) (hstack : g.stack = As.reverse ++ rest) (hW : 2 * g.monitorRoom + (rest.map fun v => v.category).sum ≤ 8) (hdg : decode cc g.pc = .ok (.invokestatic index, 3)) (hf : cells + mc ≤ R.cells ∧ slots + ms ≤ R.slots) :
    vx_Run p l e R s m args below meth c H locs cells slots mc ms g rest (Qc As.toArray) XC free := by
  have hK : vx_Back l R p e below s args y 3 8 (PreOf R mc ms Pc) (PostOf Qc mc ms free) (vx_Post XC mc ms free) := vx_callBack cw.1 hM hp.1
  obtain ⟨⟨-, -, -, -, -, -, hcode, hini, hy, hlen, hl⟩, hstt⟩ := cw
  obtain ⟨hx, hb, hml, ho, -⟩ := S
  intro T hT X
  rcases vx_callS X hx (bytes := bytes) (maxL := maxL) (ret := ret) ho hl hstt hini hcode hy hK hg (hsize.trans hml.symm) (argsL := As) (rest := rest) (fun sig h => hn.trans (hlen sig h)) hstack hW (by rw [hb]; exact hdg)
    (fun vm₁ hW₁ => ⟨hf.1, hf.2, hp.2 (T.setVm vm₁) hT hW₁⟩) with ⟨v, vm₁, ⟨U', l2, c2, s2⟩, hW₁, X', ⟨g', mk, t, L, e1, e2, hq, h1, hL, h2, h3⟩, st⟩ | ⟨q, vm₁, ⟨U', l2, c2, s2⟩, hW₁, X', ⟨g', mk, t, L, E, ce, e1, e2, hq, hce, hcv, hcl, h1, hL, h2, h3⟩, st⟩
  · dsimp only [Pt.U, Pt.locs, Pt.cells, Pt.slots] at X' e1 e2 h1 h2 h3 st
    subst h1; subst h2; subst h3
    exact Or.inl ⟨v, (T.setVm vm₁).calling g' mk As.toArray, t, U', L, hT, X', hL, e1, e2, hq, st⟩
  · dsimp only [Pt.U, Pt.locs, Pt.cells, Pt.slots] at X' e1 e2 h1 h2 h3 st hcl
    subst h1; subst h2; subst h3
    exact Or.inr ⟨q, (T.setVm vm₁).calling g' mk As.toArray, t, U', L, E, ce, hT, X', hL, e1, e2, hq, hce, hcv, vx_cls hW₁ hcl, st⟩
end Runs
section Rows
variable {p : Program} {l : Launch} {e : Env} {R : Room} {s : State} {m : MethodId} {args : Array Value} {below : List Frame} {meth : Method} {c : Code} {H : Heap} {locs : List Loc} {cells slots : Nat} {Q : State → Prop}
variable {mc ms : Nat} {free : Addr → Prop} {A0 A1 : Nat → Prop} {H0 : Heap} {a : Array Value} {pc : Nat} {ls : Array Slot} {st0 rest : List Value}
theorem vx_keep {st₀ t T' : State} {L : List Loc} (h0 : st₀.heap = H) (e1 : T'.heap = t.heap) (hS : va_S A0 H0 H locs) (hA : ∀ q, q < H.size → A1 q → A0 q) (hf : ∀ q, free q → A0 q) (hL : ∀ q ∈ L, free q.base) (hF : va_F A1 st₀ t) :
    H.size ≤ T'.heap.size ∧ (∀ q : Nat, q < H.size → ¬ A1 q → T'.heap[q]? = H[q]?) ∧ va_S A0 H0 T'.heap (locs ++ L) := by
  obtain ⟨hz, hk⟩ := hF
  rw [h0] at hz hk
  exact ⟨by rw [e1]; exact hz, fun q h1 h2 => by rw [e1]; exact hk q h1 h2,
    ⟨Nat.le_trans hS.1 (by rw [e1]; exact hz), fun q h1 h2 => by rw [e1, hk q (Nat.lt_of_lt_of_le h1 hS.1) (fun z => h2 (hA q (Nat.lt_of_lt_of_le h1 hS.1) z))]; exact hS.2.1 q h1 h2, fun q hq => by
      rcases List.mem_append.mp hq with h | h
      · exact hS.2.2 q h
      · exact hf _ (hL q h)⟩⟩
theorem vx_calli {S SX : Type} {post : Int32 → S → Prop} {px : SX → Prop} {B : S → State → Prop} {BX : String → SX → State → Prop} {AX : Nat → Prop} (hr : vx_Run p l e R s m args below meth c H locs cells slots mc ms (F0 m pc ls st0) rest (va_Qi post B A1 a) (vx_X px BX AX) free) (hS : va_S A0 H0 H locs) (hA : ∀ q, q < H.size → A1 q → A0 q) (hf : ∀ q, free q → A0 q) (hAX : ∀ q, q < H.size → AX q → A0 q)
    (kx : ∀ (E : String) (ce : Cell) (q9 : Addr) (u : SX) (t : State) (H1 : Heap) (locs1 : List Loc), t.heap = H1 → s.vm.Alike t.vm → px u → BX E u t → H.size ≤ H1.size → (∀ q : Nat, q < H.size → ¬ AX q → H1[q]? = H[q]?) → va_S A0 H0 H1 locs1 → H1[q9]? = some ce → ce.vm = .none → s.vm.findClass E = some ce.cls → vx_W p l e R s m args below meth c H1 locs1 (cells + mc) (slots + ms) Q (F0 m pc ls rest) q9)
    (kk : ∀ (r : Int32) (u : S) (t : State) (H1 : Heap) (locs1 : List Loc), t.heap = H1 → s.vm.Alike t.vm → post r u → B u t → H.size ≤ H1.size → (∀ q : Nat, q < H.size → ¬ A1 q → H1[q]? = H[q]?) → va_S A0 H0 H1 locs1 → W p l e R s m args below meth c H1 locs1 (cells + mc) (slots + ms) Q (F0 m (pc + 3) ls (.int r :: rest))) : W p l e R s m args below meth c H locs cells slots Q (F0 m pc ls st0) := by
  intro T hT X
  rcases hr T hT X with ⟨v, st₀, t, T', L, h0, X', hL, e1, e2, ⟨⟨r, u, hv, hp, hb⟩, hF⟩, st⟩ | ⟨q, st₀, t, T', L, E, ce, h0, X', hL, e1, e2, ⟨u, hp, hb, hF⟩, hce, hcv, hcl, st⟩
  · cases hv
    obtain ⟨k1, k2, k3⟩ := vx_keep h0 e1 hS hA hf hL hF
    obtain ⟨t2, a1, b1⟩ := kk r u t T'.heap (locs ++ L) e1.symm (by rw [← e2]; exact X'.warmed.alike) hp hb k1 k2 k3 T' rfl X'
    exact ⟨t2, st t2 a1, b1⟩
  · obtain ⟨k1, k2, k3⟩ := vx_keep h0 e1 hS hAX hf hL hF
    obtain ⟨t2, a1, b1⟩ := kx E ce q u t T'.heap (locs ++ L) e1.symm (by rw [← e2]; exact X'.warmed.alike) hp hb k1 k2 k3 (by rw [e1]; exact hce) hcv hcl T' rfl X'
    exact ⟨t2, st.trans a1, b1⟩
theorem vx_calll {S SX : Type} {post : Int64 → S → Prop} {px : SX → Prop} {B : S → State → Prop} {BX : String → SX → State → Prop} {AX : Nat → Prop} (hr : vx_Run p l e R s m args below meth c H locs cells slots mc ms (F0 m pc ls st0) rest (va_Ql post B A1 a) (vx_X px BX AX) free) (hS : va_S A0 H0 H locs) (hA : ∀ q, q < H.size → A1 q → A0 q) (hf : ∀ q, free q → A0 q) (hAX : ∀ q, q < H.size → AX q → A0 q)
    (kx : ∀ (E : String) (ce : Cell) (q9 : Addr) (u : SX) (t : State) (H1 : Heap) (locs1 : List Loc), t.heap = H1 → s.vm.Alike t.vm → px u → BX E u t → H.size ≤ H1.size → (∀ q : Nat, q < H.size → ¬ AX q → H1[q]? = H[q]?) → va_S A0 H0 H1 locs1 → H1[q9]? = some ce → ce.vm = .none → s.vm.findClass E = some ce.cls → vx_W p l e R s m args below meth c H1 locs1 (cells + mc) (slots + ms) Q (F0 m pc ls rest) q9)
    (kk : ∀ (r : Int64) (u : S) (t : State) (H1 : Heap) (locs1 : List Loc), t.heap = H1 → s.vm.Alike t.vm → post r u → B u t → H.size ≤ H1.size → (∀ q : Nat, q < H.size → ¬ A1 q → H1[q]? = H[q]?) → va_S A0 H0 H1 locs1 → W p l e R s m args below meth c H1 locs1 (cells + mc) (slots + ms) Q (F0 m (pc + 3) ls (.long r :: rest))) : W p l e R s m args below meth c H locs cells slots Q (F0 m pc ls st0) := by
  intro T hT X
  rcases hr T hT X with ⟨v, st₀, t, T', L, h0, X', hL, e1, e2, ⟨⟨r, u, hv, hp, hb⟩, hF⟩, st⟩ | ⟨q, st₀, t, T', L, E, ce, h0, X', hL, e1, e2, ⟨u, hp, hb, hF⟩, hce, hcv, hcl, st⟩
  · cases hv
    obtain ⟨k1, k2, k3⟩ := vx_keep h0 e1 hS hA hf hL hF
    obtain ⟨t2, a1, b1⟩ := kk r u t T'.heap (locs ++ L) e1.symm (by rw [← e2]; exact X'.warmed.alike) hp hb k1 k2 k3 T' rfl X'
    exact ⟨t2, st t2 a1, b1⟩
  · obtain ⟨k1, k2, k3⟩ := vx_keep h0 e1 hS hAX hf hL hF
    obtain ⟨t2, a1, b1⟩ := kx E ce q u t T'.heap (locs ++ L) e1.symm (by rw [← e2]; exact X'.warmed.alike) hp hb k1 k2 k3 (by rw [e1]; exact hce) hcv hcl T' rfl X'
    exact ⟨t2, st.trans a1, b1⟩
theorem vx_callf {S SX : Type} {post : UInt32 → S → Prop} {px : SX → Prop} {B : S → State → Prop} {BX : String → SX → State → Prop} {AX : Nat → Prop} (hr : vx_Run p l e R s m args below meth c H locs cells slots mc ms (F0 m pc ls st0) rest (va_Qf post B A1 a) (vx_X px BX AX) free) (hS : va_S A0 H0 H locs) (hA : ∀ q, q < H.size → A1 q → A0 q) (hf : ∀ q, free q → A0 q) (hAX : ∀ q, q < H.size → AX q → A0 q)
    (kx : ∀ (E : String) (ce : Cell) (q9 : Addr) (u : SX) (t : State) (H1 : Heap) (locs1 : List Loc), t.heap = H1 → s.vm.Alike t.vm → px u → BX E u t → H.size ≤ H1.size → (∀ q : Nat, q < H.size → ¬ AX q → H1[q]? = H[q]?) → va_S A0 H0 H1 locs1 → H1[q9]? = some ce → ce.vm = .none → s.vm.findClass E = some ce.cls → vx_W p l e R s m args below meth c H1 locs1 (cells + mc) (slots + ms) Q (F0 m pc ls rest) q9)
    (kk : ∀ (r : UInt32) (u : S) (t : State) (H1 : Heap) (locs1 : List Loc), t.heap = H1 → s.vm.Alike t.vm → post r u → B u t → H.size ≤ H1.size → (∀ q : Nat, q < H.size → ¬ A1 q → H1[q]? = H[q]?) → va_S A0 H0 H1 locs1 → W p l e R s m args below meth c H1 locs1 (cells + mc) (slots + ms) Q (F0 m (pc + 3) ls (.float r :: rest))) : W p l e R s m args below meth c H locs cells slots Q (F0 m pc ls st0) := by
  intro T hT X
  rcases hr T hT X with ⟨v, st₀, t, T', L, h0, X', hL, e1, e2, ⟨⟨r, u, hv, hp, hb⟩, hF⟩, st⟩ | ⟨q, st₀, t, T', L, E, ce, h0, X', hL, e1, e2, ⟨u, hp, hb, hF⟩, hce, hcv, hcl, st⟩
  · cases hv
    obtain ⟨k1, k2, k3⟩ := vx_keep h0 e1 hS hA hf hL hF
    obtain ⟨t2, a1, b1⟩ := kk r u t T'.heap (locs ++ L) e1.symm (by rw [← e2]; exact X'.warmed.alike) hp hb k1 k2 k3 T' rfl X'
    exact ⟨t2, st t2 a1, b1⟩
  · obtain ⟨k1, k2, k3⟩ := vx_keep h0 e1 hS hAX hf hL hF
    obtain ⟨t2, a1, b1⟩ := kx E ce q u t T'.heap (locs ++ L) e1.symm (by rw [← e2]; exact X'.warmed.alike) hp hb k1 k2 k3 (by rw [e1]; exact hce) hcv hcl T' rfl X'
    exact ⟨t2, st.trans a1, b1⟩
theorem vx_calld {S SX : Type} {post : UInt64 → S → Prop} {px : SX → Prop} {B : S → State → Prop} {BX : String → SX → State → Prop} {AX : Nat → Prop} (hr : vx_Run p l e R s m args below meth c H locs cells slots mc ms (F0 m pc ls st0) rest (va_Qd post B A1 a) (vx_X px BX AX) free) (hS : va_S A0 H0 H locs) (hA : ∀ q, q < H.size → A1 q → A0 q) (hf : ∀ q, free q → A0 q) (hAX : ∀ q, q < H.size → AX q → A0 q)
    (kx : ∀ (E : String) (ce : Cell) (q9 : Addr) (u : SX) (t : State) (H1 : Heap) (locs1 : List Loc), t.heap = H1 → s.vm.Alike t.vm → px u → BX E u t → H.size ≤ H1.size → (∀ q : Nat, q < H.size → ¬ AX q → H1[q]? = H[q]?) → va_S A0 H0 H1 locs1 → H1[q9]? = some ce → ce.vm = .none → s.vm.findClass E = some ce.cls → vx_W p l e R s m args below meth c H1 locs1 (cells + mc) (slots + ms) Q (F0 m pc ls rest) q9)
    (kk : ∀ (r : UInt64) (u : S) (t : State) (H1 : Heap) (locs1 : List Loc), t.heap = H1 → s.vm.Alike t.vm → post r u → B u t → H.size ≤ H1.size → (∀ q : Nat, q < H.size → ¬ A1 q → H1[q]? = H[q]?) → va_S A0 H0 H1 locs1 → W p l e R s m args below meth c H1 locs1 (cells + mc) (slots + ms) Q (F0 m (pc + 3) ls (.double r :: rest))) : W p l e R s m args below meth c H locs cells slots Q (F0 m pc ls st0) := by
  intro T hT X
  rcases hr T hT X with ⟨v, st₀, t, T', L, h0, X', hL, e1, e2, ⟨⟨r, u, hv, hp, hb⟩, hF⟩, st⟩ | ⟨q, st₀, t, T', L, E, ce, h0, X', hL, e1, e2, ⟨u, hp, hb, hF⟩, hce, hcv, hcl, st⟩
  · cases hv
    obtain ⟨k1, k2, k3⟩ := vx_keep h0 e1 hS hA hf hL hF
    obtain ⟨t2, a1, b1⟩ := kk r u t T'.heap (locs ++ L) e1.symm (by rw [← e2]; exact X'.warmed.alike) hp hb k1 k2 k3 T' rfl X'
    exact ⟨t2, st t2 a1, b1⟩
  · obtain ⟨k1, k2, k3⟩ := vx_keep h0 e1 hS hAX hf hL hF
    obtain ⟨t2, a1, b1⟩ := kx E ce q u t T'.heap (locs ++ L) e1.symm (by rw [← e2]; exact X'.warmed.alike) hp hb k1 k2 k3 (by rw [e1]; exact hce) hcv hcl T' rfl X'
    exact ⟨t2, st.trans a1, b1⟩
theorem vx_callv {S SX : Type} {post : S → Prop} {px : SX → Prop} {B : S → State → Prop} {BX : String → SX → State → Prop} {AX : Nat → Prop} (hr : vx_Run p l e R s m args below meth c H locs cells slots mc ms (F0 m pc ls st0) rest (va_Qv post B A1 a) (vx_X px BX AX) free) (hS : va_S A0 H0 H locs) (hA : ∀ q, q < H.size → A1 q → A0 q) (hf : ∀ q, free q → A0 q) (hAX : ∀ q, q < H.size → AX q → A0 q)
    (kx : ∀ (E : String) (ce : Cell) (q9 : Addr) (u : SX) (t : State) (H1 : Heap) (locs1 : List Loc), t.heap = H1 → s.vm.Alike t.vm → px u → BX E u t → H.size ≤ H1.size → (∀ q : Nat, q < H.size → ¬ AX q → H1[q]? = H[q]?) → va_S A0 H0 H1 locs1 → H1[q9]? = some ce → ce.vm = .none → s.vm.findClass E = some ce.cls → vx_W p l e R s m args below meth c H1 locs1 (cells + mc) (slots + ms) Q (F0 m pc ls rest) q9)
    (kk : ∀ (u : S) (t : State) (H1 : Heap) (locs1 : List Loc), t.heap = H1 → s.vm.Alike t.vm → post u → B u t → H.size ≤ H1.size → (∀ q : Nat, q < H.size → ¬ A1 q → H1[q]? = H[q]?) → va_S A0 H0 H1 locs1 → W p l e R s m args below meth c H1 locs1 (cells + mc) (slots + ms) Q (F0 m (pc + 3) ls (rest))) : W p l e R s m args below meth c H locs cells slots Q (F0 m pc ls st0) := by
  intro T hT X
  rcases hr T hT X with ⟨v, st₀, t, T', L, h0, X', hL, e1, e2, ⟨⟨u, hv, hp, hb⟩, hF⟩, st⟩ | ⟨q, st₀, t, T', L, E, ce, h0, X', hL, e1, e2, ⟨u, hp, hb, hF⟩, hce, hcv, hcl, st⟩
  · cases hv
    obtain ⟨k1, k2, k3⟩ := vx_keep h0 e1 hS hA hf hL hF
    obtain ⟨t2, a1, b1⟩ := kk u t T'.heap (locs ++ L) e1.symm (by rw [← e2]; exact X'.warmed.alike) hp hb k1 k2 k3 T' rfl X'
    exact ⟨t2, st t2 a1, b1⟩
  · obtain ⟨k1, k2, k3⟩ := vx_keep h0 e1 hS hAX hf hL hF
    obtain ⟨t2, a1, b1⟩ := kx E ce q u t T'.heap (locs ++ L) e1.symm (by rw [← e2]; exact X'.warmed.alike) hp hb k1 k2 k3 (by rw [e1]; exact hce) hcv hcl T' rfl X'
    exact ⟨t2, st.trans a1, b1⟩
/-- caught by the row x of this method's table; the rows ahead don't take it -/
theorem vx_catch {own name : String} {E : String} {ce : Cell} {q : Addr} (hown : s.vm.findClass own = some m.cls) (pre : List ExceptionTableEntry) (x : ExceptionTableEntry) (suf : List ExceptionTableEntry) (hsplit : c.exceptionTable.toList = pre ++ x :: suf)
    (hpass : ∀ z ∈ pre, covers z pc = false ∨ (z.catchType ≠ 0 ∧ ∃ nm : String, (Cond.classLink own z.catchType nm).before args s = true ∧ va_Nc E nm s)) (hx : covers x pc = true) (h0 : x.catchType ≠ 0)
    (hlink : (Cond.classLink own x.catchType name).before args s = true) (hcast : (Cond.castable E name).before args s = true) (hcell : H[q]? = some ce) (hv : ce.vm = .none) (hcl : s.vm.findClass E = some ce.cls)
    (kk : W p l e R s m args below meth c H locs cells slots Q (F0 m x.handlerPc ls [.ref q])) : vx_W p l e R s m args below meth c H locs cells slots Q (F0 m pc ls rest) q := by
  intro T hT X
  have hpl : e.platform.magicAccessors = ({} : Platform).magicAccessors := by rw [X.admits.platform]
  obtain ⟨c3, c4, hc3, hc4, hasg⟩ := Cond.castable_spec hcast
  cases Option.some.inj (hc3.symm.trans hcl)
  obtain ⟨c5, hc5, hcl5⟩ := Cond.classLink_spec hown hlink e.platform hpl
  cases Option.some.inj (hc4.symm.trans hc5)
  obtain ⟨vm', X', st⟩ := X.thenCaughtThrough q (g := F0 m pc ls rest) rfl (Steps.refl _) (by rw [hT]; exact hcell) (by rw [hv]; rfl) (by obtain ⟨k9, h9, -⟩ := Vm.findClass_spec hcl; exact ⟨k9, h9⟩) pre x suf hsplit
    (fun z hz => by
      rcases hpass z hz with h | ⟨hz0, nm, hl1, hn1⟩
      · exact Or.inl h
      · obtain ⟨c6, hc6, hcl6⟩ := Cond.classLink_spec hown hl1 e.platform hpl
        obtain ⟨a8, b8, h1, h2, h3⟩ := hn1
        cases Option.some.inj (h1.symm.trans hcl)
        cases Option.some.inj (h2.symm.trans hc6)
        exact Or.inr ⟨hz0, _, hcl6, h3⟩) hx (Or.inr ⟨h0, c4, hcl5, hasg⟩)
  obtain ⟨t, a1, b1⟩ := kk (T.setVm vm') hT X'
  exact ⟨t, st.trans a1, b1⟩
end Rows
section Ends
variable {p : Program} {l : Launch} {e : Env} {R : Room} {s : State} {m : MethodId} {args : Array Value} {below : List Frame} {meth : Method} {c : Code} {H : Heap} {locs : List Loc} {cells slots : Nat} {Q : State → Prop}
variable {mc ms : Nat} {free : Addr → Prop} {A0 A1 : Nat → Prop} {H0 : Heap} {a : Array Value} {ls : Array Slot} {st0 rest : List Value}
variable {Qc : Array Value → State → Outcome → State → Prop} {XC : String → State → State → Prop}
/-- what a body that may throw owes at its end -/
def vx_MQ (below : List Frame) (Qc : Array Value → State → Outcome → State → Prop) (XC : String → State → State → Prop) (a : Array Value) (s : State) (mc ms : Nat) (free : Addr → Prop) : State → Prop := fun t =>
  ∃ o, t.status = .running ∧ Ended t below o ∧ vx_Q Qc XC mc ms free a s o t
theorem vx_ret {g : JFrame} {mc ms : Nat} (k : W p l e R s m args below meth c H locs cells slots (MQ below Qc args s mc ms free) g) : W p l e R s m args below meth c H locs cells slots (vx_MQ below Qc XC args s mc ms free) g := by
  intro T hT X
  obtain ⟨t, a1, o, b1, b2, b3, b4⟩ := k T hT X
  exact ⟨t, a1, o, b1, b2, Or.inl ⟨b3, b4⟩⟩
/-- not caught here: it goes on to the caller -/
theorem vx_widen {g : JFrame} {q : Addr} {k n : Nat} (h1 : cells ≤ k) (h2 : slots ≤ n) (kk : vx_W p l e R s m args below meth c H locs k n Q g q) : vx_W p l e R s m args below meth c H locs cells slots Q g q := fun T hT X => kk T hT (stand_widen X h1 h2)
theorem vx_out {pc : Nat} {E : String} {ce : Cell} {q : Addr} {mc ms : Nat} (hout : ∀ x ∈ c.exceptionTable.toList, covers x pc = false) (hlocks : meth.locks = false) (hcell : H[q]? = some ce) (hv : ce.vm = .none) (hcl : s.vm.findClass E = some ce.cls)
    (hx : ∀ t : State, t.heap = H → s.vm.Alike t.vm → XC E s t) (hf : ∀ z ∈ locs, free z.base) (hc : cells ≤ mc) (hs : slots ≤ ms) :
    vx_W p l e R s m args below meth c H locs cells slots (vx_MQ below Qc XC args s mc ms free) (F0 m pc ls rest) q := by
  intro T hT X
  obtain ⟨st1, hrun, hend, hW, hsm⟩ := X.leaveThrown q (g := F0 m pc ls rest) rfl rfl rfl hout hlocks
  have hcell9 : (T.setFrames (.throwing q :: below)).heap[q]? = some ce := by
    show T.heap[q]? = some ce
    rw [hT]; exact hcell
  exact ⟨_, st1, .threw q, hrun, hend, Or.inr ⟨q, rfl, E, ce, locs, hx _ hT hW.alike, hcell9, hv, hcl, hW, hsm.mono hc hs, hf⟩⟩
theorem vx_frame {U : State} {k n : Nat} (h : s.sameButNew ({ U with vm := s.vm } : State) locs k n) : s.heap.size ≤ U.heap.size ∧ ∀ q : Nat, q < s.heap.size → (∀ z ∈ locs, z.base ≠ q) → U.heap[q]? = s.heap[q]? := by
  obtain ⟨-, h2, -, -, -, h6⟩ := h
  refine ⟨h2, fun q hq hz => ?_⟩
  obtain ⟨c9, e1, e2, e3, e4⟩ := h6 q _ (Array.getElem?_eq_getElem hq)
  have hs : c9.slots = (s.heap[q]).slots := Array.ext_getElem? fun i => e4 i fun hm => hz _ hm rfl
  have h9 : c9 = s.heap[q] := by
    rw [hs] at e2
    exact e2
  have e5 : U.heap[q]? = some c9 := e1
  rw [e5, h9, Array.getElem?_eq_getElem hq]
/-- the words of a throw but the four that speak of the heap -/
def vx_no (w : Cond) : Bool := decide (w ≠ .isRef (.static Bundle.tN "UNASSIGNED_STACK" Bundle.steD)) && decide (w ≠ .isRef (.static Bundle.tN "SUPPRESSED_SENTINEL" Bundle.listD)) && decide (w ≠ .laysStatic Bundle.tN "UNASSIGNED_STACK" Bundle.steD) && decide (w ≠ .laysStatic Bundle.tN "SUPPRESSED_SENTINEL" Bundle.listD)
def vx_at0 (own : String) (ic : Nat) (X : String) (names : List String) : List Cond := (Bundle.ownAtoms0 own ic X names).filter vx_no
def vx_atS (own : String) (ic : Nat) (X : String) (names : List String) : List Cond := (Bundle.ownAtoms own ic X names).filter vx_no
/-- a word that the tables alone decide, or a good one -/
def vx_ot (w : Cond) : Bool := w.onTables || goodWord w
theorem vx_ot_at {args a' : Array Value} {s U : State} {w : Cond} (hW : s.WarmedH U.vm) (hvm : s.vm = U.vm) (hg : vx_ot w = true) (h : w.before args s = true) : w.before a' U = true := by
  simp only [vx_ot, Bool.or_eq_true] at hg
  rcases hg with hg | hg
  · exact va_tabs hg hvm h
  · exact word_at hW (good_of_word hg) h
/-- a list's words: the good ones out of the method's own list, the others by premises of their own -/
theorem vx_hat {args : Array Value} {s : State} {L B : List Cond} (h1 : ∀ w ∈ L.filter goodWord, w.before args s = true) (h2 : ∀ w ∈ L.filter (fun w => !goodWord w), w ∈ B) (h3 : ∀ w ∈ B, w.before args s = true) : ∀ w ∈ L, w.before args s = true := by
  intro w hw
  by_cases g : goodWord w = true
  · exact h1 w (List.mem_filter.mpr ⟨hw, g⟩)
  · refine h3 w (h2 w (List.mem_filter.mpr ⟨hw, ?_⟩))
    show (!goodWord w) = true
    cases hgw : goodWord w
    · rfl
    · exact absurd hgw g
theorem vx_c {args : Array Value} {s : State} {w : Cond} {B : List Cond} (h : w.before args s = true) (t : ∀ w ∈ B, w.before args s = true) : ∀ w' ∈ w :: B, w'.before args s = true := fun w' h' => (List.mem_cons.mp h').elim (fun e => by rw [e]; exact h) (t w')
theorem vx_n {args : Array Value} {s : State} : ∀ w ∈ ([] : List Cond), w.before args s = true := fun _ h => nomatch h
theorem vx_own {args : Array Value} {s : State} {L : List Cond} (h1 : ∀ w ∈ L.filter vx_no, w.before args s = true)
    (hU : (Cond.isRef (.static Bundle.tN "UNASSIGNED_STACK" Bundle.steD)).before args s = true) (hN : (Cond.isRef (.static Bundle.tN "SUPPRESSED_SENTINEL" Bundle.listD)).before args s = true)
    (lU : (Cond.laysStatic Bundle.tN "UNASSIGNED_STACK" Bundle.steD).before args s = true) (lN : (Cond.laysStatic Bundle.tN "SUPPRESSED_SENTINEL" Bundle.listD).before args s = true) : ∀ w ∈ L, w.before args s = true := by
  intro w hw
  by_cases e1 : w = .isRef (.static Bundle.tN "UNASSIGNED_STACK" Bundle.steD)
  · rw [e1]; exact hU
  · by_cases e2 : w = .isRef (.static Bundle.tN "SUPPRESSED_SENTINEL" Bundle.listD)
    · rw [e2]; exact hN
    · by_cases e3 : w = .laysStatic Bundle.tN "UNASSIGNED_STACK" Bundle.steD
      · rw [e3]; exact lU
      · by_cases e4 : w = .laysStatic Bundle.tN "SUPPRESSED_SENTINEL" Bundle.listD
        · rw [e4]; exact lN
        · exact h1 w (List.mem_filter.mpr ⟨hw, by unfold vx_no; rw [decide_eq_true e1, decide_eq_true e2, decide_eq_true e3, decide_eq_true e4]; rfl⟩)
/-- where a static field lies, its class's statics cell in H -/
def vx_L (C n d : String) (A : Nat → Prop) (U : State) (H : Heap) : Prop := ∃ (c : ClassId) (k : Class) (i : Nat) (f : Field) (a : Nat) (cell : Cell), U.vm.findClass C = some c ∧ U.fieldFound? C n d = some (c, k, i, f) ∧ f.isStatic = true ∧ k.statics = some a ∧ H[a]? = some cell ∧ cell.vm.isStatics = true ∧ cell.cls = c ∧ f.slot < cell.slots.size ∧ k.staticTypes[f.slot]? = some f.type ∧ ¬ A a
theorem vx_L.moved {C n d : String} {A : Nat → Prop} {u U : State} {H : Heap} (hvm : u.vm.Alike U.vm) (h : vx_L C n d A u H) : vx_L C n d A U H := by
  obtain ⟨c, k, i, f, a, cell, h1, h2, h3, h4, h5, h6, h7, h8, h9, h10⟩ := h
  obtain ⟨k', hi', he⟩ := State.fieldFound?_setVm hvm h2
  exact ⟨c, k', i, f, a, cell, by rw [hvm.findClass]; exact h1, hi', h3, by rw [he]; exact h4, h5, h6, h7, h8, by rw [he]; exact h9, h10⟩
theorem vx_L.kept {C n d : String} {A : Nat → Prop} {U : State} {H H1 : Heap} (h : vx_L C n d A U H) (hq : ∀ a : Nat, a < H.size → ¬ A a → H1[a]? = H[a]?) : vx_L C n d A U H1 := by
  obtain ⟨c, k, i, f, a, cell, h1, h2, h3, h4, h5, h6, h7, h8, h9, h10⟩ := h
  exact ⟨c, k, i, f, a, cell, h1, h2, h3, h4, by rw [hq a (Array.getElem?_eq_some_iff.mp h5).1 h10]; exact h5, h6, h7, h8, h9, h10⟩
theorem vx_L.narrow {C n d : String} {A B : Nat → Prop} {U : State} {H : Heap} (h : vx_L C n d A U H) (hAB : ∀ q, B q → A q) : vx_L C n d B U H := by
  obtain ⟨c, k, i, f, a, cell, h1, h2, h3, h4, h5, h6, h7, h8, h9, h10⟩ := h
  exact ⟨c, k, i, f, a, cell, h1, h2, h3, h4, h5, h6, h7, h8, h9, fun z => h10 (hAB _ z)⟩
theorem vx_L.word {C n d : String} {A : Nat → Prop} {s : State} {args : Array Value} (h : vx_L C n d A s s.heap) : (Cond.laysStatic C n d).before args s = true := by
  obtain ⟨c, k, i, f, a, cell, h1, h2, h3, h4, h5, h6, h7, h8, h9, -⟩ := h
  show (Cond.laysStatic C n d).holds args s none s [] = true
  exact Cond.laysStatic_of h1 h2 h3 h4 h5 h6 h7 h8 h9
/-- .. and what it holds: null or some reference -/
def vx_Zq (C n d : String) (A : Nat → Prop) (U : State) (H : Heap) : Prop := va_Zq C n d A U H ∧ vx_L C n d A U H
theorem vx_Zq.moved {C n d : String} {A : Nat → Prop} {u U : State} {H : Heap} (hvm : u.vm.Alike U.vm) (h : vx_Zq C n d A u H) : vx_Zq C n d A U H := ⟨va_Zq.moved hvm h.1, vx_L.moved hvm h.2⟩
theorem vx_Zq.kept {C n d : String} {A : Nat → Prop} {U : State} {H H1 : Heap} (h : vx_Zq C n d A U H) (hq : ∀ a : Nat, a < H.size → ¬ A a → H1[a]? = H[a]?) : vx_Zq C n d A U H1 := ⟨va_Zq.kept h.1 hq, vx_L.kept h.2 hq⟩
theorem vx_Zq.narrow {C n d : String} {A B : Nat → Prop} {U : State} {H : Heap} (h : vx_Zq C n d A U H) (hAB : ∀ q, B q → A q) : vx_Zq C n d B U H := ⟨va_Zq.narrow h.1 hAB, vx_L.narrow h.2 hAB⟩
theorem vx_Zqof {args : Array Value} {s : State} {C n d : String} {A : Nat → Prop} (hl : (Cond.laysStatic C n d).before args s = true) (hini : (Cond.initialized C).before args s = true) (h : (Cond.isRef (.static C n d)).before args s = true) (hA : ∀ a : Nat, a < s.heap.size → ¬ A a) : vx_Zq C n d A s s.heap := by
  refine ⟨va_Zqof hl hini h hA, ?_⟩
  obtain ⟨c, k, i, f, a, cell, h1, h2, h3, h4, h5, h6, h7, h8, h9⟩ := Cond.laysStatic_spec hl
  exact ⟨c, k, i, f, a, cell, h1, h2, h3, h4, h5, h6, h7, h8, h9, hA a (Array.getElem?_eq_some_iff.mp h5).1⟩
theorem vx_isRef {C n d : String} {v : Value} {A : Nat → Prop} {s : State} {args : Array Value} (h : va_Z C n d v A s s.heap) (hv : v.isRef = true) : (Cond.isRef (.static C n d)).before args s = true := by
  obtain ⟨cf, kf, fi, f, a, cell, h1, h2, h3, h4, h5, h6, h7, -⟩ := h
  have he : (Term.static C n d).eval args s none [] s = some v := by
    simp [Term.eval, State.fieldNamed?, h1, h2, h4, h5, h6, h7]
  simp only [Cond.before, Cond.holds, Cond.value, he]
  cases v <;> simp_all [Value.isRef]
theorem vx_isRefq {C n d : String} {A : Nat → Prop} {s : State} {args : Array Value} (h : va_Zq C n d A s s.heap) : (Cond.isRef (.static C n d)).before args s = true := by
  rcases h with h | ⟨t, h⟩
  · exact vx_isRef h rfl
  · exact vx_isRef h rfl
/-- the same frame, seen from here: as if the method were called anew in this heap -/
theorem vx_rebase {T : State} (X : Stand p l e R s m args below meth c T locs cells slots) {R' : Room} (hf : R'.frames ≤ R.frames) (hl : R'.locals ≤ R.locals) (hc : cells + R'.cells ≤ R.cells) (hs : slots + R'.slots ≤ R.slots) :
    Stand p l e R' ((T.setVm s.vm).setFrames (.invoking m args :: below)) m args below meth c T [] 0 0 := by
  have htop : (T.setVm s.vm).topJava?.isSome := X.here.top
  have hF : ((T.setVm s.vm).setFrames (.invoking m args :: below)).frames = .invoking m args :: below := State.frames_setFrames _ (State.cur_lt_of_top htop)
  obtain ⟨g₀, hg0⟩ := Option.isSome_iff_exists.mp htop
  obtain ⟨r, hr⟩ := State.topJava?_eq_some.mp hg0
  have hl9 : e.platform.stackLimits (T.setVm s.vm).me = e.platform.stackLimits s.me := X.limits
  have hb9 : (T.setVm s.vm).me.stackBytes = s.me.stackBytes := X.bytes
  refine ⟨X.admits, X.cas, X.clock, hF, ?_, X.hears, X.method, X.code, X.here, X.tail, X.warmed, ?_, ?_, ?_⟩
  · have h := X.room
    have hU : ((T.setVm s.vm).setFrames (.invoking m args :: below)).localsInUse = s.localsInUse := by
      rw [State.localsInUse_invoking hF (meth := meth) (c := c) X.method X.code, State.localsInUse_invoking X.frames X.method X.code]
    simp only [State.hasRoom, Bool.and_eq_true, decide_eq_true_eq] at h ⊢
    obtain ⟨⟨⟨⟨h1, h2, h3, h4, h5, h6⟩, h7⟩, h8⟩, h9⟩ := h
    rw [X.frames, List.length_cons] at h2 h3
    have q1 := X.heapSize
    have q2 := X.used
    simp only [hF, hU, List.length_cons, State.stackLimits_setFrames, State.stackBytes_setFrames, hl9, hb9]
    refine ⟨⟨⟨⟨by omega, by omega, by omega, by omega, by omega, h6⟩, ?_⟩, ?_⟩, X.book⟩
    · show T.heap.size + R'.cells ≤ e.platform.maxCells
      omega
    · show T.slotsUsed + R'.slots ≤ e.platform.maxSlots
      omega
  · rw [State.stackLimits_setFrames]; rfl
  · rw [State.stackBytes_setFrames]; rfl
  · refine ⟨?_, Nat.le_refl _, Nat.le_refl _, ?_, ?_, fun a c9 h9 => ⟨c9, h9, rfl, rfl, fun _ _ => rfl⟩⟩
    · obtain ⟨t, ht, -⟩ := State.frames_cons hr
      show T.setVm s.vm = { ((T.setVm s.vm).setFrames (.invoking m args :: below)).setFrames (T.setVm s.vm).frames with heap := T.heap, slotsUsed := T.slotsUsed }
      rw [State.setFrames_setFrames, State.setFrames_self ht]
      rfl
    · show T.slotsUsed = T.slotsUsed + ((T.heap.toList.drop T.heap.size).map (·.slots.size)).sum
      rw [List.drop_eq_nil_of_le (Nat.le_of_eq Array.length_toList)]
      rfl
    · show ((T.heap.toList.drop T.heap.size).map (·.slots.size)).sum ≤ 0
      rw [List.drop_eq_nil_of_le (Nat.le_of_eq Array.length_toList)]
      exact Nat.le_refl _
/-- 'throw new E()': new; dup; invokespecial; athrow -/
theorem vx_throw0 {cc : ByteArray} {pc : Nat} (hexec : p.tables.exec = Jvm.exec) (hb : c.code = cc) (hl : l.stackTraces = false) {own cls : String} {names : List String} {ik ic mc ms : Nat} {A : Nat → Prop}
    (hown : s.vm.findClass own = some m.cls) (hcls : Bundle.fit cls = true) (hnames : ∀ n ∈ names, Bundle.fit n = true)
    (hk : (Cond.classLink own ik cls).before args s = true) (hini : (Cond.initialized cls).before args s = true) (hat : ∀ w ∈ vx_at0 own ic cls names, w.before args s = true)
    (hgood : ∀ w ∈ Cond.classLink own ik cls :: Cond.initialized cls :: vx_at0 own ic cls names, vx_ot w = true)
    (hU : vx_Zq Bundle.tN "UNASSIGNED_STACK" Bundle.steD A s s.heap) (hN : vx_Zq Bundle.tN "SUPPRESSED_SENTINEL" Bundle.listD A s s.heap) (hS : va_S A s.heap H locs) (hsize : ls.size = c.maxLocals)
    (d0 : decode cc pc = .ok (.new ik, 3)) (d3 : decode cc (pc + 3) = .ok (.dup, 1)) (d4 : decode cc (pc + 4) = .ok (.invokespecial ic, 3)) (d7 : decode cc (pc + 7) = .ok (.athrow, 1))
    (hout : ∀ x ∈ c.exceptionTable.toList, covers x (pc + 7) = false)
    (hRframes : names.length + 3 < R.frames) (hRlocals : (rest.map fun v => v.category).sum + (13 * (names.length + 1) + 42) ≤ R.locals) (hRcells : cells + 1 ≤ R.cells) (hRslots : slots + 6 ≤ R.slots) (hlocks : meth.locks = false)
    (hx : ∀ t : State, s.vm.Alike t.vm → H.size ≤ t.heap.size → (∀ q : Nat, q < H.size → t.heap[q]? = H[q]?) → XC cls s t)
    (hf : ∀ z ∈ locs, free z.base) (hc : cells + 1 ≤ mc) (hs : slots + 6 ≤ ms) :
    W p l e R s m args below meth c H locs cells slots (vx_MQ below Qc XC args s mc ms free) (F0 m pc ls rest) := by
  intro T hT X
  have htr : e.platform.stackTraces = false := (show e.platform.stackTraces = l.stackTraces by rw [X.admits.platform]).trans hl
  have Y := vx_rebase X (R' := { frames := R.frames, locals := R.locals, cells := 1, slots := 6 }) (Nat.le_refl _) (Nat.le_refl _) hRcells hRslots
  obtain ⟨s', hA⟩ : ∃ z, z = (T.setVm s.vm).setFrames (.invoking m args :: below) := ⟨_, rfl⟩
  rw [← hA] at Y
  have hvm : s'.vm = s.vm := by rw [hA]; rfl
  have hhp : s'.heap = H := by rw [hA]; exact hT
  have hW0 : s.WarmedH s'.vm := by rw [hvm]; exact State.WarmedH.refl s
  have hat' : ∀ w ∈ vx_at0 own ic cls names, w.before args s' = true := fun w hw => vx_ot_at hW0 hvm.symm (hgood w (List.mem_cons_of_mem _ (List.mem_cons_of_mem _ hw))) (hat w hw)
  have hk' : (Cond.classLink own ik cls).before args s' = true := vx_ot_at hW0 hvm.symm (hgood _ List.mem_cons_self) hk
  have hini' : (Cond.initialized cls).before args s' = true := vx_ot_at hW0 hvm.symm (hgood _ (List.mem_cons_of_mem _ List.mem_cons_self)) hini
  have hU' : vx_Zq Bundle.tN "UNASSIGNED_STACK" Bundle.steD A s' s'.heap := by rw [hhp]; exact vx_Zq.moved hW0.alike (hU.kept hS.2.1)
  have hN' : vx_Zq Bundle.tN "SUPPRESSED_SENTINEL" Bundle.listD A s' s'.heap := by rw [hhp]; exact vx_Zq.moved hW0.alike (hN.kept hS.2.1)
  have h : ∀ w ∈ Bundle.ownAtoms0 own ic cls names, w.before args s' = true := vx_own hat' (vx_isRefq hU'.1) (vx_isRefq hN'.1) hU'.2.word hN'.2.word
  have hown' : s'.vm.findClass own = some m.cls := by rw [hvm]; exact hown
  have hins : (Cond.instantiable cls 6).before args s' = true := h _ (by simp [Bundle.ownAtoms0])
  obtain ⟨vm₁, cX, kX, hfX, hkX, -, -, X₁, st1⟩ := Y.newCold hexec (own := own) (C := cls) (index := ik) (n := 6) hown' hk' hins hini'
    (g := F0 m pc ls rest) rfl (by rw [hb]; exact d0) (Nat.le_refl _) (Nat.le_refl _)
  generalize hT1 : (T.setVm vm₁).pushCell { cls := cX, slots := kX.instanceTypes.map defaultValue, vm := .none } = T1 at X₁ st1
  have hcat : (Value.ref T.heap.size).category = 1 := rfl
  have hcellA : T1.heap[T.heap.size]? = some (freshCell cX kX) := by rw [← hT1]; exact State.heap_pushCell_size _ _
  have d3' : decode c.code (pc + 3) = .ok (.dup, 1) := by rw [hb]; exact d3
  obtain ⟨U, hsteps, hrun, hend, hW, hsame, ce, hce, hO⟩ := X₁.ctorThrow0 hexec htr (own := own) (cls := cls) (names := names) (ic := ic) hown' hcls hnames h (fun x hx => nomatch hx) hfX hkX hcellA (by rw [hhp, hT]; exact Nat.le_refl _)
    (g := { method := m, pc := pc + 4, locals := ls, stack := .ref T.heap.size :: .ref T.heap.size :: rest, locked := none }) rfl hsize rfl rfl (rest := rest) rfl
    (by rw [hb]; exact d4) (by rw [hb]; exact d7) hout hRframes (by simp only [List.map_cons, List.sum_cons, hcat]; omega) hlocks
  obtain ⟨f1, f2⟩ := vx_frame hsame
  rw [hhp] at f1 f2
  have hWs : s.WarmedH U.vm := State.WarmedH.trans hW0 hW
  have hcl : s.vm.findClass cls = some ce.cls := by
    have h9 := hO.cls
    rw [hvm] at h9
    exact h9
  have hall : s.sameButNew ({ U with vm := s.vm } : State) locs mc ms := by
    subst hA
    obtain ⟨e1, e2⟩ := hsame
    rw [State.setFrames_setFrames] at e1
    have h2 : (T.setVm s.vm).sameButNew ({ U with vm := s.vm } : State) [] (0 + 1) (0 + 6) := ⟨e1, e2⟩
    have h3 := X.same.trans h2
    rw [List.append_nil] at h3
    exact h3.mono hc hs
  refine ⟨U, ?_, .threw T.heap.size, hrun, hend, Or.inr ⟨T.heap.size, rfl, cls, ce, locs, hx U hWs.alike f1 (fun q hq => f2 q hq (fun z hz => nomatch hz)), hce, hO.vm, hcl, hWs, hall, hf⟩⟩
  refine st1 _ ?_
  show Steps p.tables e below (T1.setTop { method := m, pc := pc + 3, locals := ls, stack := .ref T.heap.size :: rest, locked := none }) _
  jvm_step X₁.here [X₁.here.top, hexec, d3', Value.category]
  exact hsteps
/-- 'throw new E("text")': new; dup; ldc; invokespecial; athrow -/
theorem vx_throwS {cc : ByteArray} {pc : Nat} (hexec : p.tables.exec = Jvm.exec) (hb : c.code = cc) (hl : l.stackTraces = false) {own cls text : String} {names : List String} {ik is ic mc ms sa : Nat} {A : Nat → Prop}
    (hown : s.vm.findClass own = some m.cls) (hcls : Bundle.fit cls = true) (hnames : ∀ n ∈ names, Bundle.fit n = true)
    (hk : (Cond.classLink own ik cls).before args s = true) (hini : (Cond.initialized cls).before args s = true) (hstr : vk_R own is text sa s) (hat : ∀ w ∈ vx_atS own ic cls names, w.before args s = true)
    (hgood : ∀ w ∈ Cond.classLink own ik cls :: Cond.initialized cls :: vx_atS own ic cls names, vx_ot w = true)
    (hU : vx_Zq Bundle.tN "UNASSIGNED_STACK" Bundle.steD A s s.heap) (hN : vx_Zq Bundle.tN "SUPPRESSED_SENTINEL" Bundle.listD A s s.heap) (hS : va_S A s.heap H locs) (hsize : ls.size = c.maxLocals)
    (d0 : decode cc pc = .ok (.new ik, 3)) (d3 : decode cc (pc + 3) = .ok (.dup, 1)) (d4 : decode cc (pc + 4) = .ok (.ldc is, 2)) (d6 : decode cc (pc + 6) = .ok (.invokespecial ic, 3)) (d9 : decode cc (pc + 9) = .ok (.athrow, 1))
    (hout : ∀ x ∈ c.exceptionTable.toList, covers x (pc + 9) = false)
    (hRframes : names.length + 3 < R.frames) (hRlocals : (rest.map fun v => v.category).sum + (13 * (names.length + 1) + 43) ≤ R.locals) (hRcells : cells + 1 ≤ R.cells) (hRslots : slots + 6 ≤ R.slots) (hlocks : meth.locks = false)
    (hx : ∀ t : State, s.vm.Alike t.vm → H.size ≤ t.heap.size → (∀ q : Nat, q < H.size → t.heap[q]? = H[q]?) → XC cls s t)
    (hf : ∀ z ∈ locs, free z.base) (hc : cells + 1 ≤ mc) (hs : slots + 6 ≤ ms) :
    W p l e R s m args below meth c H locs cells slots (vx_MQ below Qc XC args s mc ms free) (F0 m pc ls rest) := by
  intro T hT X
  have htr : e.platform.stackTraces = false := (show e.platform.stackTraces = l.stackTraces by rw [X.admits.platform]).trans hl
  have Y := vx_rebase X (R' := { frames := R.frames, locals := R.locals, cells := 1, slots := 6 }) (Nat.le_refl _) (Nat.le_refl _) hRcells hRslots
  obtain ⟨s', hA⟩ : ∃ z, z = (T.setVm s.vm).setFrames (.invoking m args :: below) := ⟨_, rfl⟩
  rw [← hA] at Y
  have hvm : s'.vm = s.vm := by rw [hA]; rfl
  have hhp : s'.heap = H := by rw [hA]; exact hT
  have hW0 : s.WarmedH s'.vm := by rw [hvm]; exact State.WarmedH.refl s
  have hat' : ∀ w ∈ vx_atS own ic cls names, w.before args s' = true := fun w hw => vx_ot_at hW0 hvm.symm (hgood w (List.mem_cons_of_mem _ (List.mem_cons_of_mem _ hw))) (hat w hw)
  have hk' : (Cond.classLink own ik cls).before args s' = true := vx_ot_at hW0 hvm.symm (hgood _ List.mem_cons_self) hk
  have hini' : (Cond.initialized cls).before args s' = true := vx_ot_at hW0 hvm.symm (hgood _ (List.mem_cons_of_mem _ List.mem_cons_self)) hini
  have hU' : vx_Zq Bundle.tN "UNASSIGNED_STACK" Bundle.steD A s' s'.heap := by rw [hhp]; exact vx_Zq.moved hW0.alike (hU.kept hS.2.1)
  have hN' : vx_Zq Bundle.tN "SUPPRESSED_SENTINEL" Bundle.listD A s' s'.heap := by rw [hhp]; exact vx_Zq.moved hW0.alike (hN.kept hS.2.1)
  have h : ∀ w ∈ Bundle.ownAtoms own ic cls names, w.before args s' = true := vx_own hat' (vx_isRefq hU'.1) (vx_isRefq hN'.1) hU'.2.word hN'.2.word
  have hown' : s'.vm.findClass own = some m.cls := by rw [hvm]; exact hown
  have hins : (Cond.instantiable cls 6).before args s' = true := h _ (by simp [Bundle.ownAtoms])
  obtain ⟨vm₁, cX, kX, hfX, hkX, -, -, X₁, st1⟩ := Y.newCold hexec (own := own) (C := cls) (index := ik) (n := 6) hown' hk' hins hini'
    (g := F0 m pc ls rest) rfl (by rw [hb]; exact d0) (Nat.le_refl _) (Nat.le_refl _)
  generalize hT1 : (T.setVm vm₁).pushCell { cls := cX, slots := kX.instanceTypes.map defaultValue, vm := .none } = T1 at X₁ st1
  have hcat : (Value.ref T.heap.size).category = 1 := rfl
  have hcellA : T1.heap[T.heap.size]? = some (freshCell cX kX) := by rw [← hT1]; exact State.heap_pushCell_size _ _
  have d3' : decode c.code (pc + 3) = .ok (.dup, 1) := by rw [hb]; exact d3
  have d4' : decode c.code (pc + 4) = .ok (.ldc is, 2) := by rw [hb]; exact d4
  have hstr' : vk_R own is text sa s' := vk_R.warm hW0 hstr
  obtain ⟨U, hsteps, hrun, hend, hW, hsame, ce, hce, hO⟩ := X₁.ctorThrowS hexec htr (own := own) (cls := cls) (names := names) (ic := ic) hown' hcls hnames h (fun x hx => nomatch hx) hfX hkX hcellA (by rw [hhp, hT]; exact Nat.le_refl _) (msg := .ref sa) rfl
    (g := { method := m, pc := pc + 6, locals := ls, stack := .ref sa :: .ref T.heap.size :: .ref T.heap.size :: rest, locked := none }) rfl hsize rfl rfl (rest := rest) rfl
    (by rw [hb]; exact d6) (by rw [hb]; exact d9) hout hRframes (by simp only [List.map_cons, List.sum_cons, hcat]; omega) hlocks
  obtain ⟨f1, f2⟩ := vx_frame hsame
  rw [hhp] at f1 f2
  have hWs : s.WarmedH U.vm := State.WarmedH.trans hW0 hW
  have hcl : s.vm.findClass cls = some ce.cls := by
    have h9 := hO.cls
    rw [hvm] at h9
    exact h9
  have hall : s.sameButNew ({ U with vm := s.vm } : State) locs mc ms := by
    subst hA
    obtain ⟨e1, e2⟩ := hsame
    rw [State.setFrames_setFrames] at e1
    have h2 : (T.setVm s.vm).sameButNew ({ U with vm := s.vm } : State) [] (0 + 1) (0 + 6) := ⟨e1, e2⟩
    have h3 := X.same.trans h2
    rw [List.append_nil] at h3
    exact h3.mono hc hs
  refine ⟨U, ?_, .threw T.heap.size, hrun, hend, Or.inr ⟨T.heap.size, rfl, cls, ce, locs, hx U hWs.alike f1 (fun q hq => f2 q hq (fun z hz => nomatch hz)), hce, hO.vm, hcl, hWs, hall, hf⟩⟩
  refine st1 _ ?_
  show Steps p.tables e below (T1.setTop { method := m, pc := pc + 3, locals := ls, stack := .ref T.heap.size :: rest, locked := none }) _
  jvm_step X₁.here [X₁.here.top, hexec, d3', Value.category]
  exact X₁.ldcString hexec (own := own) (text := text) (index := is) (a := sa) hown' hstr'.1 hstr'.2
    (g := { method := m, pc := pc + 4, locals := ls, stack := .ref T.heap.size :: .ref T.heap.size :: rest, locked := none }) rfl d4' _ hsteps
/-- 'throw new E("text")', the text by a wide index -/
theorem vx_throwSW {cc : ByteArray} {pc : Nat} (hexec : p.tables.exec = Jvm.exec) (hb : c.code = cc) (hl : l.stackTraces = false) {own cls text : String} {names : List String} {ik is ic mc ms sa : Nat} {A : Nat → Prop}
    (hown : s.vm.findClass own = some m.cls) (hcls : Bundle.fit cls = true) (hnames : ∀ n ∈ names, Bundle.fit n = true)
    (hk : (Cond.classLink own ik cls).before args s = true) (hini : (Cond.initialized cls).before args s = true) (hstr : vk_R own is text sa s) (hat : ∀ w ∈ vx_atS own ic cls names, w.before args s = true)
    (hgood : ∀ w ∈ Cond.classLink own ik cls :: Cond.initialized cls :: vx_atS own ic cls names, vx_ot w = true)
    (hU : vx_Zq Bundle.tN "UNASSIGNED_STACK" Bundle.steD A s s.heap) (hN : vx_Zq Bundle.tN "SUPPRESSED_SENTINEL" Bundle.listD A s s.heap) (hS : va_S A s.heap H locs) (hsize : ls.size = c.maxLocals)
    (d0 : decode cc pc = .ok (.new ik, 3)) (d3 : decode cc (pc + 3) = .ok (.dup, 1)) (d4 : decode cc (pc + 4) = .ok (.ldc_w is, 3)) (d7 : decode cc (pc + 7) = .ok (.invokespecial ic, 3)) (d10 : decode cc (pc + 10) = .ok (.athrow, 1))
    (hout : ∀ x ∈ c.exceptionTable.toList, covers x (pc + 10) = false)
    (hRframes : names.length + 3 < R.frames) (hRlocals : (rest.map fun v => v.category).sum + (13 * (names.length + 1) + 43) ≤ R.locals) (hRcells : cells + 1 ≤ R.cells) (hRslots : slots + 6 ≤ R.slots) (hlocks : meth.locks = false)
    (hx : ∀ t : State, s.vm.Alike t.vm → H.size ≤ t.heap.size → (∀ q : Nat, q < H.size → t.heap[q]? = H[q]?) → XC cls s t)
    (hf : ∀ z ∈ locs, free z.base) (hc : cells + 1 ≤ mc) (hs : slots + 6 ≤ ms) :
    W p l e R s m args below meth c H locs cells slots (vx_MQ below Qc XC args s mc ms free) (F0 m pc ls rest) := by
  intro T hT X
  have htr : e.platform.stackTraces = false := (show e.platform.stackTraces = l.stackTraces by rw [X.admits.platform]).trans hl
  have Y := vx_rebase X (R' := { frames := R.frames, locals := R.locals, cells := 1, slots := 6 }) (Nat.le_refl _) (Nat.le_refl _) hRcells hRslots
  obtain ⟨s', hA⟩ : ∃ z, z = (T.setVm s.vm).setFrames (.invoking m args :: below) := ⟨_, rfl⟩
  rw [← hA] at Y
  have hvm : s'.vm = s.vm := by rw [hA]; rfl
  have hhp : s'.heap = H := by rw [hA]; exact hT
  have hW0 : s.WarmedH s'.vm := by rw [hvm]; exact State.WarmedH.refl s
  have hat' : ∀ w ∈ vx_atS own ic cls names, w.before args s' = true := fun w hw => vx_ot_at hW0 hvm.symm (hgood w (List.mem_cons_of_mem _ (List.mem_cons_of_mem _ hw))) (hat w hw)
  have hk' : (Cond.classLink own ik cls).before args s' = true := vx_ot_at hW0 hvm.symm (hgood _ List.mem_cons_self) hk
  have hini' : (Cond.initialized cls).before args s' = true := vx_ot_at hW0 hvm.symm (hgood _ (List.mem_cons_of_mem _ List.mem_cons_self)) hini
  have hU' : vx_Zq Bundle.tN "UNASSIGNED_STACK" Bundle.steD A s' s'.heap := by rw [hhp]; exact vx_Zq.moved hW0.alike (hU.kept hS.2.1)
  have hN' : vx_Zq Bundle.tN "SUPPRESSED_SENTINEL" Bundle.listD A s' s'.heap := by rw [hhp]; exact vx_Zq.moved hW0.alike (hN.kept hS.2.1)
  have h : ∀ w ∈ Bundle.ownAtoms own ic cls names, w.before args s' = true := vx_own hat' (vx_isRefq hU'.1) (vx_isRefq hN'.1) hU'.2.word hN'.2.word
  have hown' : s'.vm.findClass own = some m.cls := by rw [hvm]; exact hown
  have hins : (Cond.instantiable cls 6).before args s' = true := h _ (by simp [Bundle.ownAtoms])
  obtain ⟨vm₁, cX, kX, hfX, hkX, -, -, X₁, st1⟩ := Y.newCold hexec (own := own) (C := cls) (index := ik) (n := 6) hown' hk' hins hini'
    (g := F0 m pc ls rest) rfl (by rw [hb]; exact d0) (Nat.le_refl _) (Nat.le_refl _)
  generalize hT1 : (T.setVm vm₁).pushCell { cls := cX, slots := kX.instanceTypes.map defaultValue, vm := .none } = T1 at X₁ st1
  have hcat : (Value.ref T.heap.size).category = 1 := rfl
  have hcellA : T1.heap[T.heap.size]? = some (freshCell cX kX) := by rw [← hT1]; exact State.heap_pushCell_size _ _
  have d3' : decode c.code (pc + 3) = .ok (.dup, 1) := by rw [hb]; exact d3
  have d4' : decode c.code (pc + 4) = .ok (.ldc_w is, 3) := by rw [hb]; exact d4
  have hstr' : vk_R own is text sa s' := vk_R.warm hW0 hstr
  obtain ⟨U, hsteps, hrun, hend, hW, hsame, ce, hce, hO⟩ := X₁.ctorThrowS hexec htr (own := own) (cls := cls) (names := names) (ic := ic) hown' hcls hnames h (fun x hx => nomatch hx) hfX hkX hcellA (by rw [hhp, hT]; exact Nat.le_refl _) (msg := .ref sa) rfl
    (g := { method := m, pc := pc + 7, locals := ls, stack := .ref sa :: .ref T.heap.size :: .ref T.heap.size :: rest, locked := none }) rfl hsize rfl rfl (rest := rest) rfl
    (by rw [hb]; exact d7) (by rw [hb]; exact d10) hout hRframes (by simp only [List.map_cons, List.sum_cons, hcat]; omega) hlocks
  obtain ⟨f1, f2⟩ := vx_frame hsame
  rw [hhp] at f1 f2
  have hWs : s.WarmedH U.vm := State.WarmedH.trans hW0 hW
  have hcl : s.vm.findClass cls = some ce.cls := by
    have h9 := hO.cls
    rw [hvm] at h9
    exact h9
  have hall : s.sameButNew ({ U with vm := s.vm } : State) locs mc ms := by
    subst hA
    obtain ⟨e1, e2⟩ := hsame
    rw [State.setFrames_setFrames] at e1
    have h2 : (T.setVm s.vm).sameButNew ({ U with vm := s.vm } : State) [] (0 + 1) (0 + 6) := ⟨e1, e2⟩
    have h3 := X.same.trans h2
    rw [List.append_nil] at h3
    exact h3.mono hc hs
  refine ⟨U, ?_, .threw T.heap.size, hrun, hend, Or.inr ⟨T.heap.size, rfl, cls, ce, locs, hx U hWs.alike f1 (fun q hq => f2 q hq (fun z hz => nomatch hz)), hce, hO.vm, hcl, hWs, hall, hf⟩⟩
  refine st1 _ ?_
  show Steps p.tables e below (T1.setTop { method := m, pc := pc + 3, locals := ls, stack := .ref T.heap.size :: rest, locked := none }) _
  jvm_step X₁.here [X₁.here.top, hexec, d3', Value.category]
  exact X₁.ldcStringW hexec (own := own) (text := text) (index := is) (a := sa) hown' hstr'.1 hstr'.2
    (g := { method := m, pc := pc + 4, locals := ls, stack := .ref T.heap.size :: .ref T.heap.size :: rest, locked := none }) rfl d4' _ hsteps
end Ends
section Bodies
variable {l : Launch}
theorem vx_ofW {y : MethodName} {ws ws' : List Cond} {rm : Room} {Pc : Array Value → State → Prop} {Qc : Array Value → State → Outcome → State → Prop} {XC : String → State → State → Prop} {mc ms : Nat} {free : Addr → Prop} {cc : ByteArray} {maxL : Nat} {ret : Option FieldType}
    (hy : plainName y.cls = true) (hw : ws = Cond.code y cc maxL ret :: ws')
    (body : ∀ p e s m args below meth c s₁, BodyLoose p l y (headSpec ws rm) cc maxL ret e s m args below meth c s₁ → c.maxLocals = maxL → (∀ x ∈ c.exceptionTable.toList, False) → Pc args s →
      W p l e (headSpec ws rm).room s m args below meth c s.heap [] 0 0 (vx_MQ below Qc XC args s mc ms free) (entryFrame m args maxL)) : vx_Met l y ws rm Pc Qc XC mc ms free := by
  refine MetFree.of_bodyS (code := cc) (maxLocals := maxL) (ret := ret) hy ?_ ?_
  · intro args s m h hn
    obtain ⟨meth, c, h1, h2, h3, h4, h5, h6, -, -⟩ := Cond.code_spec hn (atoms_spec (ws := ws) h _ (by rw [hw]; exact List.mem_cons_self))
    exact ⟨meth, c, h1, h2, h3, h4, h5, h6⟩
  · intro p e s m args below meth c s₁ B hml hP _
    have hh0 : s₁.heap = s.heap := by rw [B.state]; rfl
    have ht : ∀ x ∈ c.exceptionTable.toList, False := by
      obtain ⟨meth9, c9, h1, h2, -, -, -, -, h7, -⟩ := Cond.code_spec B.named (atoms_spec (ws := ws) B.pre _ (by rw [hw]; exact List.mem_cons_self))
      cases Option.some.inj (h1.symm.trans B.method)
      cases Option.some.inj (h2.symm.trans (Stand.of_body B).code)
      intro x hx
      rw [Array.isEmpty_iff.mp h7] at hx
      cases hx
    obtain ⟨t, a1, o, b1, b2, b3⟩ := body p e s m args below meth c s₁ B hml ht hP s₁ hh0 (Stand.of_body B)
    exact ⟨t, o, a1, b1, b2, b3⟩
/-- the table of a body with handlers -/
theorem vx_table {p : Program} {x y : MethodName} {S : Spec} {cc bytes : ByteArray} {maxL maxL' : Nat} {ret ret' : Option FieldType} {e : Env} {s s₁ : State} {m : MethodId} {args : Array Value} {below : List Frame} {meth : Method} {c : Code} {hh : List (Nat × Nat × Nat × Nat)}
    (B : BodyLoose p l y S cc maxL ret e s m args below meth c s₁) (h : (Cond.codeWith y bytes maxL' ret' hh).before args s = true) : c.exceptionTable.toList = tableOf hh := by
  obtain ⟨m9, meth9, c9, hn9, h1, h2, -, -, h6, -⟩ := Cond.codeWith_spec h
  cases Option.some.inj (hn9.symm.trans B.named)
  cases Option.some.inj (h1.symm.trans B.method)
  cases Option.some.inj (h2.symm.trans (Stand.of_body B).code)
  rw [← h6, table_eq]
end Bodies
end VXA
/-! ===== END ===== -/
/-! ===== BEGIN a static call of a method with an exception table ===== -/
section VXS
variable {p : Program} {l : Launch} {e : Env} {R : Room} {s : State} {m : MethodId} {args : Array Value} {below : List Frame} {meth : Method} {c : Code} {T : State} {H : Heap} {locs : List Loc} {cells slots : Nat}
abbrev vx_CSW (R : Room) (s : State) (args : Array Value) (own : String) (index : Nat) (y : MethodName) (bytes : ByteArray) (maxL : Nat) (ret : Option FieldType) (hh : List (Nat × Nat × Nat × Nat)) (ws : List Cond) (rm : Room) (mc ms n : Nat) : Prop :=
  (rm.cells = mc ∧ rm.slots = ms ∧ rm.frames + 1 ≤ R.frames ∧ 8 + (maxL + 11) + rm.locals ≤ R.locals ∧ (∀ w ∈ ws, ∀ (a' : Array Value) (U : State), s.WarmedH U.vm → w.before a' U = true) ∧ Cond.codeWith y bytes maxL ret hh ∈ ws) ∧
  (Cond.codeWith y bytes maxL ret hh).before args s = true ∧ (Cond.initialized y.cls).before args s = true ∧ (y.cls ≠ "java/lang/invoke/MethodHandle" ∧ y.cls ≠ "java/lang/invoke/VarHandle") ∧
  (∀ sig, parseMethodDescriptor y.desc = some sig → n = sig.parameters.length) ∧ (Cond.methodLink own index y).before args s = true ∧ (Cond.static y).before args s = true
theorem vx_cwSW {own : String} {index maxL mc ms : Nat} {y : MethodName} {bytes : ByteArray} {ret : Option FieldType} {hh : List (Nat × Nat × Nat × Nat)} {Ts ws ws' : List Cond} {rm : Room} (n : Nat) (ht : ∀ w ∈ Ts, w.before args s = true) (hT : GoodIn Ts (va_wsS own index y ws)) (hw : ws = Cond.codeWith y bytes maxL ret hh :: ws') (hrc : rm.cells = mc) (hrs : rm.slots = ms)
    (hd : y.cls ≠ "java/lang/invoke/MethodHandle" ∧ y.cls ≠ "java/lang/invoke/VarHandle" ∧ (parseMethodDescriptor y.desc).map (fun d => d.parameters.length) = some n) (hR : rm.frames + 1 ≤ R.frames ∧ 8 + (maxL + 11) + rm.locals ≤ R.locals) :
    vx_CSW R s args own index y bytes maxL ret hh ws rm mc ms n := by
  have ok : ∀ w ∈ va_wsS own index y ws, w.before args s = true := fun w h => ht w (hT w h).1
  have hG : GoodIn Ts ws := fun w h => hT w (by unfold va_wsS; exact List.mem_append_right _ h)
  have hc : Cond.codeWith y bytes maxL ret hh ∈ ws := by rw [hw]; exact List.mem_cons_self
  refine ⟨⟨hrc, hrs, hR.1, hR.2, pay_in ht hG, hc⟩, ht _ (hG _ hc).1, ok _ (by simp [va_wsS]), ⟨hd.1, hd.2.1⟩, fun sig h => ?_, ok _ (by simp [va_wsS]), ok _ (by simp [va_wsS])⟩
  have h2 := hd.2.2
  rw [h] at h2
  exact (Option.some.inj h2).symm
theorem vx_callSW (X : Stand p l e R s m args below meth c T locs cells slots) (hexec : p.tables.exec = Jvm.exec) {own : String} {index : Nat} {y : MethodName} {bytes : ByteArray} {maxL : Nat} {ret : Option FieldType} {hh : List (Nat × Nat × Nat × Nat)}
    (hown : s.vm.findClass own = some m.cls) (hlink : (Cond.methodLink own index y).before args s = true) (hstat : (Cond.static y).before args s = true) (hinit : (Cond.initialized y.cls).before args s = true)
    (hcode : (Cond.codeWith y bytes maxL ret hh).before args s = true) (hy : y.cls ≠ "java/lang/invoke/MethodHandle" ∧ y.cls ≠ "java/lang/invoke/VarHandle")
    {W9 : Nat} {Pre : Pt → Array Value → Prop} {Post : Pt → Array Value → Option Value → Pt → Prop} (hK : Back l R p e below s args y 3 W9 Pre Post)
    {g : JFrame} (hg : g.method = m) (hsize : g.locals.size = c.maxLocals) {argsL rest : List Value} (hlen : ∀ sig, parseMethodDescriptor y.desc = some sig → argsL.length = sig.parameters.length)
    (hstack : g.stack = argsL.reverse ++ rest) (hW : 2 * g.monitorRoom + (rest.map fun v => v.category).sum ≤ W9) (hdg : decode c.code g.pc = .ok (.invokestatic index, 3))
    (hpre : ∀ vm₁, s.WarmedH vm₁ → Pre ⟨T.setVm vm₁, locs, cells, slots⟩ argsL.toArray) :
    ∃ (v : Option Value) (vm₁ : Vm) (B : Pt), s.WarmedH vm₁ ∧ Stand p l e R s m args below meth c B.U B.locs B.cells B.slots ∧ Post ⟨T.setVm vm₁, locs, cells, slots⟩ argsL.toArray v B ∧
      ∀ target, Steps p.tables e below (B.U.setTop { g with pc := g.pc + 3, stack := v.toList ++ rest }) target → Steps p.tables e below (T.setTop g) target := by
  obtain ⟨mk, methM, cM, hnamed, hmethM, -, -, -, -, -, -, hsigM⟩ := Cond.codeWith_spec hcode
  have hstatic : methM.isStatic = true := Cond.static_spec hnamed hmethM hstat
  obtain ⟨kP, hkP, -⟩ := className_of_methodNamed hnamed
  have hinitP : kP.init = .initialized := Cond.initialized_spec (findClass_of_methodNamed hnamed) hkP hinit
  obtain ⟨vm₁, X₁, hstep₁⟩ := X.invokestatic hexec hown hlink hnamed hmethM hstatic hkP hinitP hy (g := g) hg (argsL := argsL) (rest := rest) (hlen _ hsigM) hstack hdg
  obtain ⟨v, B, X', hpost, hsteps⟩ := hK m meth c ⟨T.setVm vm₁, locs, cells, slots⟩ { g with stack := rest } (.invokestatic index) mk argsL.toArray X₁ hg hsize hdg hW (X₁.named hnamed) (hpre vm₁ X₁.warmed)
  exact ⟨v, vm₁, B, X₁.warmed, X', hpost, fun target h => hstep₁ _ fun acts => by rw [doInvoke_state]; exact hsteps.trans h⟩
theorem vx_runSW {y : MethodName} {bytes cc : ByteArray} {maxL nL mc ms n index : Nat} {ret : Option FieldType} {hh : List (Nat × Nat × Nat × Nat)} {ws : List Cond} {rm : Room} {Pc : Array Value → State → Prop} {Qc : Array Value → State → Outcome → State → Prop} {free : Addr → Prop} {Ts : List Cond} {own : String} {As rest : List Value} {g : JFrame}
    (S : CallFix p m c cc nL s args Ts own) (hM : Met l y ws rm Pc Qc mc ms free) (cw : vx_CSW R s args own index y bytes maxL ret hh ws rm mc ms n) (hp : PreS s H Pc As)
    (hg : g.method = m) (hn : As.length = n) (hsize : g.locals.size = nL) (hstack : g.stack = As.reverse ++ rest) (hW : 2 * g.monitorRoom + (rest.map fun v => v.category).sum ≤ 8) (hdg : decode cc g.pc = .ok (.invokestatic index, 3)) (hf : cells + mc ≤ R.cells ∧ slots + ms ≤ R.slots) :
    va_Run p l e R s m args below meth c H locs cells slots mc ms g rest (Qc As.toArray) (free) := by
  obtain ⟨⟨hrc, hrs, hfr, hlo, hws, hcw⟩, hcode, hini, hy, hlen, hl, hstt⟩ := cw
  have hK : Back l R p e below s args y 3 8 (PreOf R mc ms Pc) (PostOf Qc mc ms free) := va_backW (hh := hh) (bytes := bytes) (maxL := maxL) (ret := ret) hM hp.1 hrc hrs hfr hlo hws hcw (fun a' U hW => word_at hW (Or.inl (by first | rfl | simp [Cond.onTables, Cond.keeps, Cond.steady])) hini)
  obtain ⟨hx, hb, hml, ho, -⟩ := S
  intro T hT X
  obtain ⟨v, vm₁, ⟨U', l2, c2, s2⟩, hW₁, X', ⟨g', mk, t, L, e1, e2, hq, h1, hL, h2, h3⟩, st⟩ := vx_callSW X hx (hh := hh) (bytes := bytes) (maxL := maxL) (ret := ret) ho hl hstt hini hcode hy hK hg (hsize.trans hml.symm) (argsL := As) (rest := rest) (fun sig h => hn.trans (hlen sig h)) hstack hW (by rw [hb]; exact hdg)
    (fun vm₁ hW₁ => ⟨hf.1, hf.2, hp.2 (T.setVm vm₁) hT hW₁⟩)
  dsimp only [Pt.U, Pt.locs, Pt.cells, Pt.slots] at X' e1 e2 h1 h2 h3 st
  subst h1; subst h2; subst h3
  exact ⟨v, (T.setVm vm₁).calling g' mk As.toArray, t, U', L, hT, X', hL, e1, e2, hq, st⟩
/-- not caught here, past rows that name other classes: it goes on to the caller -/
theorem vx_outP {p : Program} {l : Launch} {e : Env} {R : Room} {s : State} {m : MethodId} {args : Array Value} {below : List Frame} {meth : Method} {c : Code} {H : Heap} {locs : List Loc} {cells slots : Nat} {free : Addr → Prop} {ls : Array Slot} {rest : List Value} {Qc : Array Value → State → Outcome → State → Prop} {XC : String → State → State → Prop}
    {pc : Nat} {own E : String} {ce : Cell} {q : Addr} {mc ms : Nat} (hown : s.vm.findClass own = some m.cls) (hlocks : meth.locks = false)
    (hpass : ∀ z ∈ c.exceptionTable.toList, covers z pc = false ∨ (z.catchType ≠ 0 ∧ ∃ nm : String, (Cond.classLink own z.catchType nm).before args s = true ∧ va_Nc E nm s)) (hcell : H[q]? = some ce) (hv : ce.vm = .none) (hcl : s.vm.findClass E = some ce.cls)
    (hx : ∀ t : State, t.heap = H → s.vm.Alike t.vm → XC E s t) (hf : ∀ z ∈ locs, free z.base) (hc : cells ≤ mc) (hs : slots ≤ ms) :
    vx_W p l e R s m args below meth c H locs cells slots (vx_MQ below Qc XC args s mc ms free) (F0 m pc ls rest) q := by
  intro T hT X
  have hpl : e.platform.magicAccessors = ({} : Platform).magicAccessors := by rw [X.admits.platform]
  obtain ⟨vm', hW', X', st⟩ := X.outThrough hlocks q (g := F0 m pc ls rest) rfl rfl rfl (cell := ce) (by rw [hT]; exact hcell) (by rw [hv]; rfl)
    (by obtain ⟨k9, h9, -⟩ := Vm.findClass_spec hcl; exact ⟨k9, h9⟩) (fun z hz => by
      rcases hpass z hz with h | ⟨hz0, nm, hl1, hn1⟩
      · exact Or.inl h
      · obtain ⟨c6, hc6, hcl6⟩ := Cond.classLink_spec hown hl1 e.platform hpl
        obtain ⟨a8, b8, h1, h2, h3⟩ := hn1
        cases Option.some.inj (h1.symm.trans hcl)
        cases Option.some.inj (h2.symm.trans hc6)
        exact Or.inr ⟨hz0, _, hcl6, h3⟩)
  obtain ⟨g₀, hfr⟩ := X'.frames_eq
  have hcell9 : ((T.setVm vm').setFrames (.throwing q :: below)).heap[q]? = some ce := by
    show T.heap[q]? = some ce
    rw [hT]; exact hcell
  have hend : Ended ((T.setVm vm').setFrames (.throwing q :: below)) below (.threw q) := State.frames_setFrames _ (State.cur_lt_of_frames hfr)
  refine ⟨(T.setVm vm').setFrames (.throwing q :: below), ?_, .threw q, X'.here.running, hend, Or.inr ⟨q, rfl, E, ce, locs, hx _ hT (X'.ends _).1.alike, hcell9, hv, hcl, (X'.ends _).1, (X'.ends _).2.mono hc hs, hf⟩⟩
  rw [X.pushThrowing_eq]
  exact st
/-- a thing of a world lies in the heap -/
theorem vx_lt {D : va_G} {cl : List vw_C} {ws : va_W} {H1 : Heap} (h : va_P D cl ws H1) {k : Nat} {q : Nat × va_E} (hk : ws[k]? = some q) : q.1 < H1.size := (h k q hk).lt
end VXS
/-! ===== END ===== -/
/-! ===== BEGIN methods with a table of their own: called by a name, returning or throwing ===== -/
section VXH
/-! vx_backW, vx_callVX, vx_callSX, vx_callVW, vx_runVW, vx_runVX, vx_runSX, vx_ofWH follow the same proofs as their sisters above (Free/Laws.lean, Shelf42/LK1.lean); vx_outP calls Shelf42/NT130.lean (outThrough). -/
section
variable {l : Launch} {R : Room} {p : Program} {e : Env} {below : List Frame} {s : State} {sargs : Array Value} {y : MethodName} {len W9 : Nat}
theorem vx_backW {ws : List Cond} {rm : Room} {Pc : Array Value → State → Prop} {Qc : Array Value → State → Outcome → State → Prop} {XC : String → State → State → Prop} {mc ms : Nat} {free : Addr → Prop} {bytes : ByteArray} {maxL : Nat} {ret : Option FieldType} {hh : List (Nat × Nat × Nat × Nat)}
    (hM : vx_Met l y ws rm Pc Qc XC mc ms free) (hblind : FrameBlind Pc) (hrc : rm.cells = mc) (hrs : rm.slots = ms)
    (hframes : rm.frames + 1 ≤ R.frames) (hlocals : W9 + (maxL + 11) + rm.locals ≤ R.locals)
    (hws : ∀ w ∈ ws, ∀ a' U, s.WarmedH U.vm → w.before a' U = true) (hcode : Cond.codeWith y bytes maxL ret hh ∈ ws) (hinit : ∀ a' U, s.WarmedH U.vm → (Cond.initialized y.cls).before a' U = true) :
    vx_Back l R p e below s sargs y len W9 (PreOf R mc ms Pc) (PostOf Qc mc ms free) (vx_Post XC mc ms free) := by
  intro m meth c A g ig mk a X hg hsize hdg hW hn hp
  have h1 : (headSpec ws rm).pre.before a A.U = true := atoms_intro fun w hw => hws w hw _ _ X.warmed
  have h2 : (Cond.codeWith y bytes maxL ret hh).before a A.U = true := hws _ hcode _ _ X.warmed
  have h3 : (Cond.initialized y.cls).before a A.U = true := hinit _ _ X.warmed
  have h4 : A.cells + (headSpec ws rm).room.cells ≤ R.cells := by rw [show (headSpec ws rm).room.cells = mc from hrc]; exact hp.1
  have h5 : A.slots + (headSpec ws rm).room.slots ≤ R.slots := by rw [show (headSpec ws rm).room.slots = ms from hrs]; exact hp.2.1
  have hPc : Pc a (A.U.calling g mk a) := hblind _ _ _ _ hp.2.2
  obtain ⟨U, Ls, c0, s0⟩ := A
  dsimp only [Pt.U, Pt.locs, Pt.cells, Pt.slots] at h1 h2 h3 h4 h5 X hn hPc ⊢
  obtain ⟨m9, methY, cY, hn9, hmY, hcY, -, hlY, -⟩ := Cond.codeWith_spec h2
  cases Option.some.inj (hn9.symm.trans hn)
  obtain ⟨kY, hkY, -⟩ := className_of_methodNamed hn
  have hinitY : kY.init = .initialized := Cond.initialized_spec (findClass_of_methodNamed hn) hkY h3
  have h : At U g.method c below := by rw [hg]; exact X.here
  have hlocals9 : W9 + (maxL + 11) + (headSpec ws rm).room.locals ≤ R.locals := hlocals
  have happ : (headSpec ws rm).appliesLoose y e.platform (U.calling g mk a) = true :=
    Spec.appliesLoose_calling (g := g) h hdg hn hkY hinitY
      (X.room_calling (g := g) (R' := (headSpec ws rm).room) hsize hmY hcY hframes (by rw [hlY]; omega) h4 h5) h1
  obtain ⟨mid, hmid⟩ := h.above
  have hfr : (U.setTop g).frames = (.java g :: mid) ++ below := by rw [State.frames_setTop' g h.top, hmid]; rfl
  obtain ⟨o, s₂, hsteps, -, hend, hq⟩ := Steps.callFree hM p X.admits X.cas X.clock (acts := []) hfr happ hPc trivial
  have hq' : vx_Q Qc XC mc ms free a (U.calling g mk a) o s₂ := hq
  rw [State.frames_setTop' g h.top] at hend
  obtain ⟨g₀, hg0⟩ := Option.isSome_iff_exists.mp h.top
  obtain ⟨r, hr⟩ := State.topJava?_eq_some.mp hg0
  have hr' : (({ U with heap := s₂.heap, slotsUsed := s₂.slotsUsed } : State).setVm s₂.vm).frames = .java g₀ :: r := hr
  rcases hq' with ⟨hqc, L, hfe, hL⟩ | ⟨q, rfl, E, ce, L, hx, hce, hcv, hcl, hW₂, hsm, hL⟩
  · obtain ⟨⟨v, rfl⟩, hW₂, e2, q2, q3, q4, q5, q6⟩ := id hfe
    have e3 : s₂ = ({ (U.calling g mk a).setFrames s₂.frames with heap := s₂.heap, slotsUsed := s₂.slotsUsed } : State).setVm s₂.vm := by
      have : s₂ = ({ s₂ with vm := (U.calling g mk a).vm } : State).setVm s₂.vm := rfl
      rw [e2] at this
      exact this
    obtain ⟨c₂, i₂, len₂, hc₂, hd₂, hf₂⟩ := hend
    have hW' : U.WarmedH s₂.vm := hW₂
    have hcc : c₂ = c := by
      have h1 : s₂.code? g.method = U.code? g.method := by
        rw [State.code?_eq, State.code?_eq, hW'.alike.method?]
      exact Option.some.inj (hc₂.symm.trans (h1.trans h.code))
    subst hcc
    have hlen : len₂ = len := by rw [hdg] at hd₂; cases hd₂; rfl
    subst hlen
    have hs₂ : s₂ = (({ U with heap := s₂.heap, slotsUsed := s₂.slotsUsed } : State).setVm s₂.vm).setTop { g with pc := g.pc + len₂, stack := v.toList ++ g.stack } := by
      refine e3.trans ?_
      rw [hf₂, State.calling_eq h.top, State.setFrames_setFrames, State.setTop_of_frames _ hr', hr]
      rfl
    have hsame : U.sameButNew ({ U with heap := s₂.heap, slotsUsed := s₂.slotsUsed } : State) L mc ms := by
      refine ⟨?_, q2, q3, q4, q5, q6⟩
      obtain ⟨t, ht, -⟩ := State.frames_cons hr
      show ({ U with heap := s₂.heap, slotsUsed := s₂.slotsUsed } : State) = { U.setFrames U.frames with heap := s₂.heap, slotsUsed := s₂.slotsUsed }
      rw [State.setFrames_self ht]
    subst hg
    refine Or.inl ⟨v, ⟨(({ U with heap := s₂.heap, slotsUsed := s₂.slotsUsed } : State).setVm s₂.vm), Ls ++ L, c0 + mc, s0 + ms⟩,
      ⟨X.admits, X.cas, X.clock, X.frames, X.room, X.hears, X.method, X.code, (X.here.setHeapUsed s₂.heap s₂.slotsUsed).setVm hW'.alike, X.tail, State.WarmedH.trans X.warmed hW', X.limits, X.bytes, X.same.trans (hsame.setVm s.vm)⟩,
      ⟨g, mk, s₂, L, rfl, rfl, hqc, rfl, hL, rfl, rfl⟩, ?_⟩
    show Steps p.tables e below _ ((({ U with heap := s₂.heap, slotsUsed := s₂.slotsUsed } : State).setVm s₂.vm).setTop { g with pc := g.pc + len₂, stack := v.toList ++ g.stack })
    rw [← hs₂]
    exact hsteps
  · obtain ⟨e2, q2, q3, q4, q5, q6⟩ := id hsm
    have e3 : s₂ = ({ (U.calling g mk a).setFrames s₂.frames with heap := s₂.heap, slotsUsed := s₂.slotsUsed } : State).setVm s₂.vm := by
      have : s₂ = ({ s₂ with vm := (U.calling g mk a).vm } : State).setVm s₂.vm := rfl
      rw [e2] at this
      exact this
    have hf₂ : s₂.frames = .throwing q :: .java g :: U.frames.tail := hend
    have hW' : U.WarmedH s₂.vm := hW₂
    have hs₂ : s₂ = ((({ U with heap := s₂.heap, slotsUsed := s₂.slotsUsed } : State).setVm s₂.vm).setTop g).pushFrame (.throwing q) := by
      refine e3.trans ?_
      rw [hf₂, State.calling_eq h.top, State.setFrames_setFrames, State.pushFrame, State.frames_setTop _ hr', State.setTop_of_frames _ hr', State.setFrames_setFrames, hr]
      rfl
    have hsame : U.sameButNew ({ U with heap := s₂.heap, slotsUsed := s₂.slotsUsed } : State) L mc ms := by
      refine ⟨?_, q2, q3, q4, q5, q6⟩
      obtain ⟨t, ht, -⟩ := State.frames_cons hr
      show ({ U with heap := s₂.heap, slotsUsed := s₂.slotsUsed } : State) = { U.setFrames U.frames with heap := s₂.heap, slotsUsed := s₂.slotsUsed }
      rw [State.setFrames_self ht]
    subst hg
    refine Or.inr ⟨q, ⟨(({ U with heap := s₂.heap, slotsUsed := s₂.slotsUsed } : State).setVm s₂.vm), Ls ++ L, c0 + mc, s0 + ms⟩,
      ⟨X.admits, X.cas, X.clock, X.frames, X.room, X.hears, X.method, X.code, (X.here.setHeapUsed s₂.heap s₂.slotsUsed).setVm hW'.alike, X.tail, State.WarmedH.trans X.warmed hW', X.limits, X.bytes, X.same.trans (hsame.setVm s.vm)⟩,
      ⟨g, mk, s₂, L, E, ce, rfl, rfl, hx, hce, hcv, hcl, rfl, hL, rfl, rfl⟩, ?_⟩
    show Steps p.tables e below _ (((({ U with heap := s₂.heap, slotsUsed := s₂.slotsUsed } : State).setVm s₂.vm).setTop g).pushFrame (.throwing q))
    rw [← hs₂]
    exact hsteps
end
variable {p : Program} {l : Launch} {e : Env} {R : Room} {s : State} {m : MethodId} {args : Array Value} {below : List Frame} {meth : Method} {c : Code} {T : State} {H : Heap} {locs : List Loc} {cells slots : Nat}
theorem vx_callVX (X : Stand p l e R s m args below meth c T locs cells slots) (hexec : p.tables.exec = Jvm.exec) {own C : String} {index : Nat} {y : MethodName} {bytes : ByteArray} {maxL : Nat} {ret : Option FieldType} {hh : List (Nat × Nat × Nat × Nat)}
    (hown : s.vm.findClass own = some m.cls) (hlink : (Cond.methodLink own index y).before args s = true) (hinst : (Cond.instanceMethod y).before args s = true) (hsel : (Cond.selects C y y).before args s = true)
    (hcode : (Cond.codeWith y bytes maxL ret hh).before args s = true) (hy : y.cls ≠ "java/lang/invoke/MethodHandle" ∧ y.cls ≠ "java/lang/invoke/VarHandle")
    {W9 : Nat} {Pre : Pt → Array Value → Prop} {Post : Pt → Array Value → Option Value → Pt → Prop} {PostX : Pt → Array Value → Addr → Pt → Prop} (hK : vx_Back l R p e below s args y 3 W9 Pre Post PostX)
    {b : Addr} {cellB : Cell} (hcell : T.heap[b]? = some cellB) (hobj : cellB.vm.isStatics = false) (hcls : s.vm.findClass C = some cellB.cls)
    {g : JFrame} (hg : g.method = m) (hsize : g.locals.size = c.maxLocals) {argsL rest : List Value} (hlen : ∀ sig, parseMethodDescriptor y.desc = some sig → argsL.length = sig.parameters.length)
    (hstack : g.stack = argsL.reverse ++ .ref b :: rest) (hW : 2 * g.monitorRoom + (rest.map fun v => v.category).sum ≤ W9) (hdg : decode c.code g.pc = .ok (.invokevirtual index, 3))
    (hpre : ∀ vm₁, s.WarmedH vm₁ → Pre ⟨T.setVm vm₁, locs, cells, slots⟩ (Value.ref b :: argsL).toArray) :
    (∃ (v : Option Value) (vm₁ : Vm) (B : Pt), s.WarmedH vm₁ ∧ Stand p l e R s m args below meth c B.U B.locs B.cells B.slots ∧ Post ⟨T.setVm vm₁, locs, cells, slots⟩ (Value.ref b :: argsL).toArray v B ∧
      ∀ target, Steps p.tables e below (B.U.setTop { g with pc := g.pc + 3, stack := v.toList ++ rest }) target → Steps p.tables e below (T.setTop g) target) ∨
    (∃ (q : Addr) (vm₁ : Vm) (B : Pt), s.WarmedH vm₁ ∧ Stand p l e R s m args below meth c B.U B.locs B.cells B.slots ∧ PostX ⟨T.setVm vm₁, locs, cells, slots⟩ (Value.ref b :: argsL).toArray q B ∧
      Steps p.tables e below (T.setTop g) ((B.U.setTop { g with stack := rest }).pushFrame (.throwing q))) := by
  obtain ⟨mk, methM, hnamed, hmethM, hstM, habM⟩ := Cond.instanceMethod_spec hinst
  obtain ⟨m8, methM', cM, hn8, hmethM', -, -, -, -, -, -, hsigM⟩ := Cond.codeWith_spec hcode
  cases Option.some.inj (hn8.symm.trans hnamed)
  cases hmethM.symm.trans hmethM'
  obtain ⟨c2, r2, m2, q1, q2, q3, q4, kP, hkP, hkPi⟩ := Cond.selects_spec hsel
  cases hcls.symm.trans q1
  cases (State.methodFound?_of_named hnamed hy).symm.trans q2
  cases hnamed.symm.trans q3
  have hselP : selectMethod e.platform s.vm cellB.cls mk = .method mk := by rw [Launch.admits_selectMethod X.admits]; exact q4
  obtain ⟨vm₁, X₁, hstep₁⟩ := X.invokevirtual hexec hown hlink hnamed hmethM hstM hkP hkPi hy (a := b) (cell := cellB) hcell
    (fun z h => by rw [h] at hobj; cases hobj) hselP hmethM habM hkP hkPi (g := g) hg (argsL := argsL) (rest := rest) (hlen _ hsigM) hstack hdg
  rcases hK m meth c ⟨T.setVm vm₁, locs, cells, slots⟩ { g with stack := rest } (.invokevirtual index) mk (Value.ref b :: argsL).toArray X₁ hg hsize hdg hW (X₁.named hnamed) (hpre vm₁ X₁.warmed) with ⟨v, B, X', hpost, hsteps⟩ | ⟨q, B, X', hpost, hsteps⟩
  · exact Or.inl ⟨v, vm₁, B, X₁.warmed, X', hpost, fun target h => hstep₁ _ fun acts => by rw [doInvoke_state]; exact hsteps.trans h⟩
  · exact Or.inr ⟨q, vm₁, B, X₁.warmed, X', hpost, hstep₁ _ fun acts => by rw [doInvoke_state]; exact hsteps⟩
theorem vx_callSX (X : Stand p l e R s m args below meth c T locs cells slots) (hexec : p.tables.exec = Jvm.exec) {own : String} {index : Nat} {y : MethodName} {bytes : ByteArray} {maxL : Nat} {ret : Option FieldType} {hh : List (Nat × Nat × Nat × Nat)}
    (hown : s.vm.findClass own = some m.cls) (hlink : (Cond.methodLink own index y).before args s = true) (hstat : (Cond.static y).before args s = true) (hinit : (Cond.initialized y.cls).before args s = true)
    (hcode : (Cond.codeWith y bytes maxL ret hh).before args s = true) (hy : y.cls ≠ "java/lang/invoke/MethodHandle" ∧ y.cls ≠ "java/lang/invoke/VarHandle")
    {W9 : Nat} {Pre : Pt → Array Value → Prop} {Post : Pt → Array Value → Option Value → Pt → Prop} {PostX : Pt → Array Value → Addr → Pt → Prop} (hK : vx_Back l R p e below s args y 3 W9 Pre Post PostX)
    {g : JFrame} (hg : g.method = m) (hsize : g.locals.size = c.maxLocals) {argsL rest : List Value} (hlen : ∀ sig, parseMethodDescriptor y.desc = some sig → argsL.length = sig.parameters.length)
    (hstack : g.stack = argsL.reverse ++ rest) (hW : 2 * g.monitorRoom + (rest.map fun v => v.category).sum ≤ W9) (hdg : decode c.code g.pc = .ok (.invokestatic index, 3))
    (hpre : ∀ vm₁, s.WarmedH vm₁ → Pre ⟨T.setVm vm₁, locs, cells, slots⟩ argsL.toArray) :
    (∃ (v : Option Value) (vm₁ : Vm) (B : Pt), s.WarmedH vm₁ ∧ Stand p l e R s m args below meth c B.U B.locs B.cells B.slots ∧ Post ⟨T.setVm vm₁, locs, cells, slots⟩ argsL.toArray v B ∧
      ∀ target, Steps p.tables e below (B.U.setTop { g with pc := g.pc + 3, stack := v.toList ++ rest }) target → Steps p.tables e below (T.setTop g) target) ∨
    (∃ (q : Addr) (vm₁ : Vm) (B : Pt), s.WarmedH vm₁ ∧ Stand p l e R s m args below meth c B.U B.locs B.cells B.slots ∧ PostX ⟨T.setVm vm₁, locs, cells, slots⟩ argsL.toArray q B ∧
      Steps p.tables e below (T.setTop g) ((B.U.setTop { g with stack := rest }).pushFrame (.throwing q))) := by
  obtain ⟨mk, methM, cM, hnamed, hmethM, -, -, -, -, -, -, hsigM⟩ := Cond.codeWith_spec hcode
  have hstatic : methM.isStatic = true := Cond.static_spec hnamed hmethM hstat
  obtain ⟨kP, hkP, -⟩ := className_of_methodNamed hnamed
  have hinitP : kP.init = .initialized := Cond.initialized_spec (findClass_of_methodNamed hnamed) hkP hinit
  obtain ⟨vm₁, X₁, hstep₁⟩ := X.invokestatic hexec hown hlink hnamed hmethM hstatic hkP hinitP hy (g := g) hg (argsL := argsL) (rest := rest) (hlen _ hsigM) hstack hdg
  rcases hK m meth c ⟨T.setVm vm₁, locs, cells, slots⟩ { g with stack := rest } (.invokestatic index) mk argsL.toArray X₁ hg hsize hdg hW (X₁.named hnamed) (hpre vm₁ X₁.warmed) with ⟨v, B, X', hpost, hsteps⟩ | ⟨q, B, X', hpost, hsteps⟩
  · exact Or.inl ⟨v, vm₁, B, X₁.warmed, X', hpost, fun target h => hstep₁ _ fun acts => by rw [doInvoke_state]; exact hsteps.trans h⟩
  · exact Or.inr ⟨q, vm₁, B, X₁.warmed, X', hpost, hstep₁ _ fun acts => by rw [doInvoke_state]; exact hsteps⟩
theorem vx_callVW (X : Stand p l e R s m args below meth c T locs cells slots) (hexec : p.tables.exec = Jvm.exec) {own C : String} {index : Nat} {y : MethodName} {bytes : ByteArray} {maxL : Nat} {ret : Option FieldType} {hh : List (Nat × Nat × Nat × Nat)}
    (hown : s.vm.findClass own = some m.cls) (hlink : (Cond.methodLink own index y).before args s = true) (hinst : (Cond.instanceMethod y).before args s = true) (hsel : (Cond.selects C y y).before args s = true)
    (hcode : (Cond.codeWith y bytes maxL ret hh).before args s = true) (hy : y.cls ≠ "java/lang/invoke/MethodHandle" ∧ y.cls ≠ "java/lang/invoke/VarHandle")
    {W9 : Nat} {Pre : Pt → Array Value → Prop} {Post : Pt → Array Value → Option Value → Pt → Prop} (hK : Back l R p e below s args y 3 W9 Pre Post)
    {b : Addr} {cellB : Cell} (hcell : T.heap[b]? = some cellB) (hobj : cellB.vm.isStatics = false) (hcls : s.vm.findClass C = some cellB.cls)
    {g : JFrame} (hg : g.method = m) (hsize : g.locals.size = c.maxLocals) {argsL rest : List Value} (hlen : ∀ sig, parseMethodDescriptor y.desc = some sig → argsL.length = sig.parameters.length)
    (hstack : g.stack = argsL.reverse ++ .ref b :: rest) (hW : 2 * g.monitorRoom + (rest.map fun v => v.category).sum ≤ W9) (hdg : decode c.code g.pc = .ok (.invokevirtual index, 3))
    (hpre : ∀ vm₁, s.WarmedH vm₁ → Pre ⟨T.setVm vm₁, locs, cells, slots⟩ (Value.ref b :: argsL).toArray) :
    ∃ (v : Option Value) (vm₁ : Vm) (B : Pt), s.WarmedH vm₁ ∧ Stand p l e R s m args below meth c B.U B.locs B.cells B.slots ∧ Post ⟨T.setVm vm₁, locs, cells, slots⟩ (Value.ref b :: argsL).toArray v B ∧
      ∀ target, Steps p.tables e below (B.U.setTop { g with pc := g.pc + 3, stack := v.toList ++ rest }) target → Steps p.tables e below (T.setTop g) target := by
  obtain ⟨mk, methM, hnamed, hmethM, hstM, habM⟩ := Cond.instanceMethod_spec hinst
  obtain ⟨m8, methM', cM, hn8, hmethM', -, -, -, -, -, -, hsigM⟩ := Cond.codeWith_spec hcode
  cases Option.some.inj (hn8.symm.trans hnamed)
  cases hmethM.symm.trans hmethM'
  obtain ⟨c2, r2, m2, q1, q2, q3, q4, kP, hkP, hkPi⟩ := Cond.selects_spec hsel
  cases hcls.symm.trans q1
  cases (State.methodFound?_of_named hnamed hy).symm.trans q2
  cases hnamed.symm.trans q3
  have hselP : selectMethod e.platform s.vm cellB.cls mk = .method mk := by rw [Launch.admits_selectMethod X.admits]; exact q4
  obtain ⟨vm₁, X₁, hstep₁⟩ := X.invokevirtual hexec hown hlink hnamed hmethM hstM hkP hkPi hy (a := b) (cell := cellB) hcell
    (fun z h => by rw [h] at hobj; cases hobj) hselP hmethM habM hkP hkPi (g := g) hg (argsL := argsL) (rest := rest) (hlen _ hsigM) hstack hdg
  obtain ⟨v, B, X', hpost, hsteps⟩ := hK m meth c ⟨T.setVm vm₁, locs, cells, slots⟩ { g with stack := rest } (.invokevirtual index) mk (Value.ref b :: argsL).toArray X₁ hg hsize hdg hW (X₁.named hnamed) (hpre vm₁ X₁.warmed)
  exact ⟨v, vm₁, B, X₁.warmed, X', hpost, fun target h => hstep₁ _ fun acts => by rw [doInvoke_state]; exact hsteps.trans h⟩
abbrev vx_CVW (R : Room) (s : State) (args : Array Value) (own C : String) (index : Nat) (y : MethodName) (bytes : ByteArray) (maxL : Nat) (ret : Option FieldType) (hh : List (Nat × Nat × Nat × Nat)) (ws : List Cond) (rm : Room) (mc ms n : Nat) : Prop :=
  (rm.cells = mc ∧ rm.slots = ms ∧ rm.frames + 1 ≤ R.frames ∧ 8 + (maxL + 11) + rm.locals ≤ R.locals ∧ (∀ w ∈ ws, ∀ (a' : Array Value) (U : State), s.WarmedH U.vm → w.before a' U = true) ∧ Cond.codeWith y bytes maxL ret hh ∈ ws) ∧
  (Cond.codeWith y bytes maxL ret hh).before args s = true ∧ (Cond.initialized y.cls).before args s = true ∧ (y.cls ≠ "java/lang/invoke/MethodHandle" ∧ y.cls ≠ "java/lang/invoke/VarHandle") ∧
  (∀ sig, parseMethodDescriptor y.desc = some sig → n = sig.parameters.length) ∧ (Cond.methodLink own index y).before args s = true ∧ (Cond.instanceMethod y).before args s = true ∧ (Cond.selects C y y).before args s = true
theorem vx_cwVW {own C : String} {index maxL mc ms : Nat} {y : MethodName} {bytes : ByteArray} {ret : Option FieldType} {hh : List (Nat × Nat × Nat × Nat)} {Ts ws ws' : List Cond} {rm : Room} (n : Nat) (ht : ∀ w ∈ Ts, w.before args s = true) (hT : GoodIn Ts (wsV own index C y ws)) (hw : ws = Cond.codeWith y bytes maxL ret hh :: ws') (hrc : rm.cells = mc) (hrs : rm.slots = ms)
    (hd : y.cls = C ∧ y.cls ≠ "java/lang/invoke/MethodHandle" ∧ y.cls ≠ "java/lang/invoke/VarHandle" ∧ (parseMethodDescriptor y.desc).map (fun d => d.parameters.length) = some n) (hR : rm.frames + 1 ≤ R.frames ∧ 8 + (maxL + 11) + rm.locals ≤ R.locals) :
    vx_CVW R s args own C index y bytes maxL ret hh ws rm mc ms n := by
  obtain ⟨hC, hd⟩ := hd
  subst hC
  have ok : ∀ w ∈ wsV own index y.cls y ws, w.before args s = true := fun w h => ht w (hT w h).1
  have hG : GoodIn Ts ws := fun w h => hT w (by unfold wsV; exact List.mem_append_right _ h)
  have hc : Cond.codeWith y bytes maxL ret hh ∈ ws := by rw [hw]; exact List.mem_cons_self
  refine ⟨⟨hrc, hrs, hR.1, hR.2, pay_in ht hG, hc⟩, ht _ (hG _ hc).1, ok _ (by simp [wsV]), ⟨hd.1, hd.2.1⟩, fun sig h => ?_, ok _ (by simp [wsV]), ok _ (by simp [wsV]), ok _ (by simp [wsV])⟩
  have h2 := hd.2.2
  rw [h] at h2
  exact (Option.some.inj h2).symm
theorem vx_runVW {y : MethodName} {bytes cc : ByteArray} {maxL nL mc ms n index : Nat} {ret : Option FieldType} {hh : List (Nat × Nat × Nat × Nat)} {ws : List Cond} {rm : Room} {Pc : Array Value → State → Prop} {Qc : Array Value → State → Outcome → State → Prop} {free : Addr → Prop} {Ts : List Cond} {own C : String} {b : Addr} {As rest : List Value} {g : JFrame}
    (S : CallFix p m c cc nL s args Ts own) (hM : Met l y ws rm Pc Qc mc ms free) (cw : vx_CVW R s args own C index y bytes maxL ret hh ws rm mc ms n) (hp : PreV s H C b Pc As)
    (hg : g.method = m) (hn : As.length = n) (hsize : g.locals.size = nL) (hstack : g.stack = As.reverse ++ .ref b :: rest) (hW : 2 * g.monitorRoom + (rest.map fun v => v.category).sum ≤ 8) (hdg : decode cc g.pc = .ok (.invokevirtual index, 3)) (hf : cells + mc ≤ R.cells ∧ slots + ms ≤ R.slots) :
    va_Run p l e R s m args below meth c H locs cells slots mc ms g rest (Qc (Value.ref b :: As).toArray) free := by
  obtain ⟨⟨hrc, hrs, hfr, hlo, hws, hcw⟩, hcode, hini, hy, hlen, hl, hin, hse⟩ := cw
  have hK : Back l R p e below s args y 3 8 (PreOf R mc ms Pc) (PostOf Qc mc ms free) := va_backW (hh := hh) (bytes := bytes) (maxL := maxL) (ret := ret) hM hp.1 hrc hrs hfr hlo hws hcw (fun a' U hW => word_at hW (Or.inl (by first | rfl | simp [Cond.onTables, Cond.keeps, Cond.steady])) hini)
  obtain ⟨hx, hb, hml, ho, -⟩ := S
  obtain ⟨-, ⟨cellB, hcB, hoB, hclB⟩, hPc⟩ := hp
  intro T hT X
  obtain ⟨v, vm₁, ⟨U', l2, c2, s2⟩, hW₁, X', ⟨g', mk, t, L, e1, e2, hq, h1, hL, h2, h3⟩, st⟩ := vx_callVW X hx (C := C) (hh := hh) (bytes := bytes) (maxL := maxL) (ret := ret) ho hl hin hse hcode hy hK (by rw [hT]; exact hcB) hoB hclB hg (hsize.trans hml.symm) (argsL := As) (rest := rest) (fun sig h => hn.trans (hlen sig h)) hstack hW (by rw [hb]; exact hdg)
    (fun vm₁ hW₁ => ⟨hf.1, hf.2, hPc (T.setVm vm₁) hT hW₁⟩)
  dsimp only [Pt.U, Pt.locs, Pt.cells, Pt.slots] at X' e1 e2 h1 h2 h3 st
  subst h1; subst h2; subst h3
  exact ⟨v, (T.setVm vm₁).calling g' mk (Value.ref b :: As).toArray, t, U', L, hT, X', hL, e1, e2, hq, st⟩
section
variable {y : MethodName} {bytes cc : ByteArray} {maxL nL mc ms n index : Nat} {ret : Option FieldType} {ws : List Cond} {rm : Room} {Pc : Array Value → State → Prop} {Qc : Array Value → State → Outcome → State → Prop} {XC : String → State → State → Prop} {free : Addr → Prop} {Ts : List Cond} {own C : String} {b : Addr} {As rest : List Value} {g : JFrame}
theorem vx_runVX {hh : List (Nat × Nat × Nat × Nat)} (S : CallFix p m c cc nL s args Ts own) (hM : vx_Met l y ws rm Pc Qc XC mc ms free) (cw : vx_CVW R s args own C index y bytes maxL ret hh ws rm mc ms n) (hp : PreV s H C b Pc As)
    (hg : g.method = m) (hn : As.length = n) (hsize : g.locals.size = nL) (hstack : g.stack = As.reverse ++ .ref b :: rest) (hW : 2 * g.monitorRoom + (rest.map fun v => v.category).sum ≤ 8) (hdg : decode cc g.pc = .ok (.invokevirtual index, 3)) (hf : cells + mc ≤ R.cells ∧ slots + ms ≤ R.slots) :
    vx_Run p l e R s m args below meth c H locs cells slots mc ms g rest (Qc (Value.ref b :: As).toArray) XC free := by
  obtain ⟨⟨hrc, hrs, hfr, hlo, hws, hcw⟩, hcode, hini, hy, hlen, hl, hin, hse⟩ := cw
  have hK : vx_Back l R p e below s args y 3 8 (PreOf R mc ms Pc) (PostOf Qc mc ms free) (vx_Post XC mc ms free) := vx_backW (hh := hh) (bytes := bytes) (maxL := maxL) (ret := ret) hM hp.1 hrc hrs hfr hlo hws hcw (fun a' U hW => word_at hW (Or.inl (by first | rfl | simp [Cond.onTables, Cond.keeps, Cond.steady])) hini)
  obtain ⟨hx, hb, hml, ho, -⟩ := S
  obtain ⟨-, ⟨cellB, hcB, hoB, hclB⟩, hPc⟩ := hp
  intro T hT X
  rcases vx_callVX X hx (C := C) (hh := hh) (bytes := bytes) (maxL := maxL) (ret := ret) ho hl hin hse hcode hy hK (by rw [hT]; exact hcB) hoB hclB hg (hsize.trans hml.symm) (argsL := As) (rest := rest) (fun sig h => hn.trans (hlen sig h)) hstack hW (by rw [hb]; exact hdg)
    (fun vm₁ hW₁ => ⟨hf.1, hf.2, hPc (T.setVm vm₁) hT hW₁⟩) with ⟨v, vm₁, ⟨U', l2, c2, s2⟩, hW₁, X', ⟨g', mk, t, L, e1, e2, hq, h1, hL, h2, h3⟩, st⟩ | ⟨q, vm₁, ⟨U', l2, c2, s2⟩, hW₁, X', ⟨g', mk, t, L, E, ce, e1, e2, hq, hce, hcv, hcl, h1, hL, h2, h3⟩, st⟩
  · dsimp only [Pt.U, Pt.locs, Pt.cells, Pt.slots] at X' e1 e2 h1 h2 h3 st
    subst h1; subst h2; subst h3
    exact Or.inl ⟨v, (T.setVm vm₁).calling g' mk (Value.ref b :: As).toArray, t, U', L, hT, X', hL, e1, e2, hq, st⟩
  · dsimp only [Pt.U, Pt.locs, Pt.cells, Pt.slots] at X' e1 e2 h1 h2 h3 st hcl
    subst h1; subst h2; subst h3
    exact Or.inr ⟨q, (T.setVm vm₁).calling g' mk (Value.ref b :: As).toArray, t, U', L, E, ce, hT, X', hL, e1, e2, hq, hce, hcv, vx_cls hW₁ hcl, st⟩
theorem vx_runSX {hh : List (Nat × Nat × Nat × Nat)} (S : CallFix p m c cc nL s args Ts own) (hM : vx_Met l y ws rm Pc Qc XC mc ms free) (cw : vx_CSW R s args own index y bytes maxL ret hh ws rm mc ms n) (hp : PreS s H Pc As)
    (hg : g.method = m) (hn : As.length = n) (hsize : g.locals.size = nL) (hstack : g.stack = As.reverse ++ rest) (hW : 2 * g.monitorRoom + (rest.map fun v => v.category).sum ≤ 8) (hdg : decode cc g.pc = .ok (.invokestatic index, 3)) (hf : cells + mc ≤ R.cells ∧ slots + ms ≤ R.slots) :
    vx_Run p l e R s m args below meth c H locs cells slots mc ms g rest (Qc As.toArray) XC free := by
  obtain ⟨⟨hrc, hrs, hfr, hlo, hws, hcw⟩, hcode, hini, hy, hlen, hl, hstt⟩ := cw
  have hK : vx_Back l R p e below s args y 3 8 (PreOf R mc ms Pc) (PostOf Qc mc ms free) (vx_Post XC mc ms free) := vx_backW (hh := hh) (bytes := bytes) (maxL := maxL) (ret := ret) hM hp.1 hrc hrs hfr hlo hws hcw (fun a' U hW => word_at hW (Or.inl (by first | rfl | simp [Cond.onTables, Cond.keeps, Cond.steady])) hini)
  obtain ⟨hx, hb, hml, ho, -⟩ := S
  intro T hT X
  rcases vx_callSX X hx (hh := hh) (bytes := bytes) (maxL := maxL) (ret := ret) ho hl hstt hini hcode hy hK hg (hsize.trans hml.symm) (argsL := As) (rest := rest) (fun sig h => hn.trans (hlen sig h)) hstack hW (by rw [hb]; exact hdg)
    (fun vm₁ hW₁ => ⟨hf.1, hf.2, hp.2 (T.setVm vm₁) hT hW₁⟩) with ⟨v, vm₁, ⟨U', l2, c2, s2⟩, hW₁, X', ⟨g', mk, t, L, e1, e2, hq, h1, hL, h2, h3⟩, st⟩ | ⟨q, vm₁, ⟨U', l2, c2, s2⟩, hW₁, X', ⟨g', mk, t, L, E, ce, e1, e2, hq, hce, hcv, hcl, h1, hL, h2, h3⟩, st⟩
  · dsimp only [Pt.U, Pt.locs, Pt.cells, Pt.slots] at X' e1 e2 h1 h2 h3 st
    subst h1; subst h2; subst h3
    exact Or.inl ⟨v, (T.setVm vm₁).calling g' mk As.toArray, t, U', L, hT, X', hL, e1, e2, hq, st⟩
  · dsimp only [Pt.U, Pt.locs, Pt.cells, Pt.slots] at X' e1 e2 h1 h2 h3 st hcl
    subst h1; subst h2; subst h3
    exact Or.inr ⟨q, (T.setVm vm₁).calling g' mk As.toArray, t, U', L, E, ce, hT, X', hL, e1, e2, hq, hce, hcv, vx_cls hW₁ hcl, st⟩
end
end VXH
theorem vx_ofWH {l : Launch} {y : MethodName} {ws ws' : List Cond} {rm : Room} {Pc : Array Value → State → Prop} {Qc : Array Value → State → Outcome → State → Prop} {XC : String → State → State → Prop} {mc ms : Nat} {free : Addr → Prop} {cc : ByteArray} {maxL : Nat} {ret : Option FieldType} {hh : List (Nat × Nat × Nat × Nat)}
    (hy : plainName y.cls = true) (hw : ws = Cond.codeWith y cc maxL ret hh :: ws')
    (body : ∀ p e s m args below meth c s₁, BodyLoose p l y (headSpec ws rm) cc maxL ret e s m args below meth c s₁ → c.maxLocals = maxL → Pc args s →
      W p l e (headSpec ws rm).room s m args below meth c s.heap [] 0 0 (vx_MQ below Qc XC args s mc ms free) (entryFrame m args maxL)) : vx_Met l y ws rm Pc Qc XC mc ms free := by
  refine MetFree.of_bodyS (code := cc) (maxLocals := maxL) (ret := ret) hy ?_ ?_
  · intro args s m h hn
    obtain ⟨m9, meth, c, hn9, h1, h2, h3, h4, -, h5, h6, -⟩ := Cond.codeWith_spec (atoms_spec (ws := ws) h _ (by rw [hw]; exact List.mem_cons_self))
    cases hn.symm.trans hn9
    exact ⟨meth, c, h1, h2, h3, h4, h5, h6⟩
  · intro p e s m args below meth c s₁ B hml hP _
    have hh0 : s₁.heap = s.heap := by rw [B.state]; rfl
    obtain ⟨t, a1, o, b1, b2, b3⟩ := body p e s m args below meth c s₁ B hml hP s₁ hh0 (Stand.of_body B)
    exact ⟨t, o, a1, b1, b2, b3⟩
/-! ===== END ===== -/
end
section
def RX0 : String := "CurfewDesk"
def TX0 : u_T := fun k => match k with
  | 0 => ("CurfewDesk", "orderQuarter", "[I", true)
  | 1 => ("CurfewDesk", "orderAhead", "[I", true)
  | 2 => ("CurfewDesk", "orderBehind", "[I", true)
  | 3 => ("CurfewDesk", "orderColour", "[I", true)
  | 4 => ("CurfewDesk", "orderInForce", "[Z", true)
  | 5 => ("CurfewDesk", "orderExempt", "[I", true)
  | 6 => ("CurfewDesk", "personTrade", "[I", true)
  | 7 => ("CurfewDesk", "personFined", "[I", true)
  | 8 => ("CurfewDesk", "personOwes", "[I", true)
  | 9 => ("CurfewDesk", "personStamps", "[I", true)
  | 10 => ("CurfewDesk", "usedStamps", "[I", true)
  | 11 => ("CurfewDesk", "quarterCount", "I", false)
  | 12 => ("CurfewDesk", "orderCount", "I", false)
  | 13 => ("CurfewDesk", "personCount", "I", false)
  | 14 => ("CurfewDesk", "duskShift", "I", false)
  | _ => ("CurfewDesk", "now", "I", false)
def tyX0 : Nat → FieldType := fun k => match k with
  | 0 => .array .int
  | 1 => .array .int
  | 2 => .array .int
  | 3 => .array .int
  | 4 => .array .boolean
  | 5 => .array .int
  | 6 => .array .int
  | 7 => .array .int
  | 8 => .array .int
  | 9 => .array .int
  | 10 => .array .int
  | 11 => .int
  | 12 => .int
  | 13 => .int
  | 14 => .int
  | _ => .int
abbrev wsX00 : List Cond := u_ws RX0 TX0 16
theorem nmX0 : ∀ a, a < 16 → ∀ b, b < 16 → a ≠ b → (TX0 a).2.1 ≠ (TX0 b).2.1 := by decide +kernel
theorem tyX0_ok : ∀ k, k < 16 → parseFieldDescriptor (TX0 k).2.2.1 = some (tyX0 k) := by decide +kernel
abbrev cX0_init : ByteArray := prog_1_method_1_code
def yX0_init : MethodName := ⟨RX0, "<init>", "()V"⟩
abbrev cX0_addQuarter : ByteArray := prog_1_method_2_code
def yX0_addQuarter : MethodName := ⟨RX0, "addQuarter", "()I"⟩
abbrev cX0_addPerson : ByteArray := prog_1_method_3_code
def yX0_addPerson : MethodName := ⟨RX0, "addPerson", "(I)I"⟩
abbrev cX0_addOrder : ByteArray := prog_1_method_4_code
def yX0_addOrder : MethodName := ⟨RX0, "addOrder", "(IIII)I"⟩
abbrev cX0_turnExempt : ByteArray := prog_1_method_5_code
def yX0_turnExempt : MethodName := ⟨RX0, "turnExempt", "(II)Z"⟩
abbrev cX0_turnOrder : ByteArray := prog_1_method_6_code
def yX0_turnOrder : MethodName := ⟨RX0, "turnOrder", "(I)Z"⟩
abbrev cX0_setShift : ByteArray := prog_1_method_7_code
def yX0_setShift : MethodName := ⟨RX0, "setShift", "(I)I"⟩
abbrev cX0_givePass : ByteArray := prog_1_method_8_code
def yX0_givePass : MethodName := ⟨RX0, "givePass", "(III)I"⟩
abbrev cX0_takePass : ByteArray := prog_1_method_9_code
def yX0_takePass : MethodName := ⟨RX0, "takePass", "(II)I"⟩
abbrev cX0_goOut : ByteArray := prog_1_method_10_code
def yX0_goOut : MethodName := ⟨RX0, "goOut", "(II)I"⟩
abbrev cX0_pass : ByteArray := prog_1_method_11_code
def yX0_pass : MethodName := ⟨RX0, "pass", "(I)I"⟩
abbrev cX0_day : ByteArray := prog_1_method_12_code
def yX0_day : MethodName := ⟨RX0, "day", "()I"⟩
abbrev cX0_halfHour : ByteArray := prog_1_method_13_code
def yX0_halfHour : MethodName := ⟨RX0, "halfHour", "()I"⟩
abbrev cX0_duskIn : ByteArray := prog_1_method_14_code
def yX0_duskIn : MethodName := ⟨RX0, "duskIn", "(I)I"⟩
abbrev cX0_dawnIn : ByteArray := prog_1_method_15_code
def yX0_dawnIn : MethodName := ⟨RX0, "dawnIn", "(I)I"⟩
abbrev cX0_quarterOf : ByteArray := prog_1_method_16_code
def yX0_quarterOf : MethodName := ⟨RX0, "quarterOf", "(I)I"⟩
abbrev cX0_colourOf : ByteArray := prog_1_method_17_code
def yX0_colourOf : MethodName := ⟨RX0, "colourOf", "(I)I"⟩
abbrev cX0_isInForce : ByteArray := prog_1_method_18_code
def yX0_isInForce : MethodName := ⟨RX0, "isInForce", "(I)Z"⟩
abbrev cX0_isOn : ByteArray := prog_1_method_19_code
def yX0_isOn : MethodName := ⟨RX0, "isOn", "(I)Z"⟩
abbrev cX0_isExempt : ByteArray := prog_1_method_20_code
def yX0_isExempt : MethodName := ⟨RX0, "isExempt", "(II)Z"⟩
abbrev cX0_barredBy : ByteArray := prog_1_method_21_code
def yX0_barredBy : MethodName := ⟨RX0, "barredBy", "(I)I"⟩
abbrev cX0_tradeOf : ByteArray := prog_1_method_22_code
def yX0_tradeOf : MethodName := ⟨RX0, "tradeOf", "(I)I"⟩
abbrev cX0_stampsOf : ByteArray := prog_1_method_23_code
def yX0_stampsOf : MethodName := ⟨RX0, "stampsOf", "(II)I"⟩
abbrev cX0_owes : ByteArray := prog_1_method_24_code
def yX0_owes : MethodName := ⟨RX0, "owes", "(I)I"⟩
abbrev cX0_timesFined : ByteArray := prog_1_method_25_code
def yX0_timesFined : MethodName := ⟨RX0, "timesFined", "(I)I"⟩
abbrev cX0_ordersAgainst : ByteArray := prog_1_method_26_code
def yX0_ordersAgainst : MethodName := ⟨RX0, "ordersAgainst", "(II)I"⟩
abbrev cX0_mayGo : ByteArray := prog_1_method_27_code
def yX0_mayGo : MethodName := ⟨RX0, "mayGo", "(II)Z"⟩
abbrev cX0_stampsMissing : ByteArray := prog_1_method_28_code
def yX0_stampsMissing : MethodName := ⟨RX0, "stampsMissing", "(II)I"⟩
abbrev cX0_quarters : ByteArray := prog_1_method_29_code
def yX0_quarters : MethodName := ⟨RX0, "quarters", "()I"⟩
abbrev cX0_orders : ByteArray := prog_1_method_30_code
def yX0_orders : MethodName := ⟨RX0, "orders", "()I"⟩
abbrev cX0_people : ByteArray := prog_1_method_31_code
def yX0_people : MethodName := ⟨RX0, "people", "()I"⟩
abbrev cX0_ordersOn : ByteArray := prog_1_method_32_code
def yX0_ordersOn : MethodName := ⟨RX0, "ordersOn", "()I"⟩
abbrev cX0_shift : ByteArray := prog_1_method_33_code
def yX0_shift : MethodName := ⟨RX0, "shift", "()I"⟩
abbrev cX0_allOwe : ByteArray := prog_1_method_34_code
def yX0_allOwe : MethodName := ⟨RX0, "allOwe", "()I"⟩
abbrev cX0_stampsUsed : ByteArray := prog_1_method_35_code
def yX0_stampsUsed : MethodName := ⟨RX0, "stampsUsed", "(I)I"⟩
abbrev cX0_halfHoursUntilFree : ByteArray := prog_1_method_36_code
def yX0_halfHoursUntilFree : MethodName := ⟨RX0, "halfHoursUntilFree", "(II)I"⟩
abbrev cX0_halfHoursOn : ByteArray := prog_1_method_37_code
def yX0_halfHoursOn : MethodName := ⟨RX0, "halfHoursOn", "(I)I"⟩
abbrev cX0_bestLift : ByteArray := prog_1_method_38_code
def yX0_bestLift : MethodName := ⟨RX0, "bestLift", "()I"⟩
abbrev cX0_meanDebt : ByteArray := prog_1_method_39_code
def yX0_meanDebt : MethodName := ⟨RX0, "meanDebt", "()D"⟩
abbrev cX0_digest : ByteArray := prog_1_method_40_code
def yX0_digest : MethodName := ⟨RX0, "digest", "()J"⟩
abbrev cX0_foldOrder : ByteArray := prog_1_method_41_code
def yX0_foldOrder : MethodName := ⟨RX0, "foldOrder", "(JI)J"⟩
abbrev cX0_foldPerson : ByteArray := prog_1_method_42_code
def yX0_foldPerson : MethodName := ⟨RX0, "foldPerson", "(JI)J"⟩
abbrev cX0_fold : ByteArray := prog_1_method_43_code
def yX0_fold : MethodName := ⟨RX0, "fold", "(JI)J"⟩
abbrev cX0_oneIf : ByteArray := prog_1_method_44_code
def yX0_oneIf : MethodName := ⟨RX0, "oneIf", "(Z)I"⟩
abbrev cX0_tideOf : ByteArray := prog_1_method_45_code
def yX0_tideOf : MethodName := ⟨RX0, "tideOf", "(I)I"⟩
abbrev cX0_duskOf : ByteArray := prog_1_method_46_code
def yX0_duskOf : MethodName := ⟨RX0, "duskOf", "(I)I"⟩
abbrev cX0_dawnOf : ByteArray := prog_1_method_47_code
def yX0_dawnOf : MethodName := ⟨RX0, "dawnOf", "(I)I"⟩
abbrev cX0_isInHours : ByteArray := prog_1_method_48_code
def yX0_isInHours : MethodName := ⟨RX0, "isInHours", "(II)Z"⟩
abbrev cX0_isOnAt : ByteArray := prog_1_method_49_code
def yX0_isOnAt : MethodName := ⟨RX0, "isOnAt", "(II)Z"⟩
abbrev cX0_exempts : ByteArray := prog_1_method_50_code
def yX0_exempts : MethodName := ⟨RX0, "exempts", "(II)Z"⟩
abbrev cX0_bars : ByteArray := prog_1_method_51_code
def yX0_bars : MethodName := ⟨RX0, "bars", "(IIII)Z"⟩
abbrev cX0_isFreeAt : ByteArray := prog_1_method_52_code
def yX0_isFreeAt : MethodName := ⟨RX0, "isFreeAt", "(III)Z"⟩
abbrev cX0_timesBegun : ByteArray := prog_1_method_53_code
def yX0_timesBegun : MethodName := ⟨RX0, "timesBegun", "(II)I"⟩
abbrev cX0_pairsFreedBy : ByteArray := prog_1_method_54_code
def yX0_pairsFreedBy : MethodName := ⟨RX0, "pairsFreedBy", "(I)I"⟩
abbrev cX0_stampPlace : ByteArray := prog_1_method_55_code
def yX0_stampPlace : MethodName := ⟨RX0, "stampPlace", "(II)I"⟩
abbrev cX0_useStamp : ByteArray := prog_1_method_56_code
def yX0_useStamp : MethodName := ⟨RX0, "useStamp", "(II)Z"⟩
abbrev cX0_fineOnce : ByteArray := prog_1_method_57_code
def yX0_fineOnce : MethodName := ⟨RX0, "fineOnce", "(I)I"⟩
abbrev cX0_missing : ByteArray := prog_1_method_58_code
def yX0_missing : MethodName := ⟨RX0, "missing", "(III)I"⟩
abbrev cX0_requireQuarter : ByteArray := prog_1_method_59_code
def yX0_requireQuarter : MethodName := ⟨RX0, "requireQuarter", "(I)V"⟩
abbrev cX0_requireOrder : ByteArray := prog_1_method_60_code
def yX0_requireOrder : MethodName := ⟨RX0, "requireOrder", "(I)V"⟩
abbrev cX0_requirePerson : ByteArray := prog_1_method_61_code
def yX0_requirePerson : MethodName := ⟨RX0, "requirePerson", "(I)V"⟩
abbrev cX0_requireTrade : ByteArray := prog_1_method_62_code
def yX0_requireTrade : MethodName := ⟨RX0, "requireTrade", "(I)V"⟩
abbrev cX0_requireColour : ByteArray := prog_1_method_63_code
def yX0_requireColour : MethodName := ⟨RX0, "requireColour", "(I)V"⟩
abbrev cX0_requireWithin : ByteArray := prog_1_method_64_code
def yX0_requireWithin : MethodName := ⟨RX0, "requireWithin", "(III)V"⟩
def RX1 : String := "CurfewDeskModel"
def TX1 : u_T := fun k => match k with
  | 0 => ("CurfewDeskModel", "thrown", "I", false)
  | 1 => ("CurfewDeskModel", "time", "I", false)
  | 2 => ("CurfewDeskModel", "shift", "I", false)
  | 3 => ("CurfewDeskModel", "quarters", "I", false)
  | 4 => ("CurfewDeskModel", "orders", "I", false)
  | 5 => ("CurfewDeskModel", "people", "I", false)
  | 6 => ("CurfewDeskModel", "quarter", "[I", true)
  | 7 => ("CurfewDeskModel", "ahead", "[I", true)
  | 8 => ("CurfewDeskModel", "behind", "[I", true)
  | 9 => ("CurfewDeskModel", "colour", "[I", true)
  | 10 => ("CurfewDeskModel", "exempt", "[I", true)
  | 11 => ("CurfewDeskModel", "force", "[Z", true)
  | 12 => ("CurfewDeskModel", "trade", "[I", true)
  | 13 => ("CurfewDeskModel", "fined", "[I", true)
  | 14 => ("CurfewDeskModel", "debt", "[I", true)
  | 15 => ("CurfewDeskModel", "stamps", "[I", true)
  | 16 => ("CurfewDeskModel", "used", "[I", true)
  | _ => ("CurfewDeskModel", "wanted", "[I", true)
def tyX1 : Nat → FieldType := fun k => match k with
  | 0 => .int
  | 1 => .int
  | 2 => .int
  | 3 => .int
  | 4 => .int
  | 5 => .int
  | 6 => .array .int
  | 7 => .array .int
  | 8 => .array .int
  | 9 => .array .int
  | 10 => .array .int
  | 11 => .array .boolean
  | 12 => .array .int
  | 13 => .array .int
  | 14 => .array .int
  | 15 => .array .int
  | 16 => .array .int
  | _ => .array .int
abbrev wsX10 : List Cond := u_ws RX1 TX1 18
theorem nmX1 : ∀ a, a < 18 → ∀ b, b < 18 → a ≠ b → (TX1 a).2.1 ≠ (TX1 b).2.1 := by decide +kernel
theorem tyX1_ok : ∀ k, k < 18 → parseFieldDescriptor (TX1 k).2.2.1 = some (tyX1 k) := by decide +kernel
abbrev cX1_init : ByteArray := prog_3_method_1_code
def yX1_init : MethodName := ⟨RX1, "<init>", "()V"⟩
abbrev cX1_thrown : ByteArray := prog_3_method_2_code
def yX1_thrown : MethodName := ⟨RX1, "thrown", "()I"⟩
abbrev cX1_fail : ByteArray := prog_3_method_3_code
def yX1_fail : MethodName := ⟨RX1, "fail", "(I)I"⟩
abbrev cX1_failed : ByteArray := prog_3_method_4_code
def yX1_failed : MethodName := ⟨RX1, "failed", "(I)Z"⟩
abbrev cX1_isIn : ByteArray := prog_3_method_5_code
def yX1_isIn : MethodName := ⟨RX1, "isIn", "(III)Z"⟩
abbrev cX1_isQuarter : ByteArray := prog_3_method_6_code
def yX1_isQuarter : MethodName := ⟨RX1, "isQuarter", "(I)Z"⟩
abbrev cX1_isOrder : ByteArray := prog_3_method_7_code
def yX1_isOrder : MethodName := ⟨RX1, "isOrder", "(I)Z"⟩
abbrev cX1_isPerson : ByteArray := prog_3_method_8_code
def yX1_isPerson : MethodName := ⟨RX1, "isPerson", "(I)Z"⟩
abbrev cX1_isTrade : ByteArray := prog_3_method_9_code
def yX1_isTrade : MethodName := ⟨RX1, "isTrade", "(I)Z"⟩
abbrev cX1_isColour : ByteArray := prog_3_method_10_code
def yX1_isColour : MethodName := ⟨RX1, "isColour", "(I)Z"⟩
abbrev cX1_tide : ByteArray := prog_3_method_11_code
def yX1_tide : MethodName := ⟨RX1, "tide", "(I)I"⟩
abbrev cX1_dusk : ByteArray := prog_3_method_12_code
def yX1_dusk : MethodName := ⟨RX1, "dusk", "(I)I"⟩
abbrev cX1_dawn : ByteArray := prog_3_method_13_code
def yX1_dawn : MethodName := ⟨RX1, "dawn", "(I)I"⟩
abbrev cX1_isAt : ByteArray := prog_3_method_14_code
def yX1_isAt : MethodName := ⟨RX1, "isAt", "(II)Z"⟩
abbrev cX1_onAt : ByteArray := prog_3_method_15_code
def yX1_onAt : MethodName := ⟨RX1, "onAt", "(II)Z"⟩
abbrev cX1_barsAt : ByteArray := prog_3_method_16_code
def yX1_barsAt : MethodName := ⟨RX1, "barsAt", "(IIII)Z"⟩
abbrev cX1_against : ByteArray := prog_3_method_17_code
def yX1_against : MethodName := ⟨RX1, "against", "(III)I"⟩
abbrev cX1_addQuarter : ByteArray := prog_3_method_18_code
def yX1_addQuarter : MethodName := ⟨RX1, "addQuarter", "()I"⟩
abbrev cX1_addPerson : ByteArray := prog_3_method_19_code
def yX1_addPerson : MethodName := ⟨RX1, "addPerson", "(I)I"⟩
abbrev cX1_addOrder : ByteArray := prog_3_method_20_code
def yX1_addOrder : MethodName := ⟨RX1, "addOrder", "(IIII)I"⟩
abbrev cX1_turnExempt : ByteArray := prog_3_method_21_code
def yX1_turnExempt : MethodName := ⟨RX1, "turnExempt", "(II)Z"⟩
abbrev cX1_turnOrder : ByteArray := prog_3_method_22_code
def yX1_turnOrder : MethodName := ⟨RX1, "turnOrder", "(I)Z"⟩
abbrev cX1_setShift : ByteArray := prog_3_method_23_code
def yX1_setShift : MethodName := ⟨RX1, "setShift", "(I)I"⟩
abbrev cX1_isPass : ByteArray := prog_3_method_24_code
def yX1_isPass : MethodName := ⟨RX1, "isPass", "(II)Z"⟩
abbrev cX1_givePass : ByteArray := prog_3_method_25_code
def yX1_givePass : MethodName := ⟨RX1, "givePass", "(III)I"⟩
abbrev cX1_takePass : ByteArray := prog_3_method_26_code
def yX1_takePass : MethodName := ⟨RX1, "takePass", "(II)I"⟩
abbrev cX1_isPair : ByteArray := prog_3_method_27_code
def yX1_isPair : MethodName := ⟨RX1, "isPair", "(II)Z"⟩
abbrev cX1_goOut : ByteArray := prog_3_method_28_code
def yX1_goOut : MethodName := ⟨RX1, "goOut", "(II)I"⟩
abbrev cX1_pass : ByteArray := prog_3_method_29_code
def yX1_pass : MethodName := ⟨RX1, "pass", "(I)I"⟩
abbrev cX1_day : ByteArray := prog_3_method_30_code
def yX1_day : MethodName := ⟨RX1, "day", "()I"⟩
abbrev cX1_halfHour : ByteArray := prog_3_method_31_code
def yX1_halfHour : MethodName := ⟨RX1, "halfHour", "()I"⟩
abbrev cX1_duskIn : ByteArray := prog_3_method_32_code
def yX1_duskIn : MethodName := ⟨RX1, "duskIn", "(I)I"⟩
abbrev cX1_dawnIn : ByteArray := prog_3_method_33_code
def yX1_dawnIn : MethodName := ⟨RX1, "dawnIn", "(I)I"⟩
abbrev cX1_quarterOf : ByteArray := prog_3_method_34_code
def yX1_quarterOf : MethodName := ⟨RX1, "quarterOf", "(I)I"⟩
abbrev cX1_colourOf : ByteArray := prog_3_method_35_code
def yX1_colourOf : MethodName := ⟨RX1, "colourOf", "(I)I"⟩
abbrev cX1_isInForce : ByteArray := prog_3_method_36_code
def yX1_isInForce : MethodName := ⟨RX1, "isInForce", "(I)Z"⟩
abbrev cX1_isOn : ByteArray := prog_3_method_37_code
def yX1_isOn : MethodName := ⟨RX1, "isOn", "(I)Z"⟩
abbrev cX1_isExempt : ByteArray := prog_3_method_38_code
def yX1_isExempt : MethodName := ⟨RX1, "isExempt", "(II)Z"⟩
abbrev cX1_barred : ByteArray := prog_3_method_39_code
def yX1_barred : MethodName := ⟨RX1, "barred", "(I)I"⟩
abbrev cX1_barredBy : ByteArray := prog_3_method_40_code
def yX1_barredBy : MethodName := ⟨RX1, "barredBy", "(I)I"⟩
abbrev cX1_tradeOf : ByteArray := prog_3_method_41_code
def yX1_tradeOf : MethodName := ⟨RX1, "tradeOf", "(I)I"⟩
abbrev cX1_stampsOf : ByteArray := prog_3_method_42_code
def yX1_stampsOf : MethodName := ⟨RX1, "stampsOf", "(II)I"⟩
abbrev cX1_owes : ByteArray := prog_3_method_43_code
def yX1_owes : MethodName := ⟨RX1, "owes", "(I)I"⟩
abbrev cX1_timesFined : ByteArray := prog_3_method_44_code
def yX1_timesFined : MethodName := ⟨RX1, "timesFined", "(I)I"⟩
abbrev cX1_ordersAgainst : ByteArray := prog_3_method_45_code
def yX1_ordersAgainst : MethodName := ⟨RX1, "ordersAgainst", "(II)I"⟩
abbrev cX1_missing : ByteArray := prog_3_method_46_code
def yX1_missing : MethodName := ⟨RX1, "missing", "(II)I"⟩
abbrev cX1_mayGo : ByteArray := prog_3_method_47_code
def yX1_mayGo : MethodName := ⟨RX1, "mayGo", "(II)Z"⟩
abbrev cX1_stampsMissing : ByteArray := prog_3_method_48_code
def yX1_stampsMissing : MethodName := ⟨RX1, "stampsMissing", "(II)I"⟩
abbrev cX1_quarters : ByteArray := prog_3_method_49_code
def yX1_quarters : MethodName := ⟨RX1, "quarters", "()I"⟩
abbrev cX1_orders : ByteArray := prog_3_method_50_code
def yX1_orders : MethodName := ⟨RX1, "orders", "()I"⟩
abbrev cX1_people : ByteArray := prog_3_method_51_code
def yX1_people : MethodName := ⟨RX1, "people", "()I"⟩
abbrev cX1_manyOn : ByteArray := prog_3_method_52_code
def yX1_manyOn : MethodName := ⟨RX1, "manyOn", "()I"⟩
abbrev cX1_ordersOn : ByteArray := prog_3_method_53_code
def yX1_ordersOn : MethodName := ⟨RX1, "ordersOn", "()I"⟩
abbrev cX1_shift : ByteArray := prog_3_method_54_code
def yX1_shift : MethodName := ⟨RX1, "shift", "()I"⟩
abbrev cX1_all : ByteArray := prog_3_method_55_code
def yX1_all : MethodName := ⟨RX1, "all", "()I"⟩
abbrev cX1_allOwe : ByteArray := prog_3_method_56_code
def yX1_allOwe : MethodName := ⟨RX1, "allOwe", "()I"⟩
abbrev cX1_stampsUsed : ByteArray := prog_3_method_57_code
def yX1_stampsUsed : MethodName := ⟨RX1, "stampsUsed", "(I)I"⟩
abbrev cX1_halfHoursUntilFree : ByteArray := prog_3_method_58_code
def yX1_halfHoursUntilFree : MethodName := ⟨RX1, "halfHoursUntilFree", "(II)I"⟩
abbrev cX1_halfHoursOn : ByteArray := prog_3_method_59_code
def yX1_halfHoursOn : MethodName := ⟨RX1, "halfHoursOn", "(I)I"⟩
abbrev cX1_pairs : ByteArray := prog_3_method_60_code
def yX1_pairs : MethodName := ⟨RX1, "pairs", "()I"⟩
abbrev cX1_bestLift : ByteArray := prog_3_method_61_code
def yX1_bestLift : MethodName := ⟨RX1, "bestLift", "()I"⟩
abbrev cX1_meanDebt : ByteArray := prog_3_method_62_code
def yX1_meanDebt : MethodName := ⟨RX1, "meanDebt", "()D"⟩
abbrev cX1_digest : ByteArray := prog_3_method_63_code
def yX1_digest : MethodName := ⟨RX1, "digest", "()J"⟩
def RJ9 : String := "java/lang/Math"
def TJ9 : u_T := fun k => match k with
  | _ => ("", "", "", false)
def tyJ9 : Nat → FieldType := fun k => match k with
  | _ => .int
abbrev wsJ90 : List Cond := u_ws RJ9 TJ9 0
theorem nmJ9 : ∀ a, a < 0 → ∀ b, b < 0 → a ≠ b → (TJ9 a).2.1 ≠ (TJ9 b).2.1 := by decide +kernel
theorem tyJ9_ok : ∀ k, k < 0 → parseFieldDescriptor (TJ9 k).2.2.1 = some (tyJ9 k) := by decide +kernel
abbrev cJ9_max_7cf53 : ByteArray := prog_8_method_65_code
def yJ9_max_7cf53 : MethodName := ⟨RJ9, "max", "(II)I"⟩
abbrev cJ9_min_7cf53 : ByteArray := prog_8_method_69_code
def yJ9_min_7cf53 : MethodName := ⟨RJ9, "min", "(II)I"⟩
def RJ0 : String := "java/lang/String"
def TJ0 : u_T := fun k => match k with
  | _ => ("", "", "", false)
def tyJ0 : Nat → FieldType := fun k => match k with
  | _ => .int
abbrev wsJ00 : List Cond := u_ws RJ0 TJ0 0
theorem nmJ0 : ∀ a, a < 0 → ∀ b, b < 0 → a ≠ b → (TJ0 a).2.1 ≠ (TJ0 b).2.1 := by decide +kernel
theorem tyJ0_ok : ∀ k, k < 0 → parseFieldDescriptor (TJ0 k).2.2.1 = some (tyJ0 k) := by decide +kernel
def RL : String := "CurfewDeskLaw"
abbrev cL_addQuarter : ByteArray := method_3_code
def yL_addQuarter : MethodName := ⟨RL, "addQuarter", "(LCurfewDesk;[J)I"⟩
abbrev cL_addPerson : ByteArray := method_4_code
def yL_addPerson : MethodName := ⟨RL, "addPerson", "(LCurfewDesk;I[J)I"⟩
abbrev cL_addOrder : ByteArray := method_5_code
def yL_addOrder : MethodName := ⟨RL, "addOrder", "(LCurfewDesk;IIII[J)I"⟩
abbrev cL_turnExempt : ByteArray := method_6_code
def yL_turnExempt : MethodName := ⟨RL, "turnExempt", "(LCurfewDesk;II[J)I"⟩
abbrev cL_turnOrder : ByteArray := method_7_code
def yL_turnOrder : MethodName := ⟨RL, "turnOrder", "(LCurfewDesk;I[J)I"⟩
abbrev cL_setShift : ByteArray := method_8_code
def yL_setShift : MethodName := ⟨RL, "setShift", "(LCurfewDesk;I[J)I"⟩
abbrev cL_givePass : ByteArray := method_9_code
def yL_givePass : MethodName := ⟨RL, "givePass", "(LCurfewDesk;III[J)I"⟩
abbrev cL_takePass : ByteArray := method_10_code
def yL_takePass : MethodName := ⟨RL, "takePass", "(LCurfewDesk;II[J)I"⟩
abbrev cL_goOut : ByteArray := method_11_code
def yL_goOut : MethodName := ⟨RL, "goOut", "(LCurfewDesk;II[J)I"⟩
abbrev cL_pass : ByteArray := method_12_code
def yL_pass : MethodName := ⟨RL, "pass", "(LCurfewDesk;I[J)I"⟩
abbrev cL_duskIn : ByteArray := method_13_code
def yL_duskIn : MethodName := ⟨RL, "duskIn", "(LCurfewDesk;I[J)I"⟩
abbrev cL_dawnIn : ByteArray := method_14_code
def yL_dawnIn : MethodName := ⟨RL, "dawnIn", "(LCurfewDesk;I[J)I"⟩
abbrev cL_quarterOf : ByteArray := method_15_code
def yL_quarterOf : MethodName := ⟨RL, "quarterOf", "(LCurfewDesk;I[J)I"⟩
abbrev cL_colourOf : ByteArray := method_16_code
def yL_colourOf : MethodName := ⟨RL, "colourOf", "(LCurfewDesk;I[J)I"⟩
abbrev cL_isInForce : ByteArray := method_17_code
def yL_isInForce : MethodName := ⟨RL, "isInForce", "(LCurfewDesk;I[J)I"⟩
abbrev cL_isOn : ByteArray := method_18_code
def yL_isOn : MethodName := ⟨RL, "isOn", "(LCurfewDesk;I[J)I"⟩
abbrev cL_isExempt : ByteArray := method_19_code
def yL_isExempt : MethodName := ⟨RL, "isExempt", "(LCurfewDesk;II[J)I"⟩
abbrev cL_barredBy : ByteArray := method_20_code
def yL_barredBy : MethodName := ⟨RL, "barredBy", "(LCurfewDesk;I[J)I"⟩
abbrev cL_tradeOf : ByteArray := method_21_code
def yL_tradeOf : MethodName := ⟨RL, "tradeOf", "(LCurfewDesk;I[J)I"⟩
abbrev cL_stampsOf : ByteArray := method_22_code
def yL_stampsOf : MethodName := ⟨RL, "stampsOf", "(LCurfewDesk;II[J)I"⟩
abbrev cL_owes : ByteArray := method_23_code
def yL_owes : MethodName := ⟨RL, "owes", "(LCurfewDesk;I[J)I"⟩
abbrev cL_timesFined : ByteArray := method_24_code
def yL_timesFined : MethodName := ⟨RL, "timesFined", "(LCurfewDesk;I[J)I"⟩
abbrev cL_ordersAgainst : ByteArray := method_25_code
def yL_ordersAgainst : MethodName := ⟨RL, "ordersAgainst", "(LCurfewDesk;II[J)I"⟩
abbrev cL_mayGo : ByteArray := method_26_code
def yL_mayGo : MethodName := ⟨RL, "mayGo", "(LCurfewDesk;II[J)I"⟩
abbrev cL_stampsMissing : ByteArray := method_27_code
def yL_stampsMissing : MethodName := ⟨RL, "stampsMissing", "(LCurfewDesk;II[J)I"⟩
abbrev cL_stampsUsed : ByteArray := method_28_code
def yL_stampsUsed : MethodName := ⟨RL, "stampsUsed", "(LCurfewDesk;I[J)I"⟩
abbrev cL_halfHoursUntilFree : ByteArray := method_29_code
def yL_halfHoursUntilFree : MethodName := ⟨RL, "halfHoursUntilFree", "(LCurfewDesk;II[J)I"⟩
abbrev cL_halfHoursOn : ByteArray := method_30_code
def yL_halfHoursOn : MethodName := ⟨RL, "halfHoursOn", "(LCurfewDesk;I[J)I"⟩
abbrev cL_law : ByteArray := code
def yL_law : MethodName := ⟨RL, "law", "([I)Z"⟩
def wsX0_init : List Cond := .code yX0_init cX0_init 1 none :: ([.methodLink RX0 1 objectInit, .instanceMethod objectInit, .code objectInit ⟨#[0xb1]⟩ 1 none, .arrayClass .int, .fieldLink RX0 9 "CurfewDesk" "orderQuarter" "[I", .fieldLink RX0 13 "CurfewDesk" "orderAhead" "[I", .fieldLink RX0 16 "CurfewDesk" "orderBehind" "[I", .fieldLink RX0 19 "CurfewDesk" "orderColour" "[I", .arrayClass .boolean, .fieldLink RX0 22 "CurfewDesk" "orderInForce" "[Z", .fieldLink RX0 26 "CurfewDesk" "orderExempt" "[I", .fieldLink RX0 29 "CurfewDesk" "personTrade" "[I", .fieldLink RX0 32 "CurfewDesk" "personFined" "[I", .fieldLink RX0 35 "CurfewDesk" "personOwes" "[I", .fieldLink RX0 38 "CurfewDesk" "personStamps" "[I", .fieldLink RX0 41 "CurfewDesk" "usedStamps" "[I"] ++ wsX00)
def wsX0_addQuarter : List Cond := .code yX0_addQuarter cX0_addQuarter 2 (some .int) :: ([.classLink RX0 48 "java/lang/IllegalStateException", .initialized "java/lang/IllegalStateException", .fieldLink RX0 44 "CurfewDesk" "quarterCount" "I"] ++ wsX00 ++ (vx_atS RX0 52 "java/lang/IllegalStateException" ["java/lang/RuntimeException", "java/lang/Exception"]).filter goodWord)
def wsX0_requireTrade : List Cond := .code yX0_requireTrade cX0_requireTrade 1 none :: ([.classLink RX0 190 "java/lang/IndexOutOfBoundsException", .initialized "java/lang/IndexOutOfBoundsException"] ++ (vx_atS RX0 194 "java/lang/IndexOutOfBoundsException" ["java/lang/RuntimeException", "java/lang/Exception"]).filter goodWord)
def wsX0_addPerson : List Cond := .code yX0_addPerson cX0_addPerson 3 (some .int) :: ([.classLink RX0 48 "java/lang/IllegalStateException", .initialized "java/lang/IllegalStateException", .fieldLink RX0 59 "CurfewDesk" "personCount" "I", .fieldLink RX0 29 "CurfewDesk" "personTrade" "[I", .methodLink RX0 55 yX0_requireTrade, .static yX0_requireTrade, .initialized RX0, .code yX0_requireTrade cX0_requireTrade 1 none, .classLink RX0 190 "java/lang/IndexOutOfBoundsException", .initialized "java/lang/IndexOutOfBoundsException"] ++ wsX00 ++ (vx_atS RX0 52 "java/lang/IllegalStateException" ["java/lang/RuntimeException", "java/lang/Exception"]).filter goodWord ++ (vx_atS RX0 194 "java/lang/IndexOutOfBoundsException" ["java/lang/RuntimeException", "java/lang/Exception"]).filter goodWord)
def wsX0_requireQuarter : List Cond := .code yX0_requireQuarter cX0_requireQuarter 2 none :: ([.classLink RX0 190 "java/lang/IndexOutOfBoundsException", .initialized "java/lang/IndexOutOfBoundsException", .fieldLink RX0 44 "CurfewDesk" "quarterCount" "I"] ++ wsX00 ++ (vx_atS RX0 194 "java/lang/IndexOutOfBoundsException" ["java/lang/RuntimeException", "java/lang/Exception"]).filter goodWord)
def wsX0_requireColour : List Cond := .code yX0_requireColour cX0_requireColour 1 none :: ([.classLink RX0 190 "java/lang/IndexOutOfBoundsException", .initialized "java/lang/IndexOutOfBoundsException"] ++ (vx_atS RX0 194 "java/lang/IndexOutOfBoundsException" ["java/lang/RuntimeException", "java/lang/Exception"]).filter goodWord)
def wsX0_requireWithin : List Cond := .code yX0_requireWithin cX0_requireWithin 3 none :: ([.classLink RX0 203 "java/lang/IllegalArgumentException", .initialized "java/lang/IllegalArgumentException"] ++ (vx_atS RX0 207 "java/lang/IllegalArgumentException" ["java/lang/RuntimeException", "java/lang/Exception"]).filter goodWord)
def wsX0_addOrder : List Cond := .code yX0_addOrder cX0_addOrder 6 (some .int) :: ([.classLink RX0 48 "java/lang/IllegalStateException", .initialized "java/lang/IllegalStateException", .fieldLink RX0 74 "CurfewDesk" "orderCount" "I", .fieldLink RX0 9 "CurfewDesk" "orderQuarter" "[I", .fieldLink RX0 13 "CurfewDesk" "orderAhead" "[I", .fieldLink RX0 16 "CurfewDesk" "orderBehind" "[I", .fieldLink RX0 19 "CurfewDesk" "orderColour" "[I", .fieldLink RX0 22 "CurfewDesk" "orderInForce" "[Z", .methodLink RX0 64 yX0_requireQuarter, .instanceMethod yX0_requireQuarter, .selects RX0 yX0_requireQuarter yX0_requireQuarter, .initialized RX0, .code yX0_requireQuarter cX0_requireQuarter 2 none, .classLink RX0 190 "java/lang/IndexOutOfBoundsException", .initialized "java/lang/IndexOutOfBoundsException", .fieldLink RX0 44 "CurfewDesk" "quarterCount" "I", .methodLink RX0 67 yX0_requireColour, .static yX0_requireColour, .code yX0_requireColour cX0_requireColour 1 none, .methodLink RX0 70 yX0_requireWithin, .static yX0_requireWithin, .code yX0_requireWithin cX0_requireWithin 3 none, .classLink RX0 203 "java/lang/IllegalArgumentException", .initialized "java/lang/IllegalArgumentException"] ++ wsX00 ++ (vx_atS RX0 52 "java/lang/IllegalStateException" ["java/lang/RuntimeException", "java/lang/Exception"]).filter goodWord ++ (vx_atS RX0 194 "java/lang/IndexOutOfBoundsException" ["java/lang/RuntimeException", "java/lang/Exception"]).filter goodWord ++ (vx_atS RX0 207 "java/lang/IllegalArgumentException" ["java/lang/RuntimeException", "java/lang/Exception"]).filter goodWord)
def wsX0_requireOrder : List Cond := .code yX0_requireOrder cX0_requireOrder 2 none :: ([.classLink RX0 190 "java/lang/IndexOutOfBoundsException", .initialized "java/lang/IndexOutOfBoundsException", .fieldLink RX0 74 "CurfewDesk" "orderCount" "I"] ++ wsX00 ++ (vx_atS RX0 194 "java/lang/IndexOutOfBoundsException" ["java/lang/RuntimeException", "java/lang/Exception"]).filter goodWord)
def wsX0_exempts : List Cond := .code yX0_exempts cX0_exempts 3 (some .boolean) :: ([.fieldLink RX0 26 "CurfewDesk" "orderExempt" "[I"] ++ wsX00)
def wsX0_turnExempt : List Cond := .code yX0_turnExempt cX0_turnExempt 3 (some .boolean) :: ([.fieldLink RX0 26 "CurfewDesk" "orderExempt" "[I", .methodLink RX0 79 yX0_requireOrder, .instanceMethod yX0_requireOrder, .selects RX0 yX0_requireOrder yX0_requireOrder, .initialized RX0, .code yX0_requireOrder cX0_requireOrder 2 none, .classLink RX0 190 "java/lang/IndexOutOfBoundsException", .initialized "java/lang/IndexOutOfBoundsException", .fieldLink RX0 74 "CurfewDesk" "orderCount" "I", .methodLink RX0 55 yX0_requireTrade, .static yX0_requireTrade, .code yX0_requireTrade cX0_requireTrade 1 none, .methodLink RX0 82 yX0_exempts, .instanceMethod yX0_exempts, .selects RX0 yX0_exempts yX0_exempts, .code yX0_exempts cX0_exempts 3 (some .boolean)] ++ wsX00 ++ (vx_atS RX0 194 "java/lang/IndexOutOfBoundsException" ["java/lang/RuntimeException", "java/lang/Exception"]).filter goodWord)
def wsX0_turnOrder : List Cond := .code yX0_turnOrder cX0_turnOrder 2 (some .boolean) :: ([.fieldLink RX0 22 "CurfewDesk" "orderInForce" "[Z", .methodLink RX0 79 yX0_requireOrder, .instanceMethod yX0_requireOrder, .selects RX0 yX0_requireOrder yX0_requireOrder, .initialized RX0, .code yX0_requireOrder cX0_requireOrder 2 none, .classLink RX0 190 "java/lang/IndexOutOfBoundsException", .initialized "java/lang/IndexOutOfBoundsException", .fieldLink RX0 74 "CurfewDesk" "orderCount" "I"] ++ wsX00 ++ (vx_atS RX0 194 "java/lang/IndexOutOfBoundsException" ["java/lang/RuntimeException", "java/lang/Exception"]).filter goodWord)
def wsX0_setShift : List Cond := .code yX0_setShift cX0_setShift 3 (some .int) :: ([.fieldLink RX0 86 "CurfewDesk" "duskShift" "I", .methodLink RX0 70 yX0_requireWithin, .static yX0_requireWithin, .initialized RX0, .code yX0_requireWithin cX0_requireWithin 3 none, .classLink RX0 203 "java/lang/IllegalArgumentException", .initialized "java/lang/IllegalArgumentException"] ++ wsX00 ++ (vx_atS RX0 207 "java/lang/IllegalArgumentException" ["java/lang/RuntimeException", "java/lang/Exception"]).filter goodWord)
def wsX0_requirePerson : List Cond := .code yX0_requirePerson cX0_requirePerson 2 none :: ([.classLink RX0 190 "java/lang/IndexOutOfBoundsException", .initialized "java/lang/IndexOutOfBoundsException", .fieldLink RX0 59 "CurfewDesk" "personCount" "I"] ++ wsX00 ++ (vx_atS RX0 194 "java/lang/IndexOutOfBoundsException" ["java/lang/RuntimeException", "java/lang/Exception"]).filter goodWord)
def wsX0_stampPlace : List Cond := .code yX0_stampPlace cX0_stampPlace 2 (some .int) :: ([])
def wsX0_givePass : List Cond := .code yX0_givePass cX0_givePass 5 (some .int) :: ([.fieldLink RX0 38 "CurfewDesk" "personStamps" "[I", .methodLink RX0 96 Lib.Math.min.name, .static Lib.Math.min.name, .initialized "java/lang/Math", .code Lib.Math.min.name Lib.Math.min.code 2 (some .int), .methodLink RX0 89 yX0_requirePerson, .instanceMethod yX0_requirePerson, .selects RX0 yX0_requirePerson yX0_requirePerson, .initialized RX0, .code yX0_requirePerson cX0_requirePerson 2 none, .classLink RX0 190 "java/lang/IndexOutOfBoundsException", .initialized "java/lang/IndexOutOfBoundsException", .fieldLink RX0 59 "CurfewDesk" "personCount" "I", .methodLink RX0 67 yX0_requireColour, .static yX0_requireColour, .code yX0_requireColour cX0_requireColour 1 none, .methodLink RX0 70 yX0_requireWithin, .static yX0_requireWithin, .code yX0_requireWithin cX0_requireWithin 3 none, .classLink RX0 203 "java/lang/IllegalArgumentException", .initialized "java/lang/IllegalArgumentException", .methodLink RX0 92 yX0_stampPlace, .static yX0_stampPlace, .code yX0_stampPlace cX0_stampPlace 2 (some .int)] ++ wsX00 ++ (vx_atS RX0 194 "java/lang/IndexOutOfBoundsException" ["java/lang/RuntimeException", "java/lang/Exception"]).filter goodWord ++ (vx_atS RX0 207 "java/lang/IllegalArgumentException" ["java/lang/RuntimeException", "java/lang/Exception"]).filter goodWord)
def wsX0_takePass : List Cond := .code yX0_takePass cX0_takePass 5 (some .int) :: ([.fieldLink RX0 38 "CurfewDesk" "personStamps" "[I", .methodLink RX0 89 yX0_requirePerson, .instanceMethod yX0_requirePerson, .selects RX0 yX0_requirePerson yX0_requirePerson, .initialized RX0, .code yX0_requirePerson cX0_requirePerson 2 none, .classLink RX0 190 "java/lang/IndexOutOfBoundsException", .initialized "java/lang/IndexOutOfBoundsException", .fieldLink RX0 59 "CurfewDesk" "personCount" "I", .methodLink RX0 67 yX0_requireColour, .static yX0_requireColour, .code yX0_requireColour cX0_requireColour 1 none, .methodLink RX0 92 yX0_stampPlace, .static yX0_stampPlace, .code yX0_stampPlace cX0_stampPlace 2 (some .int)] ++ wsX00 ++ (vx_atS RX0 194 "java/lang/IndexOutOfBoundsException" ["java/lang/RuntimeException", "java/lang/Exception"]).filter goodWord)
def wsX0_tideOf : List Cond := .code yX0_tideOf cX0_tideOf 2 (some .int) :: ([])
def wsX0_duskOf : List Cond := .code yX0_duskOf cX0_duskOf 2 (some .int) :: ([.fieldLink RX0 86 "CurfewDesk" "duskShift" "I", .methodLink RX0 184 yX0_tideOf, .static yX0_tideOf, .initialized RX0, .code yX0_tideOf cX0_tideOf 2 (some .int)] ++ wsX00)
def wsX0_dawnOf : List Cond := .code yX0_dawnOf cX0_dawnOf 1 (some .int) :: ([.methodLink RX0 184 yX0_tideOf, .static yX0_tideOf, .initialized RX0, .code yX0_tideOf cX0_tideOf 2 (some .int)])
def wsX0_isInHours : List Cond := .code yX0_isInHours cX0_isInHours 5 (some .boolean) :: ([.fieldLink RX0 13 "CurfewDesk" "orderAhead" "[I", .fieldLink RX0 16 "CurfewDesk" "orderBehind" "[I", .methodLink RX0 122 yX0_duskOf, .instanceMethod yX0_duskOf, .selects RX0 yX0_duskOf yX0_duskOf, .initialized RX0, .code yX0_duskOf cX0_duskOf 2 (some .int), .fieldLink RX0 86 "CurfewDesk" "duskShift" "I", .methodLink RX0 184 yX0_tideOf, .static yX0_tideOf, .code yX0_tideOf cX0_tideOf 2 (some .int), .methodLink RX0 125 yX0_dawnOf, .static yX0_dawnOf, .code yX0_dawnOf cX0_dawnOf 1 (some .int)] ++ wsX00)
def wsX0_bars_r1 : List Cond := [Cond.fieldLink RX0 9 "CurfewDesk" "orderQuarter" "[I", Cond.fieldLink RX0 29 "CurfewDesk" "personTrade" "[I", Cond.fieldLink RX0 22 "CurfewDesk" "orderInForce" "[Z", Cond.methodLink RX0 82 yX0_exempts, Cond.instanceMethod yX0_exempts, Cond.selects RX0 yX0_exempts yX0_exempts, Cond.initialized RX0, Cond.code yX0_exempts cX0_exempts 3 (some .boolean), Cond.fieldLink RX0 26 "CurfewDesk" "orderExempt" "[I", Cond.methodLink RX0 139 yX0_isInHours, Cond.instanceMethod yX0_isInHours, Cond.selects RX0 yX0_isInHours yX0_isInHours, Cond.code yX0_isInHours cX0_isInHours 5 (some .boolean), Cond.fieldLink RX0 13 "CurfewDesk" "orderAhead" "[I", Cond.fieldLink RX0 16 "CurfewDesk" "orderBehind" "[I", Cond.methodLink RX0 122 yX0_duskOf, Cond.instanceMethod yX0_duskOf, Cond.selects RX0 yX0_duskOf yX0_duskOf, Cond.code yX0_duskOf cX0_duskOf 2 (some .int), Cond.fieldLink RX0 86 "CurfewDesk" "duskShift" "I", Cond.methodLink RX0 184 yX0_tideOf, Cond.static yX0_tideOf, Cond.code yX0_tideOf cX0_tideOf 2 (some .int), Cond.methodLink RX0 125 yX0_dawnOf]
def wsX0_bars_r2 : List Cond := [Cond.static yX0_dawnOf, Cond.code yX0_dawnOf cX0_dawnOf 1 (some .int)]
def wsX0_bars : List Cond := .code yX0_bars cX0_bars 5 (some .boolean) :: ((wsX0_bars_r1 ++ wsX0_bars_r2) ++ wsX00)
def wsX0_useStamp : List Cond := .code yX0_useStamp cX0_useStamp 4 (some .boolean) :: ([.fieldLink RX0 38 "CurfewDesk" "personStamps" "[I", .fieldLink RX0 41 "CurfewDesk" "usedStamps" "[I", .methodLink RX0 92 yX0_stampPlace, .static yX0_stampPlace, .initialized RX0, .code yX0_stampPlace cX0_stampPlace 2 (some .int)] ++ wsX00)
def wsX0_fineOnce : List Cond := .code yX0_fineOnce cX0_fineOnce 3 (some .int) :: ([.fieldLink RX0 32 "CurfewDesk" "personFined" "[I", .fieldLink RX0 35 "CurfewDesk" "personOwes" "[I"] ++ wsX00)
def wsX0_goOut_r1 : List Cond := [Cond.fieldLink RX0 74 "CurfewDesk" "orderCount" "I", Cond.fieldLink RX0 101 "CurfewDesk" "now" "I", Cond.fieldLink RX0 19 "CurfewDesk" "orderColour" "[I", Cond.methodLink RX0 89 yX0_requirePerson, Cond.instanceMethod yX0_requirePerson, Cond.selects RX0 yX0_requirePerson yX0_requirePerson, Cond.initialized RX0, Cond.code yX0_requirePerson cX0_requirePerson 2 none, Cond.classLink RX0 190 "java/lang/IndexOutOfBoundsException", Cond.initialized "java/lang/IndexOutOfBoundsException", Cond.fieldLink RX0 59 "CurfewDesk" "personCount" "I", Cond.methodLink RX0 64 yX0_requireQuarter, Cond.instanceMethod yX0_requireQuarter, Cond.selects RX0 yX0_requireQuarter yX0_requireQuarter, Cond.code yX0_requireQuarter cX0_requireQuarter 2 none, Cond.fieldLink RX0 44 "CurfewDesk" "quarterCount" "I", Cond.methodLink RX0 104 yX0_bars, Cond.instanceMethod yX0_bars, Cond.selects RX0 yX0_bars yX0_bars, Cond.code yX0_bars cX0_bars 5 (some .boolean), Cond.fieldLink RX0 9 "CurfewDesk" "orderQuarter" "[I", Cond.fieldLink RX0 29 "CurfewDesk" "personTrade" "[I", Cond.fieldLink RX0 22 "CurfewDesk" "orderInForce" "[Z", Cond.methodLink RX0 82 yX0_exempts]
def wsX0_goOut_r2 : List Cond := [Cond.instanceMethod yX0_exempts, Cond.selects RX0 yX0_exempts yX0_exempts, Cond.code yX0_exempts cX0_exempts 3 (some .boolean), Cond.fieldLink RX0 26 "CurfewDesk" "orderExempt" "[I", Cond.methodLink RX0 139 yX0_isInHours, Cond.instanceMethod yX0_isInHours, Cond.selects RX0 yX0_isInHours yX0_isInHours, Cond.code yX0_isInHours cX0_isInHours 5 (some .boolean), Cond.fieldLink RX0 13 "CurfewDesk" "orderAhead" "[I", Cond.fieldLink RX0 16 "CurfewDesk" "orderBehind" "[I", Cond.methodLink RX0 122 yX0_duskOf, Cond.instanceMethod yX0_duskOf, Cond.selects RX0 yX0_duskOf yX0_duskOf, Cond.code yX0_duskOf cX0_duskOf 2 (some .int), Cond.fieldLink RX0 86 "CurfewDesk" "duskShift" "I", Cond.methodLink RX0 184 yX0_tideOf, Cond.static yX0_tideOf, Cond.code yX0_tideOf cX0_tideOf 2 (some .int), Cond.methodLink RX0 125 yX0_dawnOf, Cond.static yX0_dawnOf, Cond.code yX0_dawnOf cX0_dawnOf 1 (some .int), Cond.methodLink RX0 108 yX0_useStamp, Cond.instanceMethod yX0_useStamp, Cond.selects RX0 yX0_useStamp yX0_useStamp]
def wsX0_goOut_r3 : List Cond := [Cond.code yX0_useStamp cX0_useStamp 4 (some .boolean), Cond.fieldLink RX0 38 "CurfewDesk" "personStamps" "[I", Cond.fieldLink RX0 41 "CurfewDesk" "usedStamps" "[I", Cond.methodLink RX0 92 yX0_stampPlace, Cond.static yX0_stampPlace, Cond.code yX0_stampPlace cX0_stampPlace 2 (some .int), Cond.methodLink RX0 111 yX0_fineOnce, Cond.instanceMethod yX0_fineOnce, Cond.selects RX0 yX0_fineOnce yX0_fineOnce, Cond.code yX0_fineOnce cX0_fineOnce 3 (some .int), Cond.fieldLink RX0 32 "CurfewDesk" "personFined" "[I", Cond.fieldLink RX0 35 "CurfewDesk" "personOwes" "[I"]
def wsX0_goOut : List Cond := .code yX0_goOut cX0_goOut 5 (some .int) :: ((wsX0_goOut_r1 ++ (wsX0_goOut_r2 ++ wsX0_goOut_r3)) ++ wsX00 ++ (vx_atS RX0 194 "java/lang/IndexOutOfBoundsException" ["java/lang/RuntimeException", "java/lang/Exception"]).filter goodWord)
def wsX0_isOnAt : List Cond := .code yX0_isOnAt cX0_isOnAt 3 (some .boolean) :: ([.fieldLink RX0 22 "CurfewDesk" "orderInForce" "[Z", .methodLink RX0 139 yX0_isInHours, .instanceMethod yX0_isInHours, .selects RX0 yX0_isInHours yX0_isInHours, .initialized RX0, .code yX0_isInHours cX0_isInHours 5 (some .boolean), .fieldLink RX0 13 "CurfewDesk" "orderAhead" "[I", .fieldLink RX0 16 "CurfewDesk" "orderBehind" "[I", .methodLink RX0 122 yX0_duskOf, .instanceMethod yX0_duskOf, .selects RX0 yX0_duskOf yX0_duskOf, .code yX0_duskOf cX0_duskOf 2 (some .int), .fieldLink RX0 86 "CurfewDesk" "duskShift" "I", .methodLink RX0 184 yX0_tideOf, .static yX0_tideOf, .code yX0_tideOf cX0_tideOf 2 (some .int), .methodLink RX0 125 yX0_dawnOf, .static yX0_dawnOf, .code yX0_dawnOf cX0_dawnOf 1 (some .int)] ++ wsX00)
def wsX0_timesBegun : List Cond := .code yX0_timesBegun cX0_timesBegun 7 (some .int) :: ([.fieldLink RX0 101 "CurfewDesk" "now" "I", .methodLink RX0 128 yX0_isOnAt, .instanceMethod yX0_isOnAt, .selects RX0 yX0_isOnAt yX0_isOnAt, .initialized RX0, .code yX0_isOnAt cX0_isOnAt 3 (some .boolean), .fieldLink RX0 22 "CurfewDesk" "orderInForce" "[Z", .methodLink RX0 139 yX0_isInHours, .instanceMethod yX0_isInHours, .selects RX0 yX0_isInHours yX0_isInHours, .code yX0_isInHours cX0_isInHours 5 (some .boolean), .fieldLink RX0 13 "CurfewDesk" "orderAhead" "[I", .fieldLink RX0 16 "CurfewDesk" "orderBehind" "[I", .methodLink RX0 122 yX0_duskOf, .instanceMethod yX0_duskOf, .selects RX0 yX0_duskOf yX0_duskOf, .code yX0_duskOf cX0_duskOf 2 (some .int), .fieldLink RX0 86 "CurfewDesk" "duskShift" "I", .methodLink RX0 184 yX0_tideOf, .static yX0_tideOf, .code yX0_tideOf cX0_tideOf 2 (some .int), .methodLink RX0 125 yX0_dawnOf, .static yX0_dawnOf, .code yX0_dawnOf cX0_dawnOf 1 (some .int)] ++ wsX00)
def wsX0_pass_r1 : List Cond := [Cond.fieldLink RX0 74 "CurfewDesk" "orderCount" "I", Cond.fieldLink RX0 101 "CurfewDesk" "now" "I", Cond.methodLink RX0 70 yX0_requireWithin, Cond.static yX0_requireWithin, Cond.initialized RX0, Cond.code yX0_requireWithin cX0_requireWithin 3 none, Cond.classLink RX0 203 "java/lang/IllegalArgumentException", Cond.initialized "java/lang/IllegalArgumentException", Cond.methodLink RX0 115 yX0_timesBegun, Cond.instanceMethod yX0_timesBegun, Cond.selects RX0 yX0_timesBegun yX0_timesBegun, Cond.code yX0_timesBegun cX0_timesBegun 7 (some .int), Cond.methodLink RX0 128 yX0_isOnAt, Cond.instanceMethod yX0_isOnAt, Cond.selects RX0 yX0_isOnAt yX0_isOnAt, Cond.code yX0_isOnAt cX0_isOnAt 3 (some .boolean), Cond.fieldLink RX0 22 "CurfewDesk" "orderInForce" "[Z", Cond.methodLink RX0 139 yX0_isInHours, Cond.instanceMethod yX0_isInHours, Cond.selects RX0 yX0_isInHours yX0_isInHours, Cond.code yX0_isInHours cX0_isInHours 5 (some .boolean), Cond.fieldLink RX0 13 "CurfewDesk" "orderAhead" "[I", Cond.fieldLink RX0 16 "CurfewDesk" "orderBehind" "[I", Cond.methodLink RX0 122 yX0_duskOf]
def wsX0_pass_r2 : List Cond := [Cond.instanceMethod yX0_duskOf, Cond.selects RX0 yX0_duskOf yX0_duskOf, Cond.code yX0_duskOf cX0_duskOf 2 (some .int), Cond.fieldLink RX0 86 "CurfewDesk" "duskShift" "I", Cond.methodLink RX0 184 yX0_tideOf, Cond.static yX0_tideOf, Cond.code yX0_tideOf cX0_tideOf 2 (some .int), Cond.methodLink RX0 125 yX0_dawnOf, Cond.static yX0_dawnOf, Cond.code yX0_dawnOf cX0_dawnOf 1 (some .int)]
def wsX0_pass : List Cond := .code yX0_pass cX0_pass 4 (some .int) :: ((wsX0_pass_r1 ++ wsX0_pass_r2) ++ wsX00 ++ (vx_atS RX0 207 "java/lang/IllegalArgumentException" ["java/lang/RuntimeException", "java/lang/Exception"]).filter goodWord)
def wsX0_day : List Cond := .code yX0_day cX0_day 1 (some .int) :: ([.fieldLink RX0 101 "CurfewDesk" "now" "I"] ++ wsX00)
def wsX0_halfHour : List Cond := .code yX0_halfHour cX0_halfHour 1 (some .int) :: ([.fieldLink RX0 101 "CurfewDesk" "now" "I"] ++ wsX00)
def wsX0_duskIn : List Cond := .code yX0_duskIn cX0_duskIn 2 (some .int) :: ([.methodLink RX0 70 yX0_requireWithin, .static yX0_requireWithin, .initialized RX0, .code yX0_requireWithin cX0_requireWithin 3 none, .classLink RX0 203 "java/lang/IllegalArgumentException", .initialized "java/lang/IllegalArgumentException", .methodLink RX0 118 yX0_day, .instanceMethod yX0_day, .selects RX0 yX0_day yX0_day, .code yX0_day cX0_day 1 (some .int), .fieldLink RX0 101 "CurfewDesk" "now" "I", .methodLink RX0 122 yX0_duskOf, .instanceMethod yX0_duskOf, .selects RX0 yX0_duskOf yX0_duskOf, .code yX0_duskOf cX0_duskOf 2 (some .int), .fieldLink RX0 86 "CurfewDesk" "duskShift" "I", .methodLink RX0 184 yX0_tideOf, .static yX0_tideOf, .code yX0_tideOf cX0_tideOf 2 (some .int)] ++ wsX00 ++ (vx_atS RX0 207 "java/lang/IllegalArgumentException" ["java/lang/RuntimeException", "java/lang/Exception"]).filter goodWord)
def wsX0_dawnIn : List Cond := .code yX0_dawnIn cX0_dawnIn 2 (some .int) :: ([.methodLink RX0 70 yX0_requireWithin, .static yX0_requireWithin, .initialized RX0, .code yX0_requireWithin cX0_requireWithin 3 none, .classLink RX0 203 "java/lang/IllegalArgumentException", .initialized "java/lang/IllegalArgumentException", .methodLink RX0 118 yX0_day, .instanceMethod yX0_day, .selects RX0 yX0_day yX0_day, .code yX0_day cX0_day 1 (some .int), .fieldLink RX0 101 "CurfewDesk" "now" "I", .methodLink RX0 125 yX0_dawnOf, .static yX0_dawnOf, .code yX0_dawnOf cX0_dawnOf 1 (some .int), .methodLink RX0 184 yX0_tideOf, .static yX0_tideOf, .code yX0_tideOf cX0_tideOf 2 (some .int)] ++ wsX00 ++ (vx_atS RX0 207 "java/lang/IllegalArgumentException" ["java/lang/RuntimeException", "java/lang/Exception"]).filter goodWord)
def wsX0_quarterOf : List Cond := .code yX0_quarterOf cX0_quarterOf 2 (some .int) :: ([.fieldLink RX0 9 "CurfewDesk" "orderQuarter" "[I", .methodLink RX0 79 yX0_requireOrder, .instanceMethod yX0_requireOrder, .selects RX0 yX0_requireOrder yX0_requireOrder, .initialized RX0, .code yX0_requireOrder cX0_requireOrder 2 none, .classLink RX0 190 "java/lang/IndexOutOfBoundsException", .initialized "java/lang/IndexOutOfBoundsException", .fieldLink RX0 74 "CurfewDesk" "orderCount" "I"] ++ wsX00 ++ (vx_atS RX0 194 "java/lang/IndexOutOfBoundsException" ["java/lang/RuntimeException", "java/lang/Exception"]).filter goodWord)
def wsX0_colourOf : List Cond := .code yX0_colourOf cX0_colourOf 2 (some .int) :: ([.fieldLink RX0 19 "CurfewDesk" "orderColour" "[I", .methodLink RX0 79 yX0_requireOrder, .instanceMethod yX0_requireOrder, .selects RX0 yX0_requireOrder yX0_requireOrder, .initialized RX0, .code yX0_requireOrder cX0_requireOrder 2 none, .classLink RX0 190 "java/lang/IndexOutOfBoundsException", .initialized "java/lang/IndexOutOfBoundsException", .fieldLink RX0 74 "CurfewDesk" "orderCount" "I"] ++ wsX00 ++ (vx_atS RX0 194 "java/lang/IndexOutOfBoundsException" ["java/lang/RuntimeException", "java/lang/Exception"]).filter goodWord)
def wsX0_isInForce : List Cond := .code yX0_isInForce cX0_isInForce 2 (some .boolean) :: ([.fieldLink RX0 22 "CurfewDesk" "orderInForce" "[Z", .methodLink RX0 79 yX0_requireOrder, .instanceMethod yX0_requireOrder, .selects RX0 yX0_requireOrder yX0_requireOrder, .initialized RX0, .code yX0_requireOrder cX0_requireOrder 2 none, .classLink RX0 190 "java/lang/IndexOutOfBoundsException", .initialized "java/lang/IndexOutOfBoundsException", .fieldLink RX0 74 "CurfewDesk" "orderCount" "I"] ++ wsX00 ++ (vx_atS RX0 194 "java/lang/IndexOutOfBoundsException" ["java/lang/RuntimeException", "java/lang/Exception"]).filter goodWord)
def wsX0_isOn_r1 : List Cond := [Cond.fieldLink RX0 101 "CurfewDesk" "now" "I", Cond.methodLink RX0 79 yX0_requireOrder, Cond.instanceMethod yX0_requireOrder, Cond.selects RX0 yX0_requireOrder yX0_requireOrder, Cond.initialized RX0, Cond.code yX0_requireOrder cX0_requireOrder 2 none, Cond.classLink RX0 190 "java/lang/IndexOutOfBoundsException", Cond.initialized "java/lang/IndexOutOfBoundsException", Cond.fieldLink RX0 74 "CurfewDesk" "orderCount" "I", Cond.methodLink RX0 128 yX0_isOnAt, Cond.instanceMethod yX0_isOnAt, Cond.selects RX0 yX0_isOnAt yX0_isOnAt, Cond.code yX0_isOnAt cX0_isOnAt 3 (some .boolean), Cond.fieldLink RX0 22 "CurfewDesk" "orderInForce" "[Z", Cond.methodLink RX0 139 yX0_isInHours, Cond.instanceMethod yX0_isInHours, Cond.selects RX0 yX0_isInHours yX0_isInHours, Cond.code yX0_isInHours cX0_isInHours 5 (some .boolean), Cond.fieldLink RX0 13 "CurfewDesk" "orderAhead" "[I", Cond.fieldLink RX0 16 "CurfewDesk" "orderBehind" "[I", Cond.methodLink RX0 122 yX0_duskOf, Cond.instanceMethod yX0_duskOf, Cond.selects RX0 yX0_duskOf yX0_duskOf, Cond.code yX0_duskOf cX0_duskOf 2 (some .int)]
def wsX0_isOn_r2 : List Cond := [Cond.fieldLink RX0 86 "CurfewDesk" "duskShift" "I", Cond.methodLink RX0 184 yX0_tideOf, Cond.static yX0_tideOf, Cond.code yX0_tideOf cX0_tideOf 2 (some .int), Cond.methodLink RX0 125 yX0_dawnOf, Cond.static yX0_dawnOf, Cond.code yX0_dawnOf cX0_dawnOf 1 (some .int)]
def wsX0_isOn : List Cond := .code yX0_isOn cX0_isOn 2 (some .boolean) :: ((wsX0_isOn_r1 ++ wsX0_isOn_r2) ++ wsX00 ++ (vx_atS RX0 194 "java/lang/IndexOutOfBoundsException" ["java/lang/RuntimeException", "java/lang/Exception"]).filter goodWord)
def wsX0_isExempt : List Cond := .code yX0_isExempt cX0_isExempt 3 (some .boolean) :: ([.methodLink RX0 79 yX0_requireOrder, .instanceMethod yX0_requireOrder, .selects RX0 yX0_requireOrder yX0_requireOrder, .initialized RX0, .code yX0_requireOrder cX0_requireOrder 2 none, .classLink RX0 190 "java/lang/IndexOutOfBoundsException", .initialized "java/lang/IndexOutOfBoundsException", .fieldLink RX0 74 "CurfewDesk" "orderCount" "I", .methodLink RX0 55 yX0_requireTrade, .static yX0_requireTrade, .code yX0_requireTrade cX0_requireTrade 1 none, .methodLink RX0 82 yX0_exempts, .instanceMethod yX0_exempts, .selects RX0 yX0_exempts yX0_exempts, .code yX0_exempts cX0_exempts 3 (some .boolean), .fieldLink RX0 26 "CurfewDesk" "orderExempt" "[I"] ++ wsX00 ++ (vx_atS RX0 194 "java/lang/IndexOutOfBoundsException" ["java/lang/RuntimeException", "java/lang/Exception"]).filter goodWord)
def wsX0_barredBy_r1 : List Cond := [Cond.fieldLink RX0 59 "CurfewDesk" "personCount" "I", Cond.fieldLink RX0 9 "CurfewDesk" "orderQuarter" "[I", Cond.fieldLink RX0 101 "CurfewDesk" "now" "I", Cond.methodLink RX0 79 yX0_requireOrder, Cond.instanceMethod yX0_requireOrder, Cond.selects RX0 yX0_requireOrder yX0_requireOrder, Cond.initialized RX0, Cond.code yX0_requireOrder cX0_requireOrder 2 none, Cond.classLink RX0 190 "java/lang/IndexOutOfBoundsException", Cond.initialized "java/lang/IndexOutOfBoundsException", Cond.fieldLink RX0 74 "CurfewDesk" "orderCount" "I", Cond.methodLink RX0 104 yX0_bars, Cond.instanceMethod yX0_bars, Cond.selects RX0 yX0_bars yX0_bars, Cond.code yX0_bars cX0_bars 5 (some .boolean), Cond.fieldLink RX0 29 "CurfewDesk" "personTrade" "[I", Cond.fieldLink RX0 22 "CurfewDesk" "orderInForce" "[Z", Cond.methodLink RX0 82 yX0_exempts, Cond.instanceMethod yX0_exempts, Cond.selects RX0 yX0_exempts yX0_exempts, Cond.code yX0_exempts cX0_exempts 3 (some .boolean), Cond.fieldLink RX0 26 "CurfewDesk" "orderExempt" "[I", Cond.methodLink RX0 139 yX0_isInHours, Cond.instanceMethod yX0_isInHours]
def wsX0_barredBy_r2 : List Cond := [Cond.selects RX0 yX0_isInHours yX0_isInHours, Cond.code yX0_isInHours cX0_isInHours 5 (some .boolean), Cond.fieldLink RX0 13 "CurfewDesk" "orderAhead" "[I", Cond.fieldLink RX0 16 "CurfewDesk" "orderBehind" "[I", Cond.methodLink RX0 122 yX0_duskOf, Cond.instanceMethod yX0_duskOf, Cond.selects RX0 yX0_duskOf yX0_duskOf, Cond.code yX0_duskOf cX0_duskOf 2 (some .int), Cond.fieldLink RX0 86 "CurfewDesk" "duskShift" "I", Cond.methodLink RX0 184 yX0_tideOf, Cond.static yX0_tideOf, Cond.code yX0_tideOf cX0_tideOf 2 (some .int), Cond.methodLink RX0 125 yX0_dawnOf, Cond.static yX0_dawnOf, Cond.code yX0_dawnOf cX0_dawnOf 1 (some .int)]
def wsX0_barredBy : List Cond := .code yX0_barredBy cX0_barredBy 4 (some .int) :: ((wsX0_barredBy_r1 ++ wsX0_barredBy_r2) ++ wsX00 ++ (vx_atS RX0 194 "java/lang/IndexOutOfBoundsException" ["java/lang/RuntimeException", "java/lang/Exception"]).filter goodWord)
def wsX0_tradeOf : List Cond := .code yX0_tradeOf cX0_tradeOf 2 (some .int) :: ([.fieldLink RX0 29 "CurfewDesk" "personTrade" "[I", .methodLink RX0 89 yX0_requirePerson, .instanceMethod yX0_requirePerson, .selects RX0 yX0_requirePerson yX0_requirePerson, .initialized RX0, .code yX0_requirePerson cX0_requirePerson 2 none, .classLink RX0 190 "java/lang/IndexOutOfBoundsException", .initialized "java/lang/IndexOutOfBoundsException", .fieldLink RX0 59 "CurfewDesk" "personCount" "I"] ++ wsX00 ++ (vx_atS RX0 194 "java/lang/IndexOutOfBoundsException" ["java/lang/RuntimeException", "java/lang/Exception"]).filter goodWord)
def wsX0_stampsOf : List Cond := .code yX0_stampsOf cX0_stampsOf 3 (some .int) :: ([.fieldLink RX0 38 "CurfewDesk" "personStamps" "[I", .methodLink RX0 89 yX0_requirePerson, .instanceMethod yX0_requirePerson, .selects RX0 yX0_requirePerson yX0_requirePerson, .initialized RX0, .code yX0_requirePerson cX0_requirePerson 2 none, .classLink RX0 190 "java/lang/IndexOutOfBoundsException", .initialized "java/lang/IndexOutOfBoundsException", .fieldLink RX0 59 "CurfewDesk" "personCount" "I", .methodLink RX0 67 yX0_requireColour, .static yX0_requireColour, .code yX0_requireColour cX0_requireColour 1 none, .methodLink RX0 92 yX0_stampPlace, .static yX0_stampPlace, .code yX0_stampPlace cX0_stampPlace 2 (some .int)] ++ wsX00 ++ (vx_atS RX0 194 "java/lang/IndexOutOfBoundsException" ["java/lang/RuntimeException", "java/lang/Exception"]).filter goodWord)
def wsX0_owes : List Cond := .code yX0_owes cX0_owes 2 (some .int) :: ([.fieldLink RX0 35 "CurfewDesk" "personOwes" "[I", .methodLink RX0 89 yX0_requirePerson, .instanceMethod yX0_requirePerson, .selects RX0 yX0_requirePerson yX0_requirePerson, .initialized RX0, .code yX0_requirePerson cX0_requirePerson 2 none, .classLink RX0 190 "java/lang/IndexOutOfBoundsException", .initialized "java/lang/IndexOutOfBoundsException", .fieldLink RX0 59 "CurfewDesk" "personCount" "I"] ++ wsX00 ++ (vx_atS RX0 194 "java/lang/IndexOutOfBoundsException" ["java/lang/RuntimeException", "java/lang/Exception"]).filter goodWord)
def wsX0_timesFined : List Cond := .code yX0_timesFined cX0_timesFined 2 (some .int) :: ([.fieldLink RX0 32 "CurfewDesk" "personFined" "[I", .methodLink RX0 89 yX0_requirePerson, .instanceMethod yX0_requirePerson, .selects RX0 yX0_requirePerson yX0_requirePerson, .initialized RX0, .code yX0_requirePerson cX0_requirePerson 2 none, .classLink RX0 190 "java/lang/IndexOutOfBoundsException", .initialized "java/lang/IndexOutOfBoundsException", .fieldLink RX0 59 "CurfewDesk" "personCount" "I"] ++ wsX00 ++ (vx_atS RX0 194 "java/lang/IndexOutOfBoundsException" ["java/lang/RuntimeException", "java/lang/Exception"]).filter goodWord)
def wsX0_ordersAgainst_r1 : List Cond := [Cond.fieldLink RX0 74 "CurfewDesk" "orderCount" "I", Cond.fieldLink RX0 101 "CurfewDesk" "now" "I", Cond.methodLink RX0 89 yX0_requirePerson, Cond.instanceMethod yX0_requirePerson, Cond.selects RX0 yX0_requirePerson yX0_requirePerson, Cond.initialized RX0, Cond.code yX0_requirePerson cX0_requirePerson 2 none, Cond.classLink RX0 190 "java/lang/IndexOutOfBoundsException", Cond.initialized "java/lang/IndexOutOfBoundsException", Cond.fieldLink RX0 59 "CurfewDesk" "personCount" "I", Cond.methodLink RX0 64 yX0_requireQuarter, Cond.instanceMethod yX0_requireQuarter, Cond.selects RX0 yX0_requireQuarter yX0_requireQuarter, Cond.code yX0_requireQuarter cX0_requireQuarter 2 none, Cond.fieldLink RX0 44 "CurfewDesk" "quarterCount" "I", Cond.methodLink RX0 104 yX0_bars, Cond.instanceMethod yX0_bars, Cond.selects RX0 yX0_bars yX0_bars, Cond.code yX0_bars cX0_bars 5 (some .boolean), Cond.fieldLink RX0 9 "CurfewDesk" "orderQuarter" "[I", Cond.fieldLink RX0 29 "CurfewDesk" "personTrade" "[I", Cond.fieldLink RX0 22 "CurfewDesk" "orderInForce" "[Z", Cond.methodLink RX0 82 yX0_exempts, Cond.instanceMethod yX0_exempts]
def wsX0_ordersAgainst_r2 : List Cond := [Cond.selects RX0 yX0_exempts yX0_exempts, Cond.code yX0_exempts cX0_exempts 3 (some .boolean), Cond.fieldLink RX0 26 "CurfewDesk" "orderExempt" "[I", Cond.methodLink RX0 139 yX0_isInHours, Cond.instanceMethod yX0_isInHours, Cond.selects RX0 yX0_isInHours yX0_isInHours, Cond.code yX0_isInHours cX0_isInHours 5 (some .boolean), Cond.fieldLink RX0 13 "CurfewDesk" "orderAhead" "[I", Cond.fieldLink RX0 16 "CurfewDesk" "orderBehind" "[I", Cond.methodLink RX0 122 yX0_duskOf, Cond.instanceMethod yX0_duskOf, Cond.selects RX0 yX0_duskOf yX0_duskOf, Cond.code yX0_duskOf cX0_duskOf 2 (some .int), Cond.fieldLink RX0 86 "CurfewDesk" "duskShift" "I", Cond.methodLink RX0 184 yX0_tideOf, Cond.static yX0_tideOf, Cond.code yX0_tideOf cX0_tideOf 2 (some .int), Cond.methodLink RX0 125 yX0_dawnOf, Cond.static yX0_dawnOf, Cond.code yX0_dawnOf cX0_dawnOf 1 (some .int)]
def wsX0_ordersAgainst : List Cond := .code yX0_ordersAgainst cX0_ordersAgainst 5 (some .int) :: ((wsX0_ordersAgainst_r1 ++ wsX0_ordersAgainst_r2) ++ wsX00 ++ (vx_atS RX0 194 "java/lang/IndexOutOfBoundsException" ["java/lang/RuntimeException", "java/lang/Exception"]).filter goodWord)
def wsX0_missing_r1 : List Cond := [Cond.fieldLink RX0 74 "CurfewDesk" "orderCount" "I", Cond.fieldLink RX0 19 "CurfewDesk" "orderColour" "[I", Cond.fieldLink RX0 101 "CurfewDesk" "now" "I", Cond.fieldLink RX0 38 "CurfewDesk" "personStamps" "[I", Cond.methodLink RX0 187 Lib.Math.max.name, Cond.static Lib.Math.max.name, Cond.initialized "java/lang/Math", Cond.code Lib.Math.max.name Lib.Math.max.code 2 (some .int), Cond.methodLink RX0 104 yX0_bars, Cond.instanceMethod yX0_bars, Cond.selects RX0 yX0_bars yX0_bars, Cond.initialized RX0, Cond.code yX0_bars cX0_bars 5 (some .boolean), Cond.fieldLink RX0 9 "CurfewDesk" "orderQuarter" "[I", Cond.fieldLink RX0 29 "CurfewDesk" "personTrade" "[I", Cond.fieldLink RX0 22 "CurfewDesk" "orderInForce" "[Z", Cond.methodLink RX0 82 yX0_exempts, Cond.instanceMethod yX0_exempts, Cond.selects RX0 yX0_exempts yX0_exempts, Cond.code yX0_exempts cX0_exempts 3 (some .boolean), Cond.fieldLink RX0 26 "CurfewDesk" "orderExempt" "[I", Cond.methodLink RX0 139 yX0_isInHours, Cond.instanceMethod yX0_isInHours, Cond.selects RX0 yX0_isInHours yX0_isInHours]
def wsX0_missing_r2 : List Cond := [Cond.code yX0_isInHours cX0_isInHours 5 (some .boolean), Cond.fieldLink RX0 13 "CurfewDesk" "orderAhead" "[I", Cond.fieldLink RX0 16 "CurfewDesk" "orderBehind" "[I", Cond.methodLink RX0 122 yX0_duskOf, Cond.instanceMethod yX0_duskOf, Cond.selects RX0 yX0_duskOf yX0_duskOf, Cond.code yX0_duskOf cX0_duskOf 2 (some .int), Cond.fieldLink RX0 86 "CurfewDesk" "duskShift" "I", Cond.methodLink RX0 184 yX0_tideOf, Cond.static yX0_tideOf, Cond.code yX0_tideOf cX0_tideOf 2 (some .int), Cond.methodLink RX0 125 yX0_dawnOf, Cond.static yX0_dawnOf, Cond.code yX0_dawnOf cX0_dawnOf 1 (some .int), Cond.methodLink RX0 92 yX0_stampPlace, Cond.static yX0_stampPlace, Cond.code yX0_stampPlace cX0_stampPlace 2 (some .int)]
def wsX0_missing : List Cond := .code yX0_missing cX0_missing 8 (some .int) :: ((wsX0_missing_r1 ++ wsX0_missing_r2) ++ wsX00)
def wsX0_mayGo_r1 : List Cond := [Cond.methodLink RX0 89 yX0_requirePerson, Cond.instanceMethod yX0_requirePerson, Cond.selects RX0 yX0_requirePerson yX0_requirePerson, Cond.initialized RX0, Cond.code yX0_requirePerson cX0_requirePerson 2 none, Cond.classLink RX0 190 "java/lang/IndexOutOfBoundsException", Cond.initialized "java/lang/IndexOutOfBoundsException", Cond.fieldLink RX0 59 "CurfewDesk" "personCount" "I", Cond.methodLink RX0 64 yX0_requireQuarter, Cond.instanceMethod yX0_requireQuarter, Cond.selects RX0 yX0_requireQuarter yX0_requireQuarter, Cond.code yX0_requireQuarter cX0_requireQuarter 2 none, Cond.fieldLink RX0 44 "CurfewDesk" "quarterCount" "I", Cond.methodLink RX0 131 yX0_missing, Cond.instanceMethod yX0_missing, Cond.selects RX0 yX0_missing yX0_missing, Cond.code yX0_missing cX0_missing 8 (some .int), Cond.fieldLink RX0 74 "CurfewDesk" "orderCount" "I", Cond.fieldLink RX0 19 "CurfewDesk" "orderColour" "[I", Cond.fieldLink RX0 101 "CurfewDesk" "now" "I", Cond.fieldLink RX0 38 "CurfewDesk" "personStamps" "[I", Cond.methodLink RX0 187 Lib.Math.max.name, Cond.static Lib.Math.max.name, Cond.initialized "java/lang/Math"]
def wsX0_mayGo_r2 : List Cond := [Cond.code Lib.Math.max.name Lib.Math.max.code 2 (some .int), Cond.methodLink RX0 104 yX0_bars, Cond.instanceMethod yX0_bars, Cond.selects RX0 yX0_bars yX0_bars, Cond.code yX0_bars cX0_bars 5 (some .boolean), Cond.fieldLink RX0 9 "CurfewDesk" "orderQuarter" "[I", Cond.fieldLink RX0 29 "CurfewDesk" "personTrade" "[I", Cond.fieldLink RX0 22 "CurfewDesk" "orderInForce" "[Z", Cond.methodLink RX0 82 yX0_exempts, Cond.instanceMethod yX0_exempts, Cond.selects RX0 yX0_exempts yX0_exempts, Cond.code yX0_exempts cX0_exempts 3 (some .boolean), Cond.fieldLink RX0 26 "CurfewDesk" "orderExempt" "[I", Cond.methodLink RX0 139 yX0_isInHours, Cond.instanceMethod yX0_isInHours, Cond.selects RX0 yX0_isInHours yX0_isInHours, Cond.code yX0_isInHours cX0_isInHours 5 (some .boolean), Cond.fieldLink RX0 13 "CurfewDesk" "orderAhead" "[I", Cond.fieldLink RX0 16 "CurfewDesk" "orderBehind" "[I", Cond.methodLink RX0 122 yX0_duskOf, Cond.instanceMethod yX0_duskOf, Cond.selects RX0 yX0_duskOf yX0_duskOf, Cond.code yX0_duskOf cX0_duskOf 2 (some .int), Cond.fieldLink RX0 86 "CurfewDesk" "duskShift" "I"]
def wsX0_mayGo_r3 : List Cond := [Cond.methodLink RX0 184 yX0_tideOf, Cond.static yX0_tideOf, Cond.code yX0_tideOf cX0_tideOf 2 (some .int), Cond.methodLink RX0 125 yX0_dawnOf, Cond.static yX0_dawnOf, Cond.code yX0_dawnOf cX0_dawnOf 1 (some .int), Cond.methodLink RX0 92 yX0_stampPlace, Cond.static yX0_stampPlace, Cond.code yX0_stampPlace cX0_stampPlace 2 (some .int)]
def wsX0_mayGo : List Cond := .code yX0_mayGo cX0_mayGo 3 (some .boolean) :: ((wsX0_mayGo_r1 ++ (wsX0_mayGo_r2 ++ wsX0_mayGo_r3)) ++ wsX00 ++ (vx_atS RX0 194 "java/lang/IndexOutOfBoundsException" ["java/lang/RuntimeException", "java/lang/Exception"]).filter goodWord)
def wsX0_stampsMissing_r1 : List Cond := [Cond.methodLink RX0 89 yX0_requirePerson, Cond.instanceMethod yX0_requirePerson, Cond.selects RX0 yX0_requirePerson yX0_requirePerson, Cond.initialized RX0, Cond.code yX0_requirePerson cX0_requirePerson 2 none, Cond.classLink RX0 190 "java/lang/IndexOutOfBoundsException", Cond.initialized "java/lang/IndexOutOfBoundsException", Cond.fieldLink RX0 59 "CurfewDesk" "personCount" "I", Cond.methodLink RX0 64 yX0_requireQuarter, Cond.instanceMethod yX0_requireQuarter, Cond.selects RX0 yX0_requireQuarter yX0_requireQuarter, Cond.code yX0_requireQuarter cX0_requireQuarter 2 none, Cond.fieldLink RX0 44 "CurfewDesk" "quarterCount" "I", Cond.methodLink RX0 131 yX0_missing, Cond.instanceMethod yX0_missing, Cond.selects RX0 yX0_missing yX0_missing, Cond.code yX0_missing cX0_missing 8 (some .int), Cond.fieldLink RX0 74 "CurfewDesk" "orderCount" "I", Cond.fieldLink RX0 19 "CurfewDesk" "orderColour" "[I", Cond.fieldLink RX0 101 "CurfewDesk" "now" "I", Cond.fieldLink RX0 38 "CurfewDesk" "personStamps" "[I", Cond.methodLink RX0 187 Lib.Math.max.name, Cond.static Lib.Math.max.name, Cond.initialized "java/lang/Math"]
def wsX0_stampsMissing_r2 : List Cond := [Cond.code Lib.Math.max.name Lib.Math.max.code 2 (some .int), Cond.methodLink RX0 104 yX0_bars, Cond.instanceMethod yX0_bars, Cond.selects RX0 yX0_bars yX0_bars, Cond.code yX0_bars cX0_bars 5 (some .boolean), Cond.fieldLink RX0 9 "CurfewDesk" "orderQuarter" "[I", Cond.fieldLink RX0 29 "CurfewDesk" "personTrade" "[I", Cond.fieldLink RX0 22 "CurfewDesk" "orderInForce" "[Z", Cond.methodLink RX0 82 yX0_exempts, Cond.instanceMethod yX0_exempts, Cond.selects RX0 yX0_exempts yX0_exempts, Cond.code yX0_exempts cX0_exempts 3 (some .boolean), Cond.fieldLink RX0 26 "CurfewDesk" "orderExempt" "[I", Cond.methodLink RX0 139 yX0_isInHours, Cond.instanceMethod yX0_isInHours, Cond.selects RX0 yX0_isInHours yX0_isInHours, Cond.code yX0_isInHours cX0_isInHours 5 (some .boolean), Cond.fieldLink RX0 13 "CurfewDesk" "orderAhead" "[I", Cond.fieldLink RX0 16 "CurfewDesk" "orderBehind" "[I", Cond.methodLink RX0 122 yX0_duskOf, Cond.instanceMethod yX0_duskOf, Cond.selects RX0 yX0_duskOf yX0_duskOf, Cond.code yX0_duskOf cX0_duskOf 2 (some .int), Cond.fieldLink RX0 86 "CurfewDesk" "duskShift" "I"]
def wsX0_stampsMissing_r3 : List Cond := [Cond.methodLink RX0 184 yX0_tideOf, Cond.static yX0_tideOf, Cond.code yX0_tideOf cX0_tideOf 2 (some .int), Cond.methodLink RX0 125 yX0_dawnOf, Cond.static yX0_dawnOf, Cond.code yX0_dawnOf cX0_dawnOf 1 (some .int), Cond.methodLink RX0 92 yX0_stampPlace, Cond.static yX0_stampPlace, Cond.code yX0_stampPlace cX0_stampPlace 2 (some .int)]
def wsX0_stampsMissing : List Cond := .code yX0_stampsMissing cX0_stampsMissing 3 (some .int) :: ((wsX0_stampsMissing_r1 ++ (wsX0_stampsMissing_r2 ++ wsX0_stampsMissing_r3)) ++ wsX00 ++ (vx_atS RX0 194 "java/lang/IndexOutOfBoundsException" ["java/lang/RuntimeException", "java/lang/Exception"]).filter goodWord)
def wsX0_quarters : List Cond := .code yX0_quarters cX0_quarters 1 (some .int) :: ([.fieldLink RX0 44 "CurfewDesk" "quarterCount" "I"] ++ wsX00)
def wsX0_orders : List Cond := .code yX0_orders cX0_orders 1 (some .int) :: ([.fieldLink RX0 74 "CurfewDesk" "orderCount" "I"] ++ wsX00)
def wsX0_people : List Cond := .code yX0_people cX0_people 1 (some .int) :: ([.fieldLink RX0 59 "CurfewDesk" "personCount" "I"] ++ wsX00)
def wsX0_ordersOn_r1 : List Cond := [Cond.fieldLink RX0 74 "CurfewDesk" "orderCount" "I", Cond.fieldLink RX0 101 "CurfewDesk" "now" "I", Cond.methodLink RX0 128 yX0_isOnAt, Cond.instanceMethod yX0_isOnAt, Cond.selects RX0 yX0_isOnAt yX0_isOnAt, Cond.initialized RX0, Cond.code yX0_isOnAt cX0_isOnAt 3 (some .boolean), Cond.fieldLink RX0 22 "CurfewDesk" "orderInForce" "[Z", Cond.methodLink RX0 139 yX0_isInHours, Cond.instanceMethod yX0_isInHours, Cond.selects RX0 yX0_isInHours yX0_isInHours, Cond.code yX0_isInHours cX0_isInHours 5 (some .boolean), Cond.fieldLink RX0 13 "CurfewDesk" "orderAhead" "[I", Cond.fieldLink RX0 16 "CurfewDesk" "orderBehind" "[I", Cond.methodLink RX0 122 yX0_duskOf, Cond.instanceMethod yX0_duskOf, Cond.selects RX0 yX0_duskOf yX0_duskOf, Cond.code yX0_duskOf cX0_duskOf 2 (some .int), Cond.fieldLink RX0 86 "CurfewDesk" "duskShift" "I", Cond.methodLink RX0 184 yX0_tideOf, Cond.static yX0_tideOf, Cond.code yX0_tideOf cX0_tideOf 2 (some .int), Cond.methodLink RX0 125 yX0_dawnOf, Cond.static yX0_dawnOf]
def wsX0_ordersOn_r2 : List Cond := [Cond.code yX0_dawnOf cX0_dawnOf 1 (some .int)]
def wsX0_ordersOn : List Cond := .code yX0_ordersOn cX0_ordersOn 3 (some .int) :: ((wsX0_ordersOn_r1 ++ wsX0_ordersOn_r2) ++ wsX00)
def wsX0_shift : List Cond := .code yX0_shift cX0_shift 1 (some .int) :: ([.fieldLink RX0 86 "CurfewDesk" "duskShift" "I"] ++ wsX00)
def wsX0_allOwe : List Cond := .code yX0_allOwe cX0_allOwe 3 (some .int) :: ([.fieldLink RX0 59 "CurfewDesk" "personCount" "I", .fieldLink RX0 35 "CurfewDesk" "personOwes" "[I"] ++ wsX00)
def wsX0_stampsUsed : List Cond := .code yX0_stampsUsed cX0_stampsUsed 2 (some .int) :: ([.fieldLink RX0 41 "CurfewDesk" "usedStamps" "[I", .methodLink RX0 67 yX0_requireColour, .static yX0_requireColour, .initialized RX0, .code yX0_requireColour cX0_requireColour 1 none, .classLink RX0 190 "java/lang/IndexOutOfBoundsException", .initialized "java/lang/IndexOutOfBoundsException"] ++ wsX00 ++ (vx_atS RX0 194 "java/lang/IndexOutOfBoundsException" ["java/lang/RuntimeException", "java/lang/Exception"]).filter goodWord)
def wsX0_isFreeAt_r1 : List Cond := [Cond.fieldLink RX0 74 "CurfewDesk" "orderCount" "I", Cond.methodLink RX0 104 yX0_bars, Cond.instanceMethod yX0_bars, Cond.selects RX0 yX0_bars yX0_bars, Cond.initialized RX0, Cond.code yX0_bars cX0_bars 5 (some .boolean), Cond.fieldLink RX0 9 "CurfewDesk" "orderQuarter" "[I", Cond.fieldLink RX0 29 "CurfewDesk" "personTrade" "[I", Cond.fieldLink RX0 22 "CurfewDesk" "orderInForce" "[Z", Cond.methodLink RX0 82 yX0_exempts, Cond.instanceMethod yX0_exempts, Cond.selects RX0 yX0_exempts yX0_exempts, Cond.code yX0_exempts cX0_exempts 3 (some .boolean), Cond.fieldLink RX0 26 "CurfewDesk" "orderExempt" "[I", Cond.methodLink RX0 139 yX0_isInHours, Cond.instanceMethod yX0_isInHours, Cond.selects RX0 yX0_isInHours yX0_isInHours, Cond.code yX0_isInHours cX0_isInHours 5 (some .boolean), Cond.fieldLink RX0 13 "CurfewDesk" "orderAhead" "[I", Cond.fieldLink RX0 16 "CurfewDesk" "orderBehind" "[I", Cond.methodLink RX0 122 yX0_duskOf, Cond.instanceMethod yX0_duskOf, Cond.selects RX0 yX0_duskOf yX0_duskOf, Cond.code yX0_duskOf cX0_duskOf 2 (some .int)]
def wsX0_isFreeAt_r2 : List Cond := [Cond.fieldLink RX0 86 "CurfewDesk" "duskShift" "I", Cond.methodLink RX0 184 yX0_tideOf, Cond.static yX0_tideOf, Cond.code yX0_tideOf cX0_tideOf 2 (some .int), Cond.methodLink RX0 125 yX0_dawnOf, Cond.static yX0_dawnOf, Cond.code yX0_dawnOf cX0_dawnOf 1 (some .int)]
def wsX0_isFreeAt : List Cond := .code yX0_isFreeAt cX0_isFreeAt 5 (some .boolean) :: ((wsX0_isFreeAt_r1 ++ wsX0_isFreeAt_r2) ++ wsX00)
def wsX0_halfHoursUntilFree_r1 : List Cond := [Cond.fieldLink RX0 101 "CurfewDesk" "now" "I", Cond.methodLink RX0 89 yX0_requirePerson, Cond.instanceMethod yX0_requirePerson, Cond.selects RX0 yX0_requirePerson yX0_requirePerson, Cond.initialized RX0, Cond.code yX0_requirePerson cX0_requirePerson 2 none, Cond.classLink RX0 190 "java/lang/IndexOutOfBoundsException", Cond.initialized "java/lang/IndexOutOfBoundsException", Cond.fieldLink RX0 59 "CurfewDesk" "personCount" "I", Cond.methodLink RX0 64 yX0_requireQuarter, Cond.instanceMethod yX0_requireQuarter, Cond.selects RX0 yX0_requireQuarter yX0_requireQuarter, Cond.code yX0_requireQuarter cX0_requireQuarter 2 none, Cond.fieldLink RX0 44 "CurfewDesk" "quarterCount" "I", Cond.methodLink RX0 135 yX0_isFreeAt, Cond.instanceMethod yX0_isFreeAt, Cond.selects RX0 yX0_isFreeAt yX0_isFreeAt, Cond.code yX0_isFreeAt cX0_isFreeAt 5 (some .boolean), Cond.fieldLink RX0 74 "CurfewDesk" "orderCount" "I", Cond.methodLink RX0 104 yX0_bars, Cond.instanceMethod yX0_bars, Cond.selects RX0 yX0_bars yX0_bars, Cond.code yX0_bars cX0_bars 5 (some .boolean), Cond.fieldLink RX0 9 "CurfewDesk" "orderQuarter" "[I"]
def wsX0_halfHoursUntilFree_r2 : List Cond := [Cond.fieldLink RX0 29 "CurfewDesk" "personTrade" "[I", Cond.fieldLink RX0 22 "CurfewDesk" "orderInForce" "[Z", Cond.methodLink RX0 82 yX0_exempts, Cond.instanceMethod yX0_exempts, Cond.selects RX0 yX0_exempts yX0_exempts, Cond.code yX0_exempts cX0_exempts 3 (some .boolean), Cond.fieldLink RX0 26 "CurfewDesk" "orderExempt" "[I", Cond.methodLink RX0 139 yX0_isInHours, Cond.instanceMethod yX0_isInHours, Cond.selects RX0 yX0_isInHours yX0_isInHours, Cond.code yX0_isInHours cX0_isInHours 5 (some .boolean), Cond.fieldLink RX0 13 "CurfewDesk" "orderAhead" "[I", Cond.fieldLink RX0 16 "CurfewDesk" "orderBehind" "[I", Cond.methodLink RX0 122 yX0_duskOf, Cond.instanceMethod yX0_duskOf, Cond.selects RX0 yX0_duskOf yX0_duskOf, Cond.code yX0_duskOf cX0_duskOf 2 (some .int), Cond.fieldLink RX0 86 "CurfewDesk" "duskShift" "I", Cond.methodLink RX0 184 yX0_tideOf, Cond.static yX0_tideOf, Cond.code yX0_tideOf cX0_tideOf 2 (some .int), Cond.methodLink RX0 125 yX0_dawnOf, Cond.static yX0_dawnOf, Cond.code yX0_dawnOf cX0_dawnOf 1 (some .int)]
def wsX0_halfHoursUntilFree : List Cond := .code yX0_halfHoursUntilFree cX0_halfHoursUntilFree 4 (some .int) :: ((wsX0_halfHoursUntilFree_r1 ++ wsX0_halfHoursUntilFree_r2) ++ wsX00 ++ (vx_atS RX0 194 "java/lang/IndexOutOfBoundsException" ["java/lang/RuntimeException", "java/lang/Exception"]).filter goodWord)
def wsX0_halfHoursOn_r1 : List Cond := [Cond.fieldLink RX0 101 "CurfewDesk" "now" "I", Cond.methodLink RX0 79 yX0_requireOrder, Cond.instanceMethod yX0_requireOrder, Cond.selects RX0 yX0_requireOrder yX0_requireOrder, Cond.initialized RX0, Cond.code yX0_requireOrder cX0_requireOrder 2 none, Cond.classLink RX0 190 "java/lang/IndexOutOfBoundsException", Cond.initialized "java/lang/IndexOutOfBoundsException", Cond.fieldLink RX0 74 "CurfewDesk" "orderCount" "I", Cond.methodLink RX0 139 yX0_isInHours, Cond.instanceMethod yX0_isInHours, Cond.selects RX0 yX0_isInHours yX0_isInHours, Cond.code yX0_isInHours cX0_isInHours 5 (some .boolean), Cond.fieldLink RX0 13 "CurfewDesk" "orderAhead" "[I", Cond.fieldLink RX0 16 "CurfewDesk" "orderBehind" "[I", Cond.methodLink RX0 122 yX0_duskOf, Cond.instanceMethod yX0_duskOf, Cond.selects RX0 yX0_duskOf yX0_duskOf, Cond.code yX0_duskOf cX0_duskOf 2 (some .int), Cond.fieldLink RX0 86 "CurfewDesk" "duskShift" "I", Cond.methodLink RX0 184 yX0_tideOf, Cond.static yX0_tideOf, Cond.code yX0_tideOf cX0_tideOf 2 (some .int), Cond.methodLink RX0 125 yX0_dawnOf]
def wsX0_halfHoursOn_r2 : List Cond := [Cond.static yX0_dawnOf, Cond.code yX0_dawnOf cX0_dawnOf 1 (some .int)]
def wsX0_halfHoursOn : List Cond := .code yX0_halfHoursOn cX0_halfHoursOn 4 (some .int) :: ((wsX0_halfHoursOn_r1 ++ wsX0_halfHoursOn_r2) ++ wsX00 ++ (vx_atS RX0 194 "java/lang/IndexOutOfBoundsException" ["java/lang/RuntimeException", "java/lang/Exception"]).filter goodWord)
def wsX0_pairsFreedBy_r1 : List Cond := [Cond.fieldLink RX0 9 "CurfewDesk" "orderQuarter" "[I", Cond.fieldLink RX0 59 "CurfewDesk" "personCount" "I", Cond.methodLink RX0 131 yX0_missing, Cond.instanceMethod yX0_missing, Cond.selects RX0 yX0_missing yX0_missing, Cond.initialized RX0, Cond.code yX0_missing cX0_missing 8 (some .int), Cond.fieldLink RX0 74 "CurfewDesk" "orderCount" "I", Cond.fieldLink RX0 19 "CurfewDesk" "orderColour" "[I", Cond.fieldLink RX0 101 "CurfewDesk" "now" "I", Cond.fieldLink RX0 38 "CurfewDesk" "personStamps" "[I", Cond.methodLink RX0 187 Lib.Math.max.name, Cond.static Lib.Math.max.name, Cond.initialized "java/lang/Math", Cond.code Lib.Math.max.name Lib.Math.max.code 2 (some .int), Cond.methodLink RX0 104 yX0_bars, Cond.instanceMethod yX0_bars, Cond.selects RX0 yX0_bars yX0_bars, Cond.code yX0_bars cX0_bars 5 (some .boolean), Cond.fieldLink RX0 29 "CurfewDesk" "personTrade" "[I", Cond.fieldLink RX0 22 "CurfewDesk" "orderInForce" "[Z", Cond.methodLink RX0 82 yX0_exempts, Cond.instanceMethod yX0_exempts, Cond.selects RX0 yX0_exempts yX0_exempts]
def wsX0_pairsFreedBy_r2 : List Cond := [Cond.code yX0_exempts cX0_exempts 3 (some .boolean), Cond.fieldLink RX0 26 "CurfewDesk" "orderExempt" "[I", Cond.methodLink RX0 139 yX0_isInHours, Cond.instanceMethod yX0_isInHours, Cond.selects RX0 yX0_isInHours yX0_isInHours, Cond.code yX0_isInHours cX0_isInHours 5 (some .boolean), Cond.fieldLink RX0 13 "CurfewDesk" "orderAhead" "[I", Cond.fieldLink RX0 16 "CurfewDesk" "orderBehind" "[I", Cond.methodLink RX0 122 yX0_duskOf, Cond.instanceMethod yX0_duskOf, Cond.selects RX0 yX0_duskOf yX0_duskOf, Cond.code yX0_duskOf cX0_duskOf 2 (some .int), Cond.fieldLink RX0 86 "CurfewDesk" "duskShift" "I", Cond.methodLink RX0 184 yX0_tideOf, Cond.static yX0_tideOf, Cond.code yX0_tideOf cX0_tideOf 2 (some .int), Cond.methodLink RX0 125 yX0_dawnOf, Cond.static yX0_dawnOf, Cond.code yX0_dawnOf cX0_dawnOf 1 (some .int), Cond.methodLink RX0 92 yX0_stampPlace, Cond.static yX0_stampPlace, Cond.code yX0_stampPlace cX0_stampPlace 2 (some .int)]
def wsX0_pairsFreedBy : List Cond := .code yX0_pairsFreedBy cX0_pairsFreedBy 5 (some .int) :: ((wsX0_pairsFreedBy_r1 ++ wsX0_pairsFreedBy_r2) ++ wsX00)
def wsX0_bestLift_r1 : List Cond := [Cond.fieldLink RX0 74 "CurfewDesk" "orderCount" "I", Cond.methodLink RX0 142 yX0_pairsFreedBy, Cond.instanceMethod yX0_pairsFreedBy, Cond.selects RX0 yX0_pairsFreedBy yX0_pairsFreedBy, Cond.initialized RX0, Cond.code yX0_pairsFreedBy cX0_pairsFreedBy 5 (some .int), Cond.fieldLink RX0 9 "CurfewDesk" "orderQuarter" "[I", Cond.fieldLink RX0 59 "CurfewDesk" "personCount" "I", Cond.methodLink RX0 131 yX0_missing, Cond.instanceMethod yX0_missing, Cond.selects RX0 yX0_missing yX0_missing, Cond.code yX0_missing cX0_missing 8 (some .int), Cond.fieldLink RX0 19 "CurfewDesk" "orderColour" "[I", Cond.fieldLink RX0 101 "CurfewDesk" "now" "I", Cond.fieldLink RX0 38 "CurfewDesk" "personStamps" "[I", Cond.methodLink RX0 187 Lib.Math.max.name, Cond.static Lib.Math.max.name, Cond.initialized "java/lang/Math", Cond.code Lib.Math.max.name Lib.Math.max.code 2 (some .int), Cond.methodLink RX0 104 yX0_bars, Cond.instanceMethod yX0_bars, Cond.selects RX0 yX0_bars yX0_bars, Cond.code yX0_bars cX0_bars 5 (some .boolean), Cond.fieldLink RX0 29 "CurfewDesk" "personTrade" "[I"]
def wsX0_bestLift_r2 : List Cond := [Cond.fieldLink RX0 22 "CurfewDesk" "orderInForce" "[Z", Cond.methodLink RX0 82 yX0_exempts, Cond.instanceMethod yX0_exempts, Cond.selects RX0 yX0_exempts yX0_exempts, Cond.code yX0_exempts cX0_exempts 3 (some .boolean), Cond.fieldLink RX0 26 "CurfewDesk" "orderExempt" "[I", Cond.methodLink RX0 139 yX0_isInHours, Cond.instanceMethod yX0_isInHours, Cond.selects RX0 yX0_isInHours yX0_isInHours, Cond.code yX0_isInHours cX0_isInHours 5 (some .boolean), Cond.fieldLink RX0 13 "CurfewDesk" "orderAhead" "[I", Cond.fieldLink RX0 16 "CurfewDesk" "orderBehind" "[I", Cond.methodLink RX0 122 yX0_duskOf, Cond.instanceMethod yX0_duskOf, Cond.selects RX0 yX0_duskOf yX0_duskOf, Cond.code yX0_duskOf cX0_duskOf 2 (some .int), Cond.fieldLink RX0 86 "CurfewDesk" "duskShift" "I", Cond.methodLink RX0 184 yX0_tideOf, Cond.static yX0_tideOf, Cond.code yX0_tideOf cX0_tideOf 2 (some .int), Cond.methodLink RX0 125 yX0_dawnOf, Cond.static yX0_dawnOf, Cond.code yX0_dawnOf cX0_dawnOf 1 (some .int), Cond.methodLink RX0 92 yX0_stampPlace]
def wsX0_bestLift_r3 : List Cond := [Cond.static yX0_stampPlace, Cond.code yX0_stampPlace cX0_stampPlace 2 (some .int)]
def wsX0_bestLift : List Cond := .code yX0_bestLift cX0_bestLift 5 (some .int) :: ((wsX0_bestLift_r1 ++ (wsX0_bestLift_r2 ++ wsX0_bestLift_r3)) ++ wsX00)
def wsX0_meanDebt : List Cond := .code yX0_meanDebt cX0_meanDebt 1 (some .double) :: ([.fieldLink RX0 59 "CurfewDesk" "personCount" "I", .methodLink RX0 145 yX0_allOwe, .instanceMethod yX0_allOwe, .selects RX0 yX0_allOwe yX0_allOwe, .initialized RX0, .code yX0_allOwe cX0_allOwe 3 (some .int), .fieldLink RX0 35 "CurfewDesk" "personOwes" "[I"] ++ wsX00)
def wsX0_fold : List Cond := .code yX0_fold cX0_fold 3 (some .long) :: ([.constantLong RX0 182 (31)])
def wsX0_oneIf : List Cond := .code yX0_oneIf cX0_oneIf 1 (some .int) :: ([])
def wsX0_foldOrder_r1 : List Cond := [Cond.fieldLink RX0 9 "CurfewDesk" "orderQuarter" "[I", Cond.fieldLink RX0 19 "CurfewDesk" "orderColour" "[I", Cond.fieldLink RX0 22 "CurfewDesk" "orderInForce" "[Z", Cond.fieldLink RX0 101 "CurfewDesk" "now" "I", Cond.methodLink RX0 150 yX0_fold, Cond.static yX0_fold, Cond.initialized RX0, Cond.code yX0_fold cX0_fold 3 (some .long), Cond.constantLong RX0 182 (31), Cond.methodLink RX0 172 yX0_oneIf, Cond.static yX0_oneIf, Cond.code yX0_oneIf cX0_oneIf 1 (some .int), Cond.methodLink RX0 128 yX0_isOnAt, Cond.instanceMethod yX0_isOnAt, Cond.selects RX0 yX0_isOnAt yX0_isOnAt, Cond.code yX0_isOnAt cX0_isOnAt 3 (some .boolean), Cond.methodLink RX0 139 yX0_isInHours, Cond.instanceMethod yX0_isInHours, Cond.selects RX0 yX0_isInHours yX0_isInHours, Cond.code yX0_isInHours cX0_isInHours 5 (some .boolean), Cond.fieldLink RX0 13 "CurfewDesk" "orderAhead" "[I", Cond.fieldLink RX0 16 "CurfewDesk" "orderBehind" "[I", Cond.methodLink RX0 122 yX0_duskOf, Cond.instanceMethod yX0_duskOf]
def wsX0_foldOrder_r2 : List Cond := [Cond.selects RX0 yX0_duskOf yX0_duskOf, Cond.code yX0_duskOf cX0_duskOf 2 (some .int), Cond.fieldLink RX0 86 "CurfewDesk" "duskShift" "I", Cond.methodLink RX0 184 yX0_tideOf, Cond.static yX0_tideOf, Cond.code yX0_tideOf cX0_tideOf 2 (some .int), Cond.methodLink RX0 125 yX0_dawnOf, Cond.static yX0_dawnOf, Cond.code yX0_dawnOf cX0_dawnOf 1 (some .int), Cond.methodLink RX0 176 yX0_barredBy, Cond.instanceMethod yX0_barredBy, Cond.selects RX0 yX0_barredBy yX0_barredBy, Cond.code yX0_barredBy cX0_barredBy 4 (some .int), Cond.fieldLink RX0 59 "CurfewDesk" "personCount" "I", Cond.methodLink RX0 79 yX0_requireOrder, Cond.instanceMethod yX0_requireOrder, Cond.selects RX0 yX0_requireOrder yX0_requireOrder, Cond.code yX0_requireOrder cX0_requireOrder 2 none, Cond.classLink RX0 190 "java/lang/IndexOutOfBoundsException", Cond.initialized "java/lang/IndexOutOfBoundsException", Cond.fieldLink RX0 74 "CurfewDesk" "orderCount" "I", Cond.methodLink RX0 104 yX0_bars, Cond.instanceMethod yX0_bars, Cond.selects RX0 yX0_bars yX0_bars]
def wsX0_foldOrder_r3 : List Cond := [Cond.code yX0_bars cX0_bars 5 (some .boolean), Cond.fieldLink RX0 29 "CurfewDesk" "personTrade" "[I", Cond.methodLink RX0 82 yX0_exempts, Cond.instanceMethod yX0_exempts, Cond.selects RX0 yX0_exempts yX0_exempts, Cond.code yX0_exempts cX0_exempts 3 (some .boolean), Cond.fieldLink RX0 26 "CurfewDesk" "orderExempt" "[I"]
def wsX0_foldOrder : List Cond := .code yX0_foldOrder cX0_foldOrder 7 (some .long) :: ((wsX0_foldOrder_r1 ++ (wsX0_foldOrder_r2 ++ wsX0_foldOrder_r3)) ++ wsX00 ++ (vx_atS RX0 194 "java/lang/IndexOutOfBoundsException" ["java/lang/RuntimeException", "java/lang/Exception"]).filter goodWord)
def wsX0_foldPerson_r1 : List Cond := [Cond.fieldLink RX0 29 "CurfewDesk" "personTrade" "[I", Cond.fieldLink RX0 35 "CurfewDesk" "personOwes" "[I", Cond.fieldLink RX0 32 "CurfewDesk" "personFined" "[I", Cond.fieldLink RX0 38 "CurfewDesk" "personStamps" "[I", Cond.fieldLink RX0 44 "CurfewDesk" "quarterCount" "I", Cond.methodLink RX0 150 yX0_fold, Cond.static yX0_fold, Cond.initialized RX0, Cond.code yX0_fold cX0_fold 3 (some .long), Cond.constantLong RX0 182 (31), Cond.methodLink RX0 92 yX0_stampPlace, Cond.static yX0_stampPlace, Cond.code yX0_stampPlace cX0_stampPlace 2 (some .int), Cond.methodLink RX0 179 yX0_ordersAgainst, Cond.instanceMethod yX0_ordersAgainst, Cond.selects RX0 yX0_ordersAgainst yX0_ordersAgainst, Cond.code yX0_ordersAgainst cX0_ordersAgainst 5 (some .int), Cond.fieldLink RX0 74 "CurfewDesk" "orderCount" "I", Cond.fieldLink RX0 101 "CurfewDesk" "now" "I", Cond.methodLink RX0 89 yX0_requirePerson, Cond.instanceMethod yX0_requirePerson, Cond.selects RX0 yX0_requirePerson yX0_requirePerson, Cond.code yX0_requirePerson cX0_requirePerson 2 none, Cond.classLink RX0 190 "java/lang/IndexOutOfBoundsException"]
def wsX0_foldPerson_r2 : List Cond := [Cond.initialized "java/lang/IndexOutOfBoundsException", Cond.fieldLink RX0 59 "CurfewDesk" "personCount" "I", Cond.methodLink RX0 64 yX0_requireQuarter, Cond.instanceMethod yX0_requireQuarter, Cond.selects RX0 yX0_requireQuarter yX0_requireQuarter, Cond.code yX0_requireQuarter cX0_requireQuarter 2 none, Cond.methodLink RX0 104 yX0_bars, Cond.instanceMethod yX0_bars, Cond.selects RX0 yX0_bars yX0_bars, Cond.code yX0_bars cX0_bars 5 (some .boolean), Cond.fieldLink RX0 9 "CurfewDesk" "orderQuarter" "[I", Cond.fieldLink RX0 22 "CurfewDesk" "orderInForce" "[Z", Cond.methodLink RX0 82 yX0_exempts, Cond.instanceMethod yX0_exempts, Cond.selects RX0 yX0_exempts yX0_exempts, Cond.code yX0_exempts cX0_exempts 3 (some .boolean), Cond.fieldLink RX0 26 "CurfewDesk" "orderExempt" "[I", Cond.methodLink RX0 139 yX0_isInHours, Cond.instanceMethod yX0_isInHours, Cond.selects RX0 yX0_isInHours yX0_isInHours, Cond.code yX0_isInHours cX0_isInHours 5 (some .boolean), Cond.fieldLink RX0 13 "CurfewDesk" "orderAhead" "[I", Cond.fieldLink RX0 16 "CurfewDesk" "orderBehind" "[I", Cond.methodLink RX0 122 yX0_duskOf]
def wsX0_foldPerson_r3 : List Cond := [Cond.instanceMethod yX0_duskOf, Cond.selects RX0 yX0_duskOf yX0_duskOf, Cond.code yX0_duskOf cX0_duskOf 2 (some .int), Cond.fieldLink RX0 86 "CurfewDesk" "duskShift" "I", Cond.methodLink RX0 184 yX0_tideOf, Cond.static yX0_tideOf, Cond.code yX0_tideOf cX0_tideOf 2 (some .int), Cond.methodLink RX0 125 yX0_dawnOf, Cond.static yX0_dawnOf, Cond.code yX0_dawnOf cX0_dawnOf 1 (some .int)]
def wsX0_foldPerson : List Cond := .code yX0_foldPerson cX0_foldPerson 7 (some .long) :: ((wsX0_foldPerson_r1 ++ (wsX0_foldPerson_r2 ++ wsX0_foldPerson_r3)) ++ wsX00 ++ (vx_atS RX0 194 "java/lang/IndexOutOfBoundsException" ["java/lang/RuntimeException", "java/lang/Exception"]).filter goodWord)
def wsX0_digest_r1 : List Cond := [Cond.constantLong RX0 148 (1879), Cond.fieldLink RX0 44 "CurfewDesk" "quarterCount" "I", Cond.fieldLink RX0 74 "CurfewDesk" "orderCount" "I", Cond.fieldLink RX0 59 "CurfewDesk" "personCount" "I", Cond.fieldLink RX0 86 "CurfewDesk" "duskShift" "I", Cond.fieldLink RX0 41 "CurfewDesk" "usedStamps" "[I", Cond.methodLink RX0 118 yX0_day, Cond.instanceMethod yX0_day, Cond.selects RX0 yX0_day yX0_day, Cond.initialized RX0, Cond.code yX0_day cX0_day 1 (some .int), Cond.fieldLink RX0 101 "CurfewDesk" "now" "I", Cond.methodLink RX0 150 yX0_fold, Cond.static yX0_fold, Cond.code yX0_fold cX0_fold 3 (some .long), Cond.constantLong RX0 182 (31), Cond.methodLink RX0 154 yX0_halfHour, Cond.instanceMethod yX0_halfHour, Cond.selects RX0 yX0_halfHour yX0_halfHour, Cond.code yX0_halfHour cX0_halfHour 1 (some .int), Cond.methodLink RX0 157 yX0_duskIn, Cond.instanceMethod yX0_duskIn, Cond.selects RX0 yX0_duskIn yX0_duskIn, Cond.code yX0_duskIn cX0_duskIn 2 (some .int)]
def wsX0_digest_r2 : List Cond := [Cond.methodLink RX0 70 yX0_requireWithin, Cond.static yX0_requireWithin, Cond.code yX0_requireWithin cX0_requireWithin 3 none, Cond.classLink RX0 203 "java/lang/IllegalArgumentException", Cond.initialized "java/lang/IllegalArgumentException", Cond.methodLink RX0 122 yX0_duskOf, Cond.instanceMethod yX0_duskOf, Cond.selects RX0 yX0_duskOf yX0_duskOf, Cond.code yX0_duskOf cX0_duskOf 2 (some .int), Cond.methodLink RX0 184 yX0_tideOf, Cond.static yX0_tideOf, Cond.code yX0_tideOf cX0_tideOf 2 (some .int), Cond.methodLink RX0 160 yX0_dawnIn, Cond.instanceMethod yX0_dawnIn, Cond.selects RX0 yX0_dawnIn yX0_dawnIn, Cond.code yX0_dawnIn cX0_dawnIn 2 (some .int), Cond.methodLink RX0 125 yX0_dawnOf, Cond.static yX0_dawnOf, Cond.code yX0_dawnOf cX0_dawnOf 1 (some .int), Cond.methodLink RX0 163 yX0_ordersOn, Cond.instanceMethod yX0_ordersOn, Cond.selects RX0 yX0_ordersOn yX0_ordersOn, Cond.code yX0_ordersOn cX0_ordersOn 3 (some .int), Cond.methodLink RX0 128 yX0_isOnAt]
def wsX0_digest_r3 : List Cond := [Cond.instanceMethod yX0_isOnAt, Cond.selects RX0 yX0_isOnAt yX0_isOnAt, Cond.code yX0_isOnAt cX0_isOnAt 3 (some .boolean), Cond.fieldLink RX0 22 "CurfewDesk" "orderInForce" "[Z", Cond.methodLink RX0 139 yX0_isInHours, Cond.instanceMethod yX0_isInHours, Cond.selects RX0 yX0_isInHours yX0_isInHours, Cond.code yX0_isInHours cX0_isInHours 5 (some .boolean), Cond.fieldLink RX0 13 "CurfewDesk" "orderAhead" "[I", Cond.fieldLink RX0 16 "CurfewDesk" "orderBehind" "[I", Cond.methodLink RX0 166 yX0_foldOrder, Cond.instanceMethod yX0_foldOrder, Cond.selects RX0 yX0_foldOrder yX0_foldOrder, Cond.code yX0_foldOrder cX0_foldOrder 7 (some .long), Cond.fieldLink RX0 9 "CurfewDesk" "orderQuarter" "[I", Cond.fieldLink RX0 19 "CurfewDesk" "orderColour" "[I", Cond.methodLink RX0 172 yX0_oneIf, Cond.static yX0_oneIf, Cond.code yX0_oneIf cX0_oneIf 1 (some .int), Cond.methodLink RX0 176 yX0_barredBy, Cond.instanceMethod yX0_barredBy, Cond.selects RX0 yX0_barredBy yX0_barredBy, Cond.code yX0_barredBy cX0_barredBy 4 (some .int), Cond.methodLink RX0 79 yX0_requireOrder]
def wsX0_digest_r4 : List Cond := [Cond.instanceMethod yX0_requireOrder, Cond.selects RX0 yX0_requireOrder yX0_requireOrder, Cond.code yX0_requireOrder cX0_requireOrder 2 none, Cond.classLink RX0 190 "java/lang/IndexOutOfBoundsException", Cond.initialized "java/lang/IndexOutOfBoundsException", Cond.methodLink RX0 104 yX0_bars, Cond.instanceMethod yX0_bars, Cond.selects RX0 yX0_bars yX0_bars, Cond.code yX0_bars cX0_bars 5 (some .boolean), Cond.fieldLink RX0 29 "CurfewDesk" "personTrade" "[I", Cond.methodLink RX0 82 yX0_exempts, Cond.instanceMethod yX0_exempts, Cond.selects RX0 yX0_exempts yX0_exempts, Cond.code yX0_exempts cX0_exempts 3 (some .boolean), Cond.fieldLink RX0 26 "CurfewDesk" "orderExempt" "[I", Cond.methodLink RX0 169 yX0_foldPerson, Cond.instanceMethod yX0_foldPerson, Cond.selects RX0 yX0_foldPerson yX0_foldPerson, Cond.code yX0_foldPerson cX0_foldPerson 7 (some .long), Cond.fieldLink RX0 35 "CurfewDesk" "personOwes" "[I", Cond.fieldLink RX0 32 "CurfewDesk" "personFined" "[I", Cond.fieldLink RX0 38 "CurfewDesk" "personStamps" "[I", Cond.methodLink RX0 92 yX0_stampPlace, Cond.static yX0_stampPlace]
def wsX0_digest_r5 : List Cond := [Cond.code yX0_stampPlace cX0_stampPlace 2 (some .int), Cond.methodLink RX0 179 yX0_ordersAgainst, Cond.instanceMethod yX0_ordersAgainst, Cond.selects RX0 yX0_ordersAgainst yX0_ordersAgainst, Cond.code yX0_ordersAgainst cX0_ordersAgainst 5 (some .int), Cond.methodLink RX0 89 yX0_requirePerson, Cond.instanceMethod yX0_requirePerson, Cond.selects RX0 yX0_requirePerson yX0_requirePerson, Cond.code yX0_requirePerson cX0_requirePerson 2 none, Cond.methodLink RX0 64 yX0_requireQuarter, Cond.instanceMethod yX0_requireQuarter, Cond.selects RX0 yX0_requireQuarter yX0_requireQuarter, Cond.code yX0_requireQuarter cX0_requireQuarter 2 none]
def wsX0_digest : List Cond := .code yX0_digest cX0_digest 4 (some .long) :: ((wsX0_digest_r1 ++ (wsX0_digest_r2 ++ (wsX0_digest_r3 ++ (wsX0_digest_r4 ++ wsX0_digest_r5)))) ++ wsX00 ++ (vx_atS RX0 207 "java/lang/IllegalArgumentException" ["java/lang/RuntimeException", "java/lang/Exception"]).filter goodWord ++ (vx_atS RX0 194 "java/lang/IndexOutOfBoundsException" ["java/lang/RuntimeException", "java/lang/Exception"]).filter goodWord)
def wsX1_init : List Cond := .code yX1_init cX1_init 1 none :: ([.methodLink RX1 1 objectInit, .instanceMethod objectInit, .code objectInit ⟨#[0xb1]⟩ 1 none, .arrayClass .int, .fieldLink RX1 9 "CurfewDeskModel" "quarter" "[I", .fieldLink RX1 13 "CurfewDeskModel" "ahead" "[I", .fieldLink RX1 16 "CurfewDeskModel" "behind" "[I", .fieldLink RX1 19 "CurfewDeskModel" "colour" "[I", .fieldLink RX1 22 "CurfewDeskModel" "exempt" "[I", .arrayClass .boolean, .fieldLink RX1 25 "CurfewDeskModel" "force" "[Z", .fieldLink RX1 29 "CurfewDeskModel" "trade" "[I", .fieldLink RX1 32 "CurfewDeskModel" "fined" "[I", .fieldLink RX1 35 "CurfewDeskModel" "debt" "[I", .fieldLink RX1 38 "CurfewDeskModel" "stamps" "[I", .fieldLink RX1 41 "CurfewDeskModel" "used" "[I", .fieldLink RX1 44 "CurfewDeskModel" "wanted" "[I"] ++ wsX10)
def wsX1_thrown : List Cond := .code yX1_thrown cX1_thrown 1 (some .int) :: ([.fieldLink RX1 47 "CurfewDeskModel" "thrown" "I"] ++ wsX10)
def wsX1_fail : List Cond := .code yX1_fail cX1_fail 2 (some .int) :: ([.fieldLink RX1 47 "CurfewDeskModel" "thrown" "I"] ++ wsX10)
def wsX1_failed : List Cond := .code yX1_failed cX1_failed 2 (some .boolean) :: ([.fieldLink RX1 47 "CurfewDeskModel" "thrown" "I"] ++ wsX10)
def wsX1_isIn : List Cond := .code yX1_isIn cX1_isIn 3 (some .boolean) :: ([])
def wsX1_isQuarter : List Cond := .code yX1_isQuarter cX1_isQuarter 2 (some .boolean) :: ([.fieldLink RX1 51 "CurfewDeskModel" "quarters" "I", .methodLink RX1 54 yX1_isIn, .static yX1_isIn, .initialized RX1, .code yX1_isIn cX1_isIn 3 (some .boolean)] ++ wsX10)
def wsX1_isOrder : List Cond := .code yX1_isOrder cX1_isOrder 2 (some .boolean) :: ([.fieldLink RX1 58 "CurfewDeskModel" "orders" "I", .methodLink RX1 54 yX1_isIn, .static yX1_isIn, .initialized RX1, .code yX1_isIn cX1_isIn 3 (some .boolean)] ++ wsX10)
def wsX1_isPerson : List Cond := .code yX1_isPerson cX1_isPerson 2 (some .boolean) :: ([.fieldLink RX1 61 "CurfewDeskModel" "people" "I", .methodLink RX1 54 yX1_isIn, .static yX1_isIn, .initialized RX1, .code yX1_isIn cX1_isIn 3 (some .boolean)] ++ wsX10)
def wsX1_isTrade : List Cond := .code yX1_isTrade cX1_isTrade 1 (some .boolean) :: ([.methodLink RX1 54 yX1_isIn, .static yX1_isIn, .initialized RX1, .code yX1_isIn cX1_isIn 3 (some .boolean)])
def wsX1_isColour : List Cond := .code yX1_isColour cX1_isColour 1 (some .boolean) :: ([.methodLink RX1 54 yX1_isIn, .static yX1_isIn, .initialized RX1, .code yX1_isIn cX1_isIn 3 (some .boolean)])
def wsX1_tide : List Cond := .code yX1_tide cX1_tide 2 (some .int) :: ([])
def wsX1_dusk : List Cond := .code yX1_dusk cX1_dusk 2 (some .int) :: ([.fieldLink RX1 68 "CurfewDeskModel" "shift" "I", .methodLink RX1 64 yX1_tide, .static yX1_tide, .initialized RX1, .code yX1_tide cX1_tide 2 (some .int)] ++ wsX10)
def wsX1_dawn : List Cond := .code yX1_dawn cX1_dawn 1 (some .int) :: ([.methodLink RX1 64 yX1_tide, .static yX1_tide, .initialized RX1, .code yX1_tide cX1_tide 2 (some .int)])
def wsX1_isAt : List Cond := .code yX1_isAt cX1_isAt 5 (some .boolean) :: ([.fieldLink RX1 13 "CurfewDeskModel" "ahead" "[I", .fieldLink RX1 16 "CurfewDeskModel" "behind" "[I", .methodLink RX1 71 yX1_dusk, .instanceMethod yX1_dusk, .selects RX1 yX1_dusk yX1_dusk, .initialized RX1, .code yX1_dusk cX1_dusk 2 (some .int), .fieldLink RX1 68 "CurfewDeskModel" "shift" "I", .methodLink RX1 64 yX1_tide, .static yX1_tide, .code yX1_tide cX1_tide 2 (some .int), .methodLink RX1 74 yX1_dawn, .static yX1_dawn, .code yX1_dawn cX1_dawn 1 (some .int)] ++ wsX10)
def wsX1_onAt : List Cond := .code yX1_onAt cX1_onAt 3 (some .boolean) :: ([.fieldLink RX1 25 "CurfewDeskModel" "force" "[Z", .methodLink RX1 77 yX1_isAt, .instanceMethod yX1_isAt, .selects RX1 yX1_isAt yX1_isAt, .initialized RX1, .code yX1_isAt cX1_isAt 5 (some .boolean), .fieldLink RX1 13 "CurfewDeskModel" "ahead" "[I", .fieldLink RX1 16 "CurfewDeskModel" "behind" "[I", .methodLink RX1 71 yX1_dusk, .instanceMethod yX1_dusk, .selects RX1 yX1_dusk yX1_dusk, .code yX1_dusk cX1_dusk 2 (some .int), .fieldLink RX1 68 "CurfewDeskModel" "shift" "I", .methodLink RX1 64 yX1_tide, .static yX1_tide, .code yX1_tide cX1_tide 2 (some .int), .methodLink RX1 74 yX1_dawn, .static yX1_dawn, .code yX1_dawn cX1_dawn 1 (some .int)] ++ wsX10)
def wsX1_barsAt_r1 : List Cond := [Cond.fieldLink RX1 9 "CurfewDeskModel" "quarter" "[I", Cond.fieldLink RX1 22 "CurfewDeskModel" "exempt" "[I", Cond.fieldLink RX1 29 "CurfewDeskModel" "trade" "[I", Cond.methodLink RX1 81 yX1_onAt, Cond.instanceMethod yX1_onAt, Cond.selects RX1 yX1_onAt yX1_onAt, Cond.initialized RX1, Cond.code yX1_onAt cX1_onAt 3 (some .boolean), Cond.fieldLink RX1 25 "CurfewDeskModel" "force" "[Z", Cond.methodLink RX1 77 yX1_isAt, Cond.instanceMethod yX1_isAt, Cond.selects RX1 yX1_isAt yX1_isAt, Cond.code yX1_isAt cX1_isAt 5 (some .boolean), Cond.fieldLink RX1 13 "CurfewDeskModel" "ahead" "[I", Cond.fieldLink RX1 16 "CurfewDeskModel" "behind" "[I", Cond.methodLink RX1 71 yX1_dusk, Cond.instanceMethod yX1_dusk, Cond.selects RX1 yX1_dusk yX1_dusk, Cond.code yX1_dusk cX1_dusk 2 (some .int), Cond.fieldLink RX1 68 "CurfewDeskModel" "shift" "I", Cond.methodLink RX1 64 yX1_tide, Cond.static yX1_tide, Cond.code yX1_tide cX1_tide 2 (some .int), Cond.methodLink RX1 74 yX1_dawn]
def wsX1_barsAt_r2 : List Cond := [Cond.static yX1_dawn, Cond.code yX1_dawn cX1_dawn 1 (some .int)]
def wsX1_barsAt : List Cond := .code yX1_barsAt cX1_barsAt 5 (some .boolean) :: ((wsX1_barsAt_r1 ++ wsX1_barsAt_r2) ++ wsX10)
def wsX1_against_r1 : List Cond := [Cond.fieldLink RX1 58 "CurfewDeskModel" "orders" "I", Cond.methodLink RX1 84 yX1_barsAt, Cond.instanceMethod yX1_barsAt, Cond.selects RX1 yX1_barsAt yX1_barsAt, Cond.initialized RX1, Cond.code yX1_barsAt cX1_barsAt 5 (some .boolean), Cond.fieldLink RX1 9 "CurfewDeskModel" "quarter" "[I", Cond.fieldLink RX1 22 "CurfewDeskModel" "exempt" "[I", Cond.fieldLink RX1 29 "CurfewDeskModel" "trade" "[I", Cond.methodLink RX1 81 yX1_onAt, Cond.instanceMethod yX1_onAt, Cond.selects RX1 yX1_onAt yX1_onAt, Cond.code yX1_onAt cX1_onAt 3 (some .boolean), Cond.fieldLink RX1 25 "CurfewDeskModel" "force" "[Z", Cond.methodLink RX1 77 yX1_isAt, Cond.instanceMethod yX1_isAt, Cond.selects RX1 yX1_isAt yX1_isAt, Cond.code yX1_isAt cX1_isAt 5 (some .boolean), Cond.fieldLink RX1 13 "CurfewDeskModel" "ahead" "[I", Cond.fieldLink RX1 16 "CurfewDeskModel" "behind" "[I", Cond.methodLink RX1 71 yX1_dusk, Cond.instanceMethod yX1_dusk, Cond.selects RX1 yX1_dusk yX1_dusk, Cond.code yX1_dusk cX1_dusk 2 (some .int)]
def wsX1_against_r2 : List Cond := [Cond.fieldLink RX1 68 "CurfewDeskModel" "shift" "I", Cond.methodLink RX1 64 yX1_tide, Cond.static yX1_tide, Cond.code yX1_tide cX1_tide 2 (some .int), Cond.methodLink RX1 74 yX1_dawn, Cond.static yX1_dawn, Cond.code yX1_dawn cX1_dawn 1 (some .int)]
def wsX1_against : List Cond := .code yX1_against cX1_against 6 (some .int) :: ((wsX1_against_r1 ++ wsX1_against_r2) ++ wsX10)
def wsX1_addQuarter : List Cond := .code yX1_addQuarter cX1_addQuarter 1 (some .int) :: ([.fieldLink RX1 47 "CurfewDeskModel" "thrown" "I", .fieldLink RX1 51 "CurfewDeskModel" "quarters" "I", .methodLink RX1 88 yX1_fail, .instanceMethod yX1_fail, .selects RX1 yX1_fail yX1_fail, .initialized RX1, .code yX1_fail cX1_fail 2 (some .int)] ++ wsX10)
def wsX1_addPerson : List Cond := .code yX1_addPerson cX1_addPerson 2 (some .int) :: ([.fieldLink RX1 47 "CurfewDeskModel" "thrown" "I", .fieldLink RX1 61 "CurfewDeskModel" "people" "I", .fieldLink RX1 29 "CurfewDeskModel" "trade" "[I", .methodLink RX1 91 yX1_isTrade, .static yX1_isTrade, .initialized RX1, .code yX1_isTrade cX1_isTrade 1 (some .boolean), .methodLink RX1 54 yX1_isIn, .static yX1_isIn, .code yX1_isIn cX1_isIn 3 (some .boolean), .methodLink RX1 88 yX1_fail, .instanceMethod yX1_fail, .selects RX1 yX1_fail yX1_fail, .code yX1_fail cX1_fail 2 (some .int)] ++ wsX10)
def wsX1_addOrder : List Cond := .code yX1_addOrder cX1_addOrder 5 (some .int) :: ([.fieldLink RX1 47 "CurfewDeskModel" "thrown" "I", .fieldLink RX1 58 "CurfewDeskModel" "orders" "I", .fieldLink RX1 9 "CurfewDeskModel" "quarter" "[I", .fieldLink RX1 13 "CurfewDeskModel" "ahead" "[I", .fieldLink RX1 16 "CurfewDeskModel" "behind" "[I", .fieldLink RX1 19 "CurfewDeskModel" "colour" "[I", .fieldLink RX1 25 "CurfewDeskModel" "force" "[Z", .methodLink RX1 95 yX1_isQuarter, .instanceMethod yX1_isQuarter, .selects RX1 yX1_isQuarter yX1_isQuarter, .initialized RX1, .code yX1_isQuarter cX1_isQuarter 2 (some .boolean), .fieldLink RX1 51 "CurfewDeskModel" "quarters" "I", .methodLink RX1 54 yX1_isIn, .static yX1_isIn, .code yX1_isIn cX1_isIn 3 (some .boolean), .methodLink RX1 98 yX1_isColour, .static yX1_isColour, .code yX1_isColour cX1_isColour 1 (some .boolean), .methodLink RX1 88 yX1_fail, .instanceMethod yX1_fail, .selects RX1 yX1_fail yX1_fail, .code yX1_fail cX1_fail 2 (some .int)] ++ wsX10)
def wsX1_turnExempt : List Cond := .code yX1_turnExempt cX1_turnExempt 3 (some .boolean) :: ([.fieldLink RX1 47 "CurfewDeskModel" "thrown" "I", .fieldLink RX1 22 "CurfewDeskModel" "exempt" "[I", .methodLink RX1 101 yX1_isOrder, .instanceMethod yX1_isOrder, .selects RX1 yX1_isOrder yX1_isOrder, .initialized RX1, .code yX1_isOrder cX1_isOrder 2 (some .boolean), .fieldLink RX1 58 "CurfewDeskModel" "orders" "I", .methodLink RX1 54 yX1_isIn, .static yX1_isIn, .code yX1_isIn cX1_isIn 3 (some .boolean), .methodLink RX1 91 yX1_isTrade, .static yX1_isTrade, .code yX1_isTrade cX1_isTrade 1 (some .boolean), .methodLink RX1 104 yX1_failed, .instanceMethod yX1_failed, .selects RX1 yX1_failed yX1_failed, .code yX1_failed cX1_failed 2 (some .boolean)] ++ wsX10)
def wsX1_turnOrder : List Cond := .code yX1_turnOrder cX1_turnOrder 2 (some .boolean) :: ([.fieldLink RX1 47 "CurfewDeskModel" "thrown" "I", .fieldLink RX1 25 "CurfewDeskModel" "force" "[Z", .methodLink RX1 101 yX1_isOrder, .instanceMethod yX1_isOrder, .selects RX1 yX1_isOrder yX1_isOrder, .initialized RX1, .code yX1_isOrder cX1_isOrder 2 (some .boolean), .fieldLink RX1 58 "CurfewDeskModel" "orders" "I", .methodLink RX1 54 yX1_isIn, .static yX1_isIn, .code yX1_isIn cX1_isIn 3 (some .boolean), .methodLink RX1 104 yX1_failed, .instanceMethod yX1_failed, .selects RX1 yX1_failed yX1_failed, .code yX1_failed cX1_failed 2 (some .boolean)] ++ wsX10)
def wsX1_setShift : List Cond := .code yX1_setShift cX1_setShift 3 (some .int) :: ([.fieldLink RX1 47 "CurfewDeskModel" "thrown" "I", .fieldLink RX1 68 "CurfewDeskModel" "shift" "I", .methodLink RX1 54 yX1_isIn, .static yX1_isIn, .initialized RX1, .code yX1_isIn cX1_isIn 3 (some .boolean), .methodLink RX1 88 yX1_fail, .instanceMethod yX1_fail, .selects RX1 yX1_fail yX1_fail, .code yX1_fail cX1_fail 2 (some .int)] ++ wsX10)
def wsX1_isPass : List Cond := .code yX1_isPass cX1_isPass 3 (some .boolean) :: ([.fieldLink RX1 47 "CurfewDeskModel" "thrown" "I", .methodLink RX1 107 yX1_isPerson, .instanceMethod yX1_isPerson, .selects RX1 yX1_isPerson yX1_isPerson, .initialized RX1, .code yX1_isPerson cX1_isPerson 2 (some .boolean), .fieldLink RX1 61 "CurfewDeskModel" "people" "I", .methodLink RX1 54 yX1_isIn, .static yX1_isIn, .code yX1_isIn cX1_isIn 3 (some .boolean), .methodLink RX1 98 yX1_isColour, .static yX1_isColour, .code yX1_isColour cX1_isColour 1 (some .boolean)] ++ wsX10)
def wsX1_givePass_r1 : List Cond := [Cond.fieldLink RX1 38 "CurfewDeskModel" "stamps" "[I", Cond.methodLink RX1 113 Lib.Math.min.name, Cond.static Lib.Math.min.name, Cond.initialized "java/lang/Math", Cond.code Lib.Math.min.name Lib.Math.min.code 2 (some .int), Cond.methodLink RX1 110 yX1_isPass, Cond.instanceMethod yX1_isPass, Cond.selects RX1 yX1_isPass yX1_isPass, Cond.initialized RX1, Cond.code yX1_isPass cX1_isPass 3 (some .boolean), Cond.fieldLink RX1 47 "CurfewDeskModel" "thrown" "I", Cond.methodLink RX1 107 yX1_isPerson, Cond.instanceMethod yX1_isPerson, Cond.selects RX1 yX1_isPerson yX1_isPerson, Cond.code yX1_isPerson cX1_isPerson 2 (some .boolean), Cond.fieldLink RX1 61 "CurfewDeskModel" "people" "I", Cond.methodLink RX1 54 yX1_isIn, Cond.static yX1_isIn, Cond.code yX1_isIn cX1_isIn 3 (some .boolean), Cond.methodLink RX1 98 yX1_isColour, Cond.static yX1_isColour, Cond.code yX1_isColour cX1_isColour 1 (some .boolean), Cond.methodLink RX1 88 yX1_fail, Cond.instanceMethod yX1_fail]
def wsX1_givePass_r2 : List Cond := [Cond.selects RX1 yX1_fail yX1_fail, Cond.code yX1_fail cX1_fail 2 (some .int)]
def wsX1_givePass : List Cond := .code yX1_givePass cX1_givePass 5 (some .int) :: ((wsX1_givePass_r1 ++ wsX1_givePass_r2) ++ wsX10)
def wsX1_takePass : List Cond := .code yX1_takePass cX1_takePass 4 (some .int) :: ([.fieldLink RX1 38 "CurfewDeskModel" "stamps" "[I", .methodLink RX1 110 yX1_isPass, .instanceMethod yX1_isPass, .selects RX1 yX1_isPass yX1_isPass, .initialized RX1, .code yX1_isPass cX1_isPass 3 (some .boolean), .fieldLink RX1 47 "CurfewDeskModel" "thrown" "I", .methodLink RX1 107 yX1_isPerson, .instanceMethod yX1_isPerson, .selects RX1 yX1_isPerson yX1_isPerson, .code yX1_isPerson cX1_isPerson 2 (some .boolean), .fieldLink RX1 61 "CurfewDeskModel" "people" "I", .methodLink RX1 54 yX1_isIn, .static yX1_isIn, .code yX1_isIn cX1_isIn 3 (some .boolean), .methodLink RX1 98 yX1_isColour, .static yX1_isColour, .code yX1_isColour cX1_isColour 1 (some .boolean)] ++ wsX10)
def wsX1_isPair : List Cond := .code yX1_isPair cX1_isPair 3 (some .boolean) :: ([.fieldLink RX1 47 "CurfewDeskModel" "thrown" "I", .methodLink RX1 107 yX1_isPerson, .instanceMethod yX1_isPerson, .selects RX1 yX1_isPerson yX1_isPerson, .initialized RX1, .code yX1_isPerson cX1_isPerson 2 (some .boolean), .fieldLink RX1 61 "CurfewDeskModel" "people" "I", .methodLink RX1 54 yX1_isIn, .static yX1_isIn, .code yX1_isIn cX1_isIn 3 (some .boolean), .methodLink RX1 95 yX1_isQuarter, .instanceMethod yX1_isQuarter, .selects RX1 yX1_isQuarter yX1_isQuarter, .code yX1_isQuarter cX1_isQuarter 2 (some .boolean), .fieldLink RX1 51 "CurfewDeskModel" "quarters" "I"] ++ wsX10)
def wsX1_goOut_r1 : List Cond := [Cond.fieldLink RX1 58 "CurfewDeskModel" "orders" "I", Cond.fieldLink RX1 122 "CurfewDeskModel" "time" "I", Cond.fieldLink RX1 19 "CurfewDeskModel" "colour" "[I", Cond.fieldLink RX1 38 "CurfewDeskModel" "stamps" "[I", Cond.fieldLink RX1 41 "CurfewDeskModel" "used" "[I", Cond.fieldLink RX1 32 "CurfewDeskModel" "fined" "[I", Cond.fieldLink RX1 35 "CurfewDeskModel" "debt" "[I", Cond.methodLink RX1 119 yX1_isPair, Cond.instanceMethod yX1_isPair, Cond.selects RX1 yX1_isPair yX1_isPair, Cond.initialized RX1, Cond.code yX1_isPair cX1_isPair 3 (some .boolean), Cond.fieldLink RX1 47 "CurfewDeskModel" "thrown" "I", Cond.methodLink RX1 107 yX1_isPerson, Cond.instanceMethod yX1_isPerson, Cond.selects RX1 yX1_isPerson yX1_isPerson, Cond.code yX1_isPerson cX1_isPerson 2 (some .boolean), Cond.fieldLink RX1 61 "CurfewDeskModel" "people" "I", Cond.methodLink RX1 54 yX1_isIn, Cond.static yX1_isIn, Cond.code yX1_isIn cX1_isIn 3 (some .boolean), Cond.methodLink RX1 95 yX1_isQuarter, Cond.instanceMethod yX1_isQuarter, Cond.selects RX1 yX1_isQuarter yX1_isQuarter]
def wsX1_goOut_r2 : List Cond := [Cond.code yX1_isQuarter cX1_isQuarter 2 (some .boolean), Cond.fieldLink RX1 51 "CurfewDeskModel" "quarters" "I", Cond.methodLink RX1 84 yX1_barsAt, Cond.instanceMethod yX1_barsAt, Cond.selects RX1 yX1_barsAt yX1_barsAt, Cond.code yX1_barsAt cX1_barsAt 5 (some .boolean), Cond.fieldLink RX1 9 "CurfewDeskModel" "quarter" "[I", Cond.fieldLink RX1 22 "CurfewDeskModel" "exempt" "[I", Cond.fieldLink RX1 29 "CurfewDeskModel" "trade" "[I", Cond.methodLink RX1 81 yX1_onAt, Cond.instanceMethod yX1_onAt, Cond.selects RX1 yX1_onAt yX1_onAt, Cond.code yX1_onAt cX1_onAt 3 (some .boolean), Cond.fieldLink RX1 25 "CurfewDeskModel" "force" "[Z", Cond.methodLink RX1 77 yX1_isAt, Cond.instanceMethod yX1_isAt, Cond.selects RX1 yX1_isAt yX1_isAt, Cond.code yX1_isAt cX1_isAt 5 (some .boolean), Cond.fieldLink RX1 13 "CurfewDeskModel" "ahead" "[I", Cond.fieldLink RX1 16 "CurfewDeskModel" "behind" "[I", Cond.methodLink RX1 71 yX1_dusk, Cond.instanceMethod yX1_dusk, Cond.selects RX1 yX1_dusk yX1_dusk, Cond.code yX1_dusk cX1_dusk 2 (some .int)]
def wsX1_goOut_r3 : List Cond := [Cond.fieldLink RX1 68 "CurfewDeskModel" "shift" "I", Cond.methodLink RX1 64 yX1_tide, Cond.static yX1_tide, Cond.code yX1_tide cX1_tide 2 (some .int), Cond.methodLink RX1 74 yX1_dawn, Cond.static yX1_dawn, Cond.code yX1_dawn cX1_dawn 1 (some .int)]
def wsX1_goOut : List Cond := .code yX1_goOut cX1_goOut 6 (some .int) :: ((wsX1_goOut_r1 ++ (wsX1_goOut_r2 ++ wsX1_goOut_r3)) ++ wsX10)
def wsX1_pass_r1 : List Cond := [Cond.fieldLink RX1 47 "CurfewDeskModel" "thrown" "I", Cond.fieldLink RX1 58 "CurfewDeskModel" "orders" "I", Cond.fieldLink RX1 122 "CurfewDeskModel" "time" "I", Cond.methodLink RX1 54 yX1_isIn, Cond.static yX1_isIn, Cond.initialized RX1, Cond.code yX1_isIn cX1_isIn 3 (some .boolean), Cond.methodLink RX1 88 yX1_fail, Cond.instanceMethod yX1_fail, Cond.selects RX1 yX1_fail yX1_fail, Cond.code yX1_fail cX1_fail 2 (some .int), Cond.methodLink RX1 81 yX1_onAt, Cond.instanceMethod yX1_onAt, Cond.selects RX1 yX1_onAt yX1_onAt, Cond.code yX1_onAt cX1_onAt 3 (some .boolean), Cond.fieldLink RX1 25 "CurfewDeskModel" "force" "[Z", Cond.methodLink RX1 77 yX1_isAt, Cond.instanceMethod yX1_isAt, Cond.selects RX1 yX1_isAt yX1_isAt, Cond.code yX1_isAt cX1_isAt 5 (some .boolean), Cond.fieldLink RX1 13 "CurfewDeskModel" "ahead" "[I", Cond.fieldLink RX1 16 "CurfewDeskModel" "behind" "[I", Cond.methodLink RX1 71 yX1_dusk, Cond.instanceMethod yX1_dusk]
def wsX1_pass_r2 : List Cond := [Cond.selects RX1 yX1_dusk yX1_dusk, Cond.code yX1_dusk cX1_dusk 2 (some .int), Cond.fieldLink RX1 68 "CurfewDeskModel" "shift" "I", Cond.methodLink RX1 64 yX1_tide, Cond.static yX1_tide, Cond.code yX1_tide cX1_tide 2 (some .int), Cond.methodLink RX1 74 yX1_dawn, Cond.static yX1_dawn, Cond.code yX1_dawn cX1_dawn 1 (some .int)]
def wsX1_pass : List Cond := .code yX1_pass cX1_pass 5 (some .int) :: ((wsX1_pass_r1 ++ wsX1_pass_r2) ++ wsX10)
def wsX1_day : List Cond := .code yX1_day cX1_day 1 (some .int) :: ([.fieldLink RX1 47 "CurfewDeskModel" "thrown" "I", .fieldLink RX1 122 "CurfewDeskModel" "time" "I"] ++ wsX10)
def wsX1_halfHour : List Cond := .code yX1_halfHour cX1_halfHour 1 (some .int) :: ([.fieldLink RX1 47 "CurfewDeskModel" "thrown" "I", .fieldLink RX1 122 "CurfewDeskModel" "time" "I"] ++ wsX10)
def wsX1_duskIn : List Cond := .code yX1_duskIn cX1_duskIn 2 (some .int) :: ([.fieldLink RX1 47 "CurfewDeskModel" "thrown" "I", .fieldLink RX1 122 "CurfewDeskModel" "time" "I", .methodLink RX1 54 yX1_isIn, .static yX1_isIn, .initialized RX1, .code yX1_isIn cX1_isIn 3 (some .boolean), .methodLink RX1 71 yX1_dusk, .instanceMethod yX1_dusk, .selects RX1 yX1_dusk yX1_dusk, .code yX1_dusk cX1_dusk 2 (some .int), .fieldLink RX1 68 "CurfewDeskModel" "shift" "I", .methodLink RX1 64 yX1_tide, .static yX1_tide, .code yX1_tide cX1_tide 2 (some .int), .methodLink RX1 88 yX1_fail, .instanceMethod yX1_fail, .selects RX1 yX1_fail yX1_fail, .code yX1_fail cX1_fail 2 (some .int)] ++ wsX10)
def wsX1_dawnIn : List Cond := .code yX1_dawnIn cX1_dawnIn 2 (some .int) :: ([.fieldLink RX1 47 "CurfewDeskModel" "thrown" "I", .fieldLink RX1 122 "CurfewDeskModel" "time" "I", .methodLink RX1 54 yX1_isIn, .static yX1_isIn, .initialized RX1, .code yX1_isIn cX1_isIn 3 (some .boolean), .methodLink RX1 74 yX1_dawn, .static yX1_dawn, .code yX1_dawn cX1_dawn 1 (some .int), .methodLink RX1 64 yX1_tide, .static yX1_tide, .code yX1_tide cX1_tide 2 (some .int), .methodLink RX1 88 yX1_fail, .instanceMethod yX1_fail, .selects RX1 yX1_fail yX1_fail, .code yX1_fail cX1_fail 2 (some .int)] ++ wsX10)
def wsX1_quarterOf : List Cond := .code yX1_quarterOf cX1_quarterOf 2 (some .int) :: ([.fieldLink RX1 47 "CurfewDeskModel" "thrown" "I", .fieldLink RX1 9 "CurfewDeskModel" "quarter" "[I", .methodLink RX1 101 yX1_isOrder, .instanceMethod yX1_isOrder, .selects RX1 yX1_isOrder yX1_isOrder, .initialized RX1, .code yX1_isOrder cX1_isOrder 2 (some .boolean), .fieldLink RX1 58 "CurfewDeskModel" "orders" "I", .methodLink RX1 54 yX1_isIn, .static yX1_isIn, .code yX1_isIn cX1_isIn 3 (some .boolean), .methodLink RX1 88 yX1_fail, .instanceMethod yX1_fail, .selects RX1 yX1_fail yX1_fail, .code yX1_fail cX1_fail 2 (some .int)] ++ wsX10)
def wsX1_colourOf : List Cond := .code yX1_colourOf cX1_colourOf 2 (some .int) :: ([.fieldLink RX1 47 "CurfewDeskModel" "thrown" "I", .fieldLink RX1 19 "CurfewDeskModel" "colour" "[I", .methodLink RX1 101 yX1_isOrder, .instanceMethod yX1_isOrder, .selects RX1 yX1_isOrder yX1_isOrder, .initialized RX1, .code yX1_isOrder cX1_isOrder 2 (some .boolean), .fieldLink RX1 58 "CurfewDeskModel" "orders" "I", .methodLink RX1 54 yX1_isIn, .static yX1_isIn, .code yX1_isIn cX1_isIn 3 (some .boolean), .methodLink RX1 88 yX1_fail, .instanceMethod yX1_fail, .selects RX1 yX1_fail yX1_fail, .code yX1_fail cX1_fail 2 (some .int)] ++ wsX10)
def wsX1_isInForce : List Cond := .code yX1_isInForce cX1_isInForce 2 (some .boolean) :: ([.fieldLink RX1 47 "CurfewDeskModel" "thrown" "I", .fieldLink RX1 25 "CurfewDeskModel" "force" "[Z", .methodLink RX1 101 yX1_isOrder, .instanceMethod yX1_isOrder, .selects RX1 yX1_isOrder yX1_isOrder, .initialized RX1, .code yX1_isOrder cX1_isOrder 2 (some .boolean), .fieldLink RX1 58 "CurfewDeskModel" "orders" "I", .methodLink RX1 54 yX1_isIn, .static yX1_isIn, .code yX1_isIn cX1_isIn 3 (some .boolean), .methodLink RX1 104 yX1_failed, .instanceMethod yX1_failed, .selects RX1 yX1_failed yX1_failed, .code yX1_failed cX1_failed 2 (some .boolean)] ++ wsX10)
def wsX1_isOn_r1 : List Cond := [Cond.fieldLink RX1 47 "CurfewDeskModel" "thrown" "I", Cond.fieldLink RX1 122 "CurfewDeskModel" "time" "I", Cond.methodLink RX1 101 yX1_isOrder, Cond.instanceMethod yX1_isOrder, Cond.selects RX1 yX1_isOrder yX1_isOrder, Cond.initialized RX1, Cond.code yX1_isOrder cX1_isOrder 2 (some .boolean), Cond.fieldLink RX1 58 "CurfewDeskModel" "orders" "I", Cond.methodLink RX1 54 yX1_isIn, Cond.static yX1_isIn, Cond.code yX1_isIn cX1_isIn 3 (some .boolean), Cond.methodLink RX1 81 yX1_onAt, Cond.instanceMethod yX1_onAt, Cond.selects RX1 yX1_onAt yX1_onAt, Cond.code yX1_onAt cX1_onAt 3 (some .boolean), Cond.fieldLink RX1 25 "CurfewDeskModel" "force" "[Z", Cond.methodLink RX1 77 yX1_isAt, Cond.instanceMethod yX1_isAt, Cond.selects RX1 yX1_isAt yX1_isAt, Cond.code yX1_isAt cX1_isAt 5 (some .boolean), Cond.fieldLink RX1 13 "CurfewDeskModel" "ahead" "[I", Cond.fieldLink RX1 16 "CurfewDeskModel" "behind" "[I", Cond.methodLink RX1 71 yX1_dusk, Cond.instanceMethod yX1_dusk]
def wsX1_isOn_r2 : List Cond := [Cond.selects RX1 yX1_dusk yX1_dusk, Cond.code yX1_dusk cX1_dusk 2 (some .int), Cond.fieldLink RX1 68 "CurfewDeskModel" "shift" "I", Cond.methodLink RX1 64 yX1_tide, Cond.static yX1_tide, Cond.code yX1_tide cX1_tide 2 (some .int), Cond.methodLink RX1 74 yX1_dawn, Cond.static yX1_dawn, Cond.code yX1_dawn cX1_dawn 1 (some .int), Cond.methodLink RX1 104 yX1_failed, Cond.instanceMethod yX1_failed, Cond.selects RX1 yX1_failed yX1_failed, Cond.code yX1_failed cX1_failed 2 (some .boolean)]
def wsX1_isOn : List Cond := .code yX1_isOn cX1_isOn 2 (some .boolean) :: ((wsX1_isOn_r1 ++ wsX1_isOn_r2) ++ wsX10)
def wsX1_isExempt : List Cond := .code yX1_isExempt cX1_isExempt 3 (some .boolean) :: ([.fieldLink RX1 47 "CurfewDeskModel" "thrown" "I", .fieldLink RX1 22 "CurfewDeskModel" "exempt" "[I", .methodLink RX1 101 yX1_isOrder, .instanceMethod yX1_isOrder, .selects RX1 yX1_isOrder yX1_isOrder, .initialized RX1, .code yX1_isOrder cX1_isOrder 2 (some .boolean), .fieldLink RX1 58 "CurfewDeskModel" "orders" "I", .methodLink RX1 54 yX1_isIn, .static yX1_isIn, .code yX1_isIn cX1_isIn 3 (some .boolean), .methodLink RX1 91 yX1_isTrade, .static yX1_isTrade, .code yX1_isTrade cX1_isTrade 1 (some .boolean), .methodLink RX1 104 yX1_failed, .instanceMethod yX1_failed, .selects RX1 yX1_failed yX1_failed, .code yX1_failed cX1_failed 2 (some .boolean)] ++ wsX10)
def wsX1_barred_r1 : List Cond := [Cond.fieldLink RX1 61 "CurfewDeskModel" "people" "I", Cond.fieldLink RX1 9 "CurfewDeskModel" "quarter" "[I", Cond.fieldLink RX1 122 "CurfewDeskModel" "time" "I", Cond.methodLink RX1 84 yX1_barsAt, Cond.instanceMethod yX1_barsAt, Cond.selects RX1 yX1_barsAt yX1_barsAt, Cond.initialized RX1, Cond.code yX1_barsAt cX1_barsAt 5 (some .boolean), Cond.fieldLink RX1 22 "CurfewDeskModel" "exempt" "[I", Cond.fieldLink RX1 29 "CurfewDeskModel" "trade" "[I", Cond.methodLink RX1 81 yX1_onAt, Cond.instanceMethod yX1_onAt, Cond.selects RX1 yX1_onAt yX1_onAt, Cond.code yX1_onAt cX1_onAt 3 (some .boolean), Cond.fieldLink RX1 25 "CurfewDeskModel" "force" "[Z", Cond.methodLink RX1 77 yX1_isAt, Cond.instanceMethod yX1_isAt, Cond.selects RX1 yX1_isAt yX1_isAt, Cond.code yX1_isAt cX1_isAt 5 (some .boolean), Cond.fieldLink RX1 13 "CurfewDeskModel" "ahead" "[I", Cond.fieldLink RX1 16 "CurfewDeskModel" "behind" "[I", Cond.methodLink RX1 71 yX1_dusk, Cond.instanceMethod yX1_dusk, Cond.selects RX1 yX1_dusk yX1_dusk]
def wsX1_barred_r2 : List Cond := [Cond.code yX1_dusk cX1_dusk 2 (some .int), Cond.fieldLink RX1 68 "CurfewDeskModel" "shift" "I", Cond.methodLink RX1 64 yX1_tide, Cond.static yX1_tide, Cond.code yX1_tide cX1_tide 2 (some .int), Cond.methodLink RX1 74 yX1_dawn, Cond.static yX1_dawn, Cond.code yX1_dawn cX1_dawn 1 (some .int)]
def wsX1_barred : List Cond := .code yX1_barred cX1_barred 4 (some .int) :: ((wsX1_barred_r1 ++ wsX1_barred_r2) ++ wsX10)
def wsX1_barredBy_r1 : List Cond := [Cond.fieldLink RX1 47 "CurfewDeskModel" "thrown" "I", Cond.methodLink RX1 101 yX1_isOrder, Cond.instanceMethod yX1_isOrder, Cond.selects RX1 yX1_isOrder yX1_isOrder, Cond.initialized RX1, Cond.code yX1_isOrder cX1_isOrder 2 (some .boolean), Cond.fieldLink RX1 58 "CurfewDeskModel" "orders" "I", Cond.methodLink RX1 54 yX1_isIn, Cond.static yX1_isIn, Cond.code yX1_isIn cX1_isIn 3 (some .boolean), Cond.methodLink RX1 125 yX1_barred, Cond.instanceMethod yX1_barred, Cond.selects RX1 yX1_barred yX1_barred, Cond.code yX1_barred cX1_barred 4 (some .int), Cond.fieldLink RX1 61 "CurfewDeskModel" "people" "I", Cond.fieldLink RX1 9 "CurfewDeskModel" "quarter" "[I", Cond.fieldLink RX1 122 "CurfewDeskModel" "time" "I", Cond.methodLink RX1 84 yX1_barsAt, Cond.instanceMethod yX1_barsAt, Cond.selects RX1 yX1_barsAt yX1_barsAt, Cond.code yX1_barsAt cX1_barsAt 5 (some .boolean), Cond.fieldLink RX1 22 "CurfewDeskModel" "exempt" "[I", Cond.fieldLink RX1 29 "CurfewDeskModel" "trade" "[I", Cond.methodLink RX1 81 yX1_onAt]
def wsX1_barredBy_r2 : List Cond := [Cond.instanceMethod yX1_onAt, Cond.selects RX1 yX1_onAt yX1_onAt, Cond.code yX1_onAt cX1_onAt 3 (some .boolean), Cond.fieldLink RX1 25 "CurfewDeskModel" "force" "[Z", Cond.methodLink RX1 77 yX1_isAt, Cond.instanceMethod yX1_isAt, Cond.selects RX1 yX1_isAt yX1_isAt, Cond.code yX1_isAt cX1_isAt 5 (some .boolean), Cond.fieldLink RX1 13 "CurfewDeskModel" "ahead" "[I", Cond.fieldLink RX1 16 "CurfewDeskModel" "behind" "[I", Cond.methodLink RX1 71 yX1_dusk, Cond.instanceMethod yX1_dusk, Cond.selects RX1 yX1_dusk yX1_dusk, Cond.code yX1_dusk cX1_dusk 2 (some .int), Cond.fieldLink RX1 68 "CurfewDeskModel" "shift" "I", Cond.methodLink RX1 64 yX1_tide, Cond.static yX1_tide, Cond.code yX1_tide cX1_tide 2 (some .int), Cond.methodLink RX1 74 yX1_dawn, Cond.static yX1_dawn, Cond.code yX1_dawn cX1_dawn 1 (some .int), Cond.methodLink RX1 88 yX1_fail, Cond.instanceMethod yX1_fail, Cond.selects RX1 yX1_fail yX1_fail]
def wsX1_barredBy_r3 : List Cond := [Cond.code yX1_fail cX1_fail 2 (some .int)]
def wsX1_barredBy : List Cond := .code yX1_barredBy cX1_barredBy 2 (some .int) :: ((wsX1_barredBy_r1 ++ (wsX1_barredBy_r2 ++ wsX1_barredBy_r3)) ++ wsX10)
def wsX1_tradeOf : List Cond := .code yX1_tradeOf cX1_tradeOf 2 (some .int) :: ([.fieldLink RX1 47 "CurfewDeskModel" "thrown" "I", .fieldLink RX1 29 "CurfewDeskModel" "trade" "[I", .methodLink RX1 107 yX1_isPerson, .instanceMethod yX1_isPerson, .selects RX1 yX1_isPerson yX1_isPerson, .initialized RX1, .code yX1_isPerson cX1_isPerson 2 (some .boolean), .fieldLink RX1 61 "CurfewDeskModel" "people" "I", .methodLink RX1 54 yX1_isIn, .static yX1_isIn, .code yX1_isIn cX1_isIn 3 (some .boolean), .methodLink RX1 88 yX1_fail, .instanceMethod yX1_fail, .selects RX1 yX1_fail yX1_fail, .code yX1_fail cX1_fail 2 (some .int)] ++ wsX10)
def wsX1_stampsOf : List Cond := .code yX1_stampsOf cX1_stampsOf 3 (some .int) :: ([.fieldLink RX1 38 "CurfewDeskModel" "stamps" "[I", .methodLink RX1 110 yX1_isPass, .instanceMethod yX1_isPass, .selects RX1 yX1_isPass yX1_isPass, .initialized RX1, .code yX1_isPass cX1_isPass 3 (some .boolean), .fieldLink RX1 47 "CurfewDeskModel" "thrown" "I", .methodLink RX1 107 yX1_isPerson, .instanceMethod yX1_isPerson, .selects RX1 yX1_isPerson yX1_isPerson, .code yX1_isPerson cX1_isPerson 2 (some .boolean), .fieldLink RX1 61 "CurfewDeskModel" "people" "I", .methodLink RX1 54 yX1_isIn, .static yX1_isIn, .code yX1_isIn cX1_isIn 3 (some .boolean), .methodLink RX1 98 yX1_isColour, .static yX1_isColour, .code yX1_isColour cX1_isColour 1 (some .boolean)] ++ wsX10)
def wsX1_owes : List Cond := .code yX1_owes cX1_owes 2 (some .int) :: ([.fieldLink RX1 47 "CurfewDeskModel" "thrown" "I", .fieldLink RX1 35 "CurfewDeskModel" "debt" "[I", .methodLink RX1 107 yX1_isPerson, .instanceMethod yX1_isPerson, .selects RX1 yX1_isPerson yX1_isPerson, .initialized RX1, .code yX1_isPerson cX1_isPerson 2 (some .boolean), .fieldLink RX1 61 "CurfewDeskModel" "people" "I", .methodLink RX1 54 yX1_isIn, .static yX1_isIn, .code yX1_isIn cX1_isIn 3 (some .boolean), .methodLink RX1 88 yX1_fail, .instanceMethod yX1_fail, .selects RX1 yX1_fail yX1_fail, .code yX1_fail cX1_fail 2 (some .int)] ++ wsX10)
def wsX1_timesFined : List Cond := .code yX1_timesFined cX1_timesFined 2 (some .int) :: ([.fieldLink RX1 47 "CurfewDeskModel" "thrown" "I", .fieldLink RX1 32 "CurfewDeskModel" "fined" "[I", .methodLink RX1 107 yX1_isPerson, .instanceMethod yX1_isPerson, .selects RX1 yX1_isPerson yX1_isPerson, .initialized RX1, .code yX1_isPerson cX1_isPerson 2 (some .boolean), .fieldLink RX1 61 "CurfewDeskModel" "people" "I", .methodLink RX1 54 yX1_isIn, .static yX1_isIn, .code yX1_isIn cX1_isIn 3 (some .boolean), .methodLink RX1 88 yX1_fail, .instanceMethod yX1_fail, .selects RX1 yX1_fail yX1_fail, .code yX1_fail cX1_fail 2 (some .int)] ++ wsX10)
def wsX1_ordersAgainst_r1 : List Cond := [Cond.fieldLink RX1 122 "CurfewDeskModel" "time" "I", Cond.methodLink RX1 119 yX1_isPair, Cond.instanceMethod yX1_isPair, Cond.selects RX1 yX1_isPair yX1_isPair, Cond.initialized RX1, Cond.code yX1_isPair cX1_isPair 3 (some .boolean), Cond.fieldLink RX1 47 "CurfewDeskModel" "thrown" "I", Cond.methodLink RX1 107 yX1_isPerson, Cond.instanceMethod yX1_isPerson, Cond.selects RX1 yX1_isPerson yX1_isPerson, Cond.code yX1_isPerson cX1_isPerson 2 (some .boolean), Cond.fieldLink RX1 61 "CurfewDeskModel" "people" "I", Cond.methodLink RX1 54 yX1_isIn, Cond.static yX1_isIn, Cond.code yX1_isIn cX1_isIn 3 (some .boolean), Cond.methodLink RX1 95 yX1_isQuarter, Cond.instanceMethod yX1_isQuarter, Cond.selects RX1 yX1_isQuarter yX1_isQuarter, Cond.code yX1_isQuarter cX1_isQuarter 2 (some .boolean), Cond.fieldLink RX1 51 "CurfewDeskModel" "quarters" "I", Cond.methodLink RX1 128 yX1_against, Cond.instanceMethod yX1_against, Cond.selects RX1 yX1_against yX1_against, Cond.code yX1_against cX1_against 6 (some .int)]
def wsX1_ordersAgainst_r2 : List Cond := [Cond.fieldLink RX1 58 "CurfewDeskModel" "orders" "I", Cond.methodLink RX1 84 yX1_barsAt, Cond.instanceMethod yX1_barsAt, Cond.selects RX1 yX1_barsAt yX1_barsAt, Cond.code yX1_barsAt cX1_barsAt 5 (some .boolean), Cond.fieldLink RX1 9 "CurfewDeskModel" "quarter" "[I", Cond.fieldLink RX1 22 "CurfewDeskModel" "exempt" "[I", Cond.fieldLink RX1 29 "CurfewDeskModel" "trade" "[I", Cond.methodLink RX1 81 yX1_onAt, Cond.instanceMethod yX1_onAt, Cond.selects RX1 yX1_onAt yX1_onAt, Cond.code yX1_onAt cX1_onAt 3 (some .boolean), Cond.fieldLink RX1 25 "CurfewDeskModel" "force" "[Z", Cond.methodLink RX1 77 yX1_isAt, Cond.instanceMethod yX1_isAt, Cond.selects RX1 yX1_isAt yX1_isAt, Cond.code yX1_isAt cX1_isAt 5 (some .boolean), Cond.fieldLink RX1 13 "CurfewDeskModel" "ahead" "[I", Cond.fieldLink RX1 16 "CurfewDeskModel" "behind" "[I", Cond.methodLink RX1 71 yX1_dusk, Cond.instanceMethod yX1_dusk, Cond.selects RX1 yX1_dusk yX1_dusk, Cond.code yX1_dusk cX1_dusk 2 (some .int), Cond.fieldLink RX1 68 "CurfewDeskModel" "shift" "I"]
def wsX1_ordersAgainst_r3 : List Cond := [Cond.methodLink RX1 64 yX1_tide, Cond.static yX1_tide, Cond.code yX1_tide cX1_tide 2 (some .int), Cond.methodLink RX1 74 yX1_dawn, Cond.static yX1_dawn, Cond.code yX1_dawn cX1_dawn 1 (some .int)]
def wsX1_ordersAgainst : List Cond := .code yX1_ordersAgainst cX1_ordersAgainst 3 (some .int) :: ((wsX1_ordersAgainst_r1 ++ (wsX1_ordersAgainst_r2 ++ wsX1_ordersAgainst_r3)) ++ wsX10)
def wsX1_missing_r1 : List Cond := [Cond.fieldLink RX1 44 "CurfewDeskModel" "wanted" "[I", Cond.fieldLink RX1 38 "CurfewDeskModel" "stamps" "[I", Cond.fieldLink RX1 58 "CurfewDeskModel" "orders" "I", Cond.fieldLink RX1 122 "CurfewDeskModel" "time" "I", Cond.fieldLink RX1 19 "CurfewDeskModel" "colour" "[I", Cond.methodLink RX1 132 Lib.Math.max.name, Cond.static Lib.Math.max.name, Cond.initialized "java/lang/Math", Cond.code Lib.Math.max.name Lib.Math.max.code 2 (some .int), Cond.methodLink RX1 84 yX1_barsAt, Cond.instanceMethod yX1_barsAt, Cond.selects RX1 yX1_barsAt yX1_barsAt, Cond.initialized RX1, Cond.code yX1_barsAt cX1_barsAt 5 (some .boolean), Cond.fieldLink RX1 9 "CurfewDeskModel" "quarter" "[I", Cond.fieldLink RX1 22 "CurfewDeskModel" "exempt" "[I", Cond.fieldLink RX1 29 "CurfewDeskModel" "trade" "[I", Cond.methodLink RX1 81 yX1_onAt, Cond.instanceMethod yX1_onAt, Cond.selects RX1 yX1_onAt yX1_onAt, Cond.code yX1_onAt cX1_onAt 3 (some .boolean), Cond.fieldLink RX1 25 "CurfewDeskModel" "force" "[Z", Cond.methodLink RX1 77 yX1_isAt, Cond.instanceMethod yX1_isAt]
def wsX1_missing_r2 : List Cond := [Cond.selects RX1 yX1_isAt yX1_isAt, Cond.code yX1_isAt cX1_isAt 5 (some .boolean), Cond.fieldLink RX1 13 "CurfewDeskModel" "ahead" "[I", Cond.fieldLink RX1 16 "CurfewDeskModel" "behind" "[I", Cond.methodLink RX1 71 yX1_dusk, Cond.instanceMethod yX1_dusk, Cond.selects RX1 yX1_dusk yX1_dusk, Cond.code yX1_dusk cX1_dusk 2 (some .int), Cond.fieldLink RX1 68 "CurfewDeskModel" "shift" "I", Cond.methodLink RX1 64 yX1_tide, Cond.static yX1_tide, Cond.code yX1_tide cX1_tide 2 (some .int), Cond.methodLink RX1 74 yX1_dawn, Cond.static yX1_dawn, Cond.code yX1_dawn cX1_dawn 1 (some .int)]
def wsX1_missing : List Cond := .code yX1_missing cX1_missing 5 (some .int) :: ((wsX1_missing_r1 ++ wsX1_missing_r2) ++ wsX10)
def wsX1_mayGo_r1 : List Cond := [Cond.methodLink RX1 119 yX1_isPair, Cond.instanceMethod yX1_isPair, Cond.selects RX1 yX1_isPair yX1_isPair, Cond.initialized RX1, Cond.code yX1_isPair cX1_isPair 3 (some .boolean), Cond.fieldLink RX1 47 "CurfewDeskModel" "thrown" "I", Cond.methodLink RX1 107 yX1_isPerson, Cond.instanceMethod yX1_isPerson, Cond.selects RX1 yX1_isPerson yX1_isPerson, Cond.code yX1_isPerson cX1_isPerson 2 (some .boolean), Cond.fieldLink RX1 61 "CurfewDeskModel" "people" "I", Cond.methodLink RX1 54 yX1_isIn, Cond.static yX1_isIn, Cond.code yX1_isIn cX1_isIn 3 (some .boolean), Cond.methodLink RX1 95 yX1_isQuarter, Cond.instanceMethod yX1_isQuarter, Cond.selects RX1 yX1_isQuarter yX1_isQuarter, Cond.code yX1_isQuarter cX1_isQuarter 2 (some .boolean), Cond.fieldLink RX1 51 "CurfewDeskModel" "quarters" "I", Cond.methodLink RX1 135 yX1_missing, Cond.instanceMethod yX1_missing, Cond.selects RX1 yX1_missing yX1_missing, Cond.code yX1_missing cX1_missing 5 (some .int), Cond.fieldLink RX1 44 "CurfewDeskModel" "wanted" "[I"]
def wsX1_mayGo_r2 : List Cond := [Cond.fieldLink RX1 38 "CurfewDeskModel" "stamps" "[I", Cond.fieldLink RX1 58 "CurfewDeskModel" "orders" "I", Cond.fieldLink RX1 122 "CurfewDeskModel" "time" "I", Cond.fieldLink RX1 19 "CurfewDeskModel" "colour" "[I", Cond.methodLink RX1 132 Lib.Math.max.name, Cond.static Lib.Math.max.name, Cond.initialized "java/lang/Math", Cond.code Lib.Math.max.name Lib.Math.max.code 2 (some .int), Cond.methodLink RX1 84 yX1_barsAt, Cond.instanceMethod yX1_barsAt, Cond.selects RX1 yX1_barsAt yX1_barsAt, Cond.code yX1_barsAt cX1_barsAt 5 (some .boolean), Cond.fieldLink RX1 9 "CurfewDeskModel" "quarter" "[I", Cond.fieldLink RX1 22 "CurfewDeskModel" "exempt" "[I", Cond.fieldLink RX1 29 "CurfewDeskModel" "trade" "[I", Cond.methodLink RX1 81 yX1_onAt, Cond.instanceMethod yX1_onAt, Cond.selects RX1 yX1_onAt yX1_onAt, Cond.code yX1_onAt cX1_onAt 3 (some .boolean), Cond.fieldLink RX1 25 "CurfewDeskModel" "force" "[Z", Cond.methodLink RX1 77 yX1_isAt, Cond.instanceMethod yX1_isAt, Cond.selects RX1 yX1_isAt yX1_isAt, Cond.code yX1_isAt cX1_isAt 5 (some .boolean)]
def wsX1_mayGo_r3 : List Cond := [Cond.fieldLink RX1 13 "CurfewDeskModel" "ahead" "[I", Cond.fieldLink RX1 16 "CurfewDeskModel" "behind" "[I", Cond.methodLink RX1 71 yX1_dusk, Cond.instanceMethod yX1_dusk, Cond.selects RX1 yX1_dusk yX1_dusk, Cond.code yX1_dusk cX1_dusk 2 (some .int), Cond.fieldLink RX1 68 "CurfewDeskModel" "shift" "I", Cond.methodLink RX1 64 yX1_tide, Cond.static yX1_tide, Cond.code yX1_tide cX1_tide 2 (some .int), Cond.methodLink RX1 74 yX1_dawn, Cond.static yX1_dawn, Cond.code yX1_dawn cX1_dawn 1 (some .int)]
def wsX1_mayGo : List Cond := .code yX1_mayGo cX1_mayGo 3 (some .boolean) :: ((wsX1_mayGo_r1 ++ (wsX1_mayGo_r2 ++ wsX1_mayGo_r3)) ++ wsX10)
def wsX1_stampsMissing_r1 : List Cond := [Cond.methodLink RX1 119 yX1_isPair, Cond.instanceMethod yX1_isPair, Cond.selects RX1 yX1_isPair yX1_isPair, Cond.initialized RX1, Cond.code yX1_isPair cX1_isPair 3 (some .boolean), Cond.fieldLink RX1 47 "CurfewDeskModel" "thrown" "I", Cond.methodLink RX1 107 yX1_isPerson, Cond.instanceMethod yX1_isPerson, Cond.selects RX1 yX1_isPerson yX1_isPerson, Cond.code yX1_isPerson cX1_isPerson 2 (some .boolean), Cond.fieldLink RX1 61 "CurfewDeskModel" "people" "I", Cond.methodLink RX1 54 yX1_isIn, Cond.static yX1_isIn, Cond.code yX1_isIn cX1_isIn 3 (some .boolean), Cond.methodLink RX1 95 yX1_isQuarter, Cond.instanceMethod yX1_isQuarter, Cond.selects RX1 yX1_isQuarter yX1_isQuarter, Cond.code yX1_isQuarter cX1_isQuarter 2 (some .boolean), Cond.fieldLink RX1 51 "CurfewDeskModel" "quarters" "I", Cond.methodLink RX1 135 yX1_missing, Cond.instanceMethod yX1_missing, Cond.selects RX1 yX1_missing yX1_missing, Cond.code yX1_missing cX1_missing 5 (some .int), Cond.fieldLink RX1 44 "CurfewDeskModel" "wanted" "[I"]
def wsX1_stampsMissing_r2 : List Cond := [Cond.fieldLink RX1 38 "CurfewDeskModel" "stamps" "[I", Cond.fieldLink RX1 58 "CurfewDeskModel" "orders" "I", Cond.fieldLink RX1 122 "CurfewDeskModel" "time" "I", Cond.fieldLink RX1 19 "CurfewDeskModel" "colour" "[I", Cond.methodLink RX1 132 Lib.Math.max.name, Cond.static Lib.Math.max.name, Cond.initialized "java/lang/Math", Cond.code Lib.Math.max.name Lib.Math.max.code 2 (some .int), Cond.methodLink RX1 84 yX1_barsAt, Cond.instanceMethod yX1_barsAt, Cond.selects RX1 yX1_barsAt yX1_barsAt, Cond.code yX1_barsAt cX1_barsAt 5 (some .boolean), Cond.fieldLink RX1 9 "CurfewDeskModel" "quarter" "[I", Cond.fieldLink RX1 22 "CurfewDeskModel" "exempt" "[I", Cond.fieldLink RX1 29 "CurfewDeskModel" "trade" "[I", Cond.methodLink RX1 81 yX1_onAt, Cond.instanceMethod yX1_onAt, Cond.selects RX1 yX1_onAt yX1_onAt, Cond.code yX1_onAt cX1_onAt 3 (some .boolean), Cond.fieldLink RX1 25 "CurfewDeskModel" "force" "[Z", Cond.methodLink RX1 77 yX1_isAt, Cond.instanceMethod yX1_isAt, Cond.selects RX1 yX1_isAt yX1_isAt, Cond.code yX1_isAt cX1_isAt 5 (some .boolean)]
def wsX1_stampsMissing_r3 : List Cond := [Cond.fieldLink RX1 13 "CurfewDeskModel" "ahead" "[I", Cond.fieldLink RX1 16 "CurfewDeskModel" "behind" "[I", Cond.methodLink RX1 71 yX1_dusk, Cond.instanceMethod yX1_dusk, Cond.selects RX1 yX1_dusk yX1_dusk, Cond.code yX1_dusk cX1_dusk 2 (some .int), Cond.fieldLink RX1 68 "CurfewDeskModel" "shift" "I", Cond.methodLink RX1 64 yX1_tide, Cond.static yX1_tide, Cond.code yX1_tide cX1_tide 2 (some .int), Cond.methodLink RX1 74 yX1_dawn, Cond.static yX1_dawn, Cond.code yX1_dawn cX1_dawn 1 (some .int)]
def wsX1_stampsMissing : List Cond := .code yX1_stampsMissing cX1_stampsMissing 3 (some .int) :: ((wsX1_stampsMissing_r1 ++ (wsX1_stampsMissing_r2 ++ wsX1_stampsMissing_r3)) ++ wsX10)
def wsX1_quarters : List Cond := .code yX1_quarters cX1_quarters 1 (some .int) :: ([.fieldLink RX1 47 "CurfewDeskModel" "thrown" "I", .fieldLink RX1 51 "CurfewDeskModel" "quarters" "I"] ++ wsX10)
def wsX1_orders : List Cond := .code yX1_orders cX1_orders 1 (some .int) :: ([.fieldLink RX1 47 "CurfewDeskModel" "thrown" "I", .fieldLink RX1 58 "CurfewDeskModel" "orders" "I"] ++ wsX10)
def wsX1_people : List Cond := .code yX1_people cX1_people 1 (some .int) :: ([.fieldLink RX1 47 "CurfewDeskModel" "thrown" "I", .fieldLink RX1 61 "CurfewDeskModel" "people" "I"] ++ wsX10)
def wsX1_manyOn_r1 : List Cond := [Cond.fieldLink RX1 58 "CurfewDeskModel" "orders" "I", Cond.fieldLink RX1 122 "CurfewDeskModel" "time" "I", Cond.methodLink RX1 81 yX1_onAt, Cond.instanceMethod yX1_onAt, Cond.selects RX1 yX1_onAt yX1_onAt, Cond.initialized RX1, Cond.code yX1_onAt cX1_onAt 3 (some .boolean), Cond.fieldLink RX1 25 "CurfewDeskModel" "force" "[Z", Cond.methodLink RX1 77 yX1_isAt, Cond.instanceMethod yX1_isAt, Cond.selects RX1 yX1_isAt yX1_isAt, Cond.code yX1_isAt cX1_isAt 5 (some .boolean), Cond.fieldLink RX1 13 "CurfewDeskModel" "ahead" "[I", Cond.fieldLink RX1 16 "CurfewDeskModel" "behind" "[I", Cond.methodLink RX1 71 yX1_dusk, Cond.instanceMethod yX1_dusk, Cond.selects RX1 yX1_dusk yX1_dusk, Cond.code yX1_dusk cX1_dusk 2 (some .int), Cond.fieldLink RX1 68 "CurfewDeskModel" "shift" "I", Cond.methodLink RX1 64 yX1_tide, Cond.static yX1_tide, Cond.code yX1_tide cX1_tide 2 (some .int), Cond.methodLink RX1 74 yX1_dawn, Cond.static yX1_dawn]
def wsX1_manyOn_r2 : List Cond := [Cond.code yX1_dawn cX1_dawn 1 (some .int)]
def wsX1_manyOn : List Cond := .code yX1_manyOn cX1_manyOn 3 (some .int) :: ((wsX1_manyOn_r1 ++ wsX1_manyOn_r2) ++ wsX10)
def wsX1_ordersOn_r1 : List Cond := [Cond.fieldLink RX1 47 "CurfewDeskModel" "thrown" "I", Cond.methodLink RX1 138 yX1_manyOn, Cond.instanceMethod yX1_manyOn, Cond.selects RX1 yX1_manyOn yX1_manyOn, Cond.initialized RX1, Cond.code yX1_manyOn cX1_manyOn 3 (some .int), Cond.fieldLink RX1 58 "CurfewDeskModel" "orders" "I", Cond.fieldLink RX1 122 "CurfewDeskModel" "time" "I", Cond.methodLink RX1 81 yX1_onAt, Cond.instanceMethod yX1_onAt, Cond.selects RX1 yX1_onAt yX1_onAt, Cond.code yX1_onAt cX1_onAt 3 (some .boolean), Cond.fieldLink RX1 25 "CurfewDeskModel" "force" "[Z", Cond.methodLink RX1 77 yX1_isAt, Cond.instanceMethod yX1_isAt, Cond.selects RX1 yX1_isAt yX1_isAt, Cond.code yX1_isAt cX1_isAt 5 (some .boolean), Cond.fieldLink RX1 13 "CurfewDeskModel" "ahead" "[I", Cond.fieldLink RX1 16 "CurfewDeskModel" "behind" "[I", Cond.methodLink RX1 71 yX1_dusk, Cond.instanceMethod yX1_dusk, Cond.selects RX1 yX1_dusk yX1_dusk, Cond.code yX1_dusk cX1_dusk 2 (some .int), Cond.fieldLink RX1 68 "CurfewDeskModel" "shift" "I"]
def wsX1_ordersOn_r2 : List Cond := [Cond.methodLink RX1 64 yX1_tide, Cond.static yX1_tide, Cond.code yX1_tide cX1_tide 2 (some .int), Cond.methodLink RX1 74 yX1_dawn, Cond.static yX1_dawn, Cond.code yX1_dawn cX1_dawn 1 (some .int)]
def wsX1_ordersOn : List Cond := .code yX1_ordersOn cX1_ordersOn 1 (some .int) :: ((wsX1_ordersOn_r1 ++ wsX1_ordersOn_r2) ++ wsX10)
def wsX1_shift : List Cond := .code yX1_shift cX1_shift 1 (some .int) :: ([.fieldLink RX1 47 "CurfewDeskModel" "thrown" "I", .fieldLink RX1 68 "CurfewDeskModel" "shift" "I"] ++ wsX10)
def wsX1_all : List Cond := .code yX1_all cX1_all 3 (some .int) :: ([.fieldLink RX1 61 "CurfewDeskModel" "people" "I", .fieldLink RX1 35 "CurfewDeskModel" "debt" "[I"] ++ wsX10)
def wsX1_allOwe : List Cond := .code yX1_allOwe cX1_allOwe 1 (some .int) :: ([.fieldLink RX1 47 "CurfewDeskModel" "thrown" "I", .methodLink RX1 142 yX1_all, .instanceMethod yX1_all, .selects RX1 yX1_all yX1_all, .initialized RX1, .code yX1_all cX1_all 3 (some .int), .fieldLink RX1 61 "CurfewDeskModel" "people" "I", .fieldLink RX1 35 "CurfewDeskModel" "debt" "[I"] ++ wsX10)
def wsX1_stampsUsed : List Cond := .code yX1_stampsUsed cX1_stampsUsed 2 (some .int) :: ([.fieldLink RX1 47 "CurfewDeskModel" "thrown" "I", .fieldLink RX1 41 "CurfewDeskModel" "used" "[I", .methodLink RX1 98 yX1_isColour, .static yX1_isColour, .initialized RX1, .code yX1_isColour cX1_isColour 1 (some .boolean), .methodLink RX1 54 yX1_isIn, .static yX1_isIn, .code yX1_isIn cX1_isIn 3 (some .boolean), .methodLink RX1 88 yX1_fail, .instanceMethod yX1_fail, .selects RX1 yX1_fail yX1_fail, .code yX1_fail cX1_fail 2 (some .int)] ++ wsX10)
def wsX1_halfHoursUntilFree_r1 : List Cond := [Cond.fieldLink RX1 122 "CurfewDeskModel" "time" "I", Cond.methodLink RX1 119 yX1_isPair, Cond.instanceMethod yX1_isPair, Cond.selects RX1 yX1_isPair yX1_isPair, Cond.initialized RX1, Cond.code yX1_isPair cX1_isPair 3 (some .boolean), Cond.fieldLink RX1 47 "CurfewDeskModel" "thrown" "I", Cond.methodLink RX1 107 yX1_isPerson, Cond.instanceMethod yX1_isPerson, Cond.selects RX1 yX1_isPerson yX1_isPerson, Cond.code yX1_isPerson cX1_isPerson 2 (some .boolean), Cond.fieldLink RX1 61 "CurfewDeskModel" "people" "I", Cond.methodLink RX1 54 yX1_isIn, Cond.static yX1_isIn, Cond.code yX1_isIn cX1_isIn 3 (some .boolean), Cond.methodLink RX1 95 yX1_isQuarter, Cond.instanceMethod yX1_isQuarter, Cond.selects RX1 yX1_isQuarter yX1_isQuarter, Cond.code yX1_isQuarter cX1_isQuarter 2 (some .boolean), Cond.fieldLink RX1 51 "CurfewDeskModel" "quarters" "I", Cond.methodLink RX1 128 yX1_against, Cond.instanceMethod yX1_against, Cond.selects RX1 yX1_against yX1_against, Cond.code yX1_against cX1_against 6 (some .int)]
def wsX1_halfHoursUntilFree_r2 : List Cond := [Cond.fieldLink RX1 58 "CurfewDeskModel" "orders" "I", Cond.methodLink RX1 84 yX1_barsAt, Cond.instanceMethod yX1_barsAt, Cond.selects RX1 yX1_barsAt yX1_barsAt, Cond.code yX1_barsAt cX1_barsAt 5 (some .boolean), Cond.fieldLink RX1 9 "CurfewDeskModel" "quarter" "[I", Cond.fieldLink RX1 22 "CurfewDeskModel" "exempt" "[I", Cond.fieldLink RX1 29 "CurfewDeskModel" "trade" "[I", Cond.methodLink RX1 81 yX1_onAt, Cond.instanceMethod yX1_onAt, Cond.selects RX1 yX1_onAt yX1_onAt, Cond.code yX1_onAt cX1_onAt 3 (some .boolean), Cond.fieldLink RX1 25 "CurfewDeskModel" "force" "[Z", Cond.methodLink RX1 77 yX1_isAt, Cond.instanceMethod yX1_isAt, Cond.selects RX1 yX1_isAt yX1_isAt, Cond.code yX1_isAt cX1_isAt 5 (some .boolean), Cond.fieldLink RX1 13 "CurfewDeskModel" "ahead" "[I", Cond.fieldLink RX1 16 "CurfewDeskModel" "behind" "[I", Cond.methodLink RX1 71 yX1_dusk, Cond.instanceMethod yX1_dusk, Cond.selects RX1 yX1_dusk yX1_dusk, Cond.code yX1_dusk cX1_dusk 2 (some .int), Cond.fieldLink RX1 68 "CurfewDeskModel" "shift" "I"]
def wsX1_halfHoursUntilFree_r3 : List Cond := [Cond.methodLink RX1 64 yX1_tide, Cond.static yX1_tide, Cond.code yX1_tide cX1_tide 2 (some .int), Cond.methodLink RX1 74 yX1_dawn, Cond.static yX1_dawn, Cond.code yX1_dawn cX1_dawn 1 (some .int)]
def wsX1_halfHoursUntilFree : List Cond := .code yX1_halfHoursUntilFree cX1_halfHoursUntilFree 4 (some .int) :: ((wsX1_halfHoursUntilFree_r1 ++ (wsX1_halfHoursUntilFree_r2 ++ wsX1_halfHoursUntilFree_r3)) ++ wsX10)
def wsX1_halfHoursOn_r1 : List Cond := [Cond.fieldLink RX1 47 "CurfewDeskModel" "thrown" "I", Cond.fieldLink RX1 122 "CurfewDeskModel" "time" "I", Cond.methodLink RX1 101 yX1_isOrder, Cond.instanceMethod yX1_isOrder, Cond.selects RX1 yX1_isOrder yX1_isOrder, Cond.initialized RX1, Cond.code yX1_isOrder cX1_isOrder 2 (some .boolean), Cond.fieldLink RX1 58 "CurfewDeskModel" "orders" "I", Cond.methodLink RX1 54 yX1_isIn, Cond.static yX1_isIn, Cond.code yX1_isIn cX1_isIn 3 (some .boolean), Cond.methodLink RX1 88 yX1_fail, Cond.instanceMethod yX1_fail, Cond.selects RX1 yX1_fail yX1_fail, Cond.code yX1_fail cX1_fail 2 (some .int), Cond.methodLink RX1 77 yX1_isAt, Cond.instanceMethod yX1_isAt, Cond.selects RX1 yX1_isAt yX1_isAt, Cond.code yX1_isAt cX1_isAt 5 (some .boolean), Cond.fieldLink RX1 13 "CurfewDeskModel" "ahead" "[I", Cond.fieldLink RX1 16 "CurfewDeskModel" "behind" "[I", Cond.methodLink RX1 71 yX1_dusk, Cond.instanceMethod yX1_dusk, Cond.selects RX1 yX1_dusk yX1_dusk]
def wsX1_halfHoursOn_r2 : List Cond := [Cond.code yX1_dusk cX1_dusk 2 (some .int), Cond.fieldLink RX1 68 "CurfewDeskModel" "shift" "I", Cond.methodLink RX1 64 yX1_tide, Cond.static yX1_tide, Cond.code yX1_tide cX1_tide 2 (some .int), Cond.methodLink RX1 74 yX1_dawn, Cond.static yX1_dawn, Cond.code yX1_dawn cX1_dawn 1 (some .int)]
def wsX1_halfHoursOn : List Cond := .code yX1_halfHoursOn cX1_halfHoursOn 4 (some .int) :: ((wsX1_halfHoursOn_r1 ++ wsX1_halfHoursOn_r2) ++ wsX10)
def wsX1_pairs_r1 : List Cond := [Cond.fieldLink RX1 61 "CurfewDeskModel" "people" "I", Cond.fieldLink RX1 51 "CurfewDeskModel" "quarters" "I", Cond.methodLink RX1 135 yX1_missing, Cond.instanceMethod yX1_missing, Cond.selects RX1 yX1_missing yX1_missing, Cond.initialized RX1, Cond.code yX1_missing cX1_missing 5 (some .int), Cond.fieldLink RX1 44 "CurfewDeskModel" "wanted" "[I", Cond.fieldLink RX1 38 "CurfewDeskModel" "stamps" "[I", Cond.fieldLink RX1 58 "CurfewDeskModel" "orders" "I", Cond.fieldLink RX1 122 "CurfewDeskModel" "time" "I", Cond.fieldLink RX1 19 "CurfewDeskModel" "colour" "[I", Cond.methodLink RX1 132 Lib.Math.max.name, Cond.static Lib.Math.max.name, Cond.initialized "java/lang/Math", Cond.code Lib.Math.max.name Lib.Math.max.code 2 (some .int), Cond.methodLink RX1 84 yX1_barsAt, Cond.instanceMethod yX1_barsAt, Cond.selects RX1 yX1_barsAt yX1_barsAt, Cond.code yX1_barsAt cX1_barsAt 5 (some .boolean), Cond.fieldLink RX1 9 "CurfewDeskModel" "quarter" "[I", Cond.fieldLink RX1 22 "CurfewDeskModel" "exempt" "[I", Cond.fieldLink RX1 29 "CurfewDeskModel" "trade" "[I", Cond.methodLink RX1 81 yX1_onAt]
def wsX1_pairs_r2 : List Cond := [Cond.instanceMethod yX1_onAt, Cond.selects RX1 yX1_onAt yX1_onAt, Cond.code yX1_onAt cX1_onAt 3 (some .boolean), Cond.fieldLink RX1 25 "CurfewDeskModel" "force" "[Z", Cond.methodLink RX1 77 yX1_isAt, Cond.instanceMethod yX1_isAt, Cond.selects RX1 yX1_isAt yX1_isAt, Cond.code yX1_isAt cX1_isAt 5 (some .boolean), Cond.fieldLink RX1 13 "CurfewDeskModel" "ahead" "[I", Cond.fieldLink RX1 16 "CurfewDeskModel" "behind" "[I", Cond.methodLink RX1 71 yX1_dusk, Cond.instanceMethod yX1_dusk, Cond.selects RX1 yX1_dusk yX1_dusk, Cond.code yX1_dusk cX1_dusk 2 (some .int), Cond.fieldLink RX1 68 "CurfewDeskModel" "shift" "I", Cond.methodLink RX1 64 yX1_tide, Cond.static yX1_tide, Cond.code yX1_tide cX1_tide 2 (some .int), Cond.methodLink RX1 74 yX1_dawn, Cond.static yX1_dawn, Cond.code yX1_dawn cX1_dawn 1 (some .int)]
def wsX1_pairs : List Cond := .code yX1_pairs cX1_pairs 4 (some .int) :: ((wsX1_pairs_r1 ++ wsX1_pairs_r2) ++ wsX10)
def wsX1_bestLift_r1 : List Cond := [Cond.fieldLink RX1 47 "CurfewDeskModel" "thrown" "I", Cond.fieldLink RX1 58 "CurfewDeskModel" "orders" "I", Cond.fieldLink RX1 25 "CurfewDeskModel" "force" "[Z", Cond.methodLink RX1 145 yX1_pairs, Cond.instanceMethod yX1_pairs, Cond.selects RX1 yX1_pairs yX1_pairs, Cond.initialized RX1, Cond.code yX1_pairs cX1_pairs 4 (some .int), Cond.fieldLink RX1 61 "CurfewDeskModel" "people" "I", Cond.fieldLink RX1 51 "CurfewDeskModel" "quarters" "I", Cond.methodLink RX1 135 yX1_missing, Cond.instanceMethod yX1_missing, Cond.selects RX1 yX1_missing yX1_missing, Cond.code yX1_missing cX1_missing 5 (some .int), Cond.fieldLink RX1 44 "CurfewDeskModel" "wanted" "[I", Cond.fieldLink RX1 38 "CurfewDeskModel" "stamps" "[I", Cond.fieldLink RX1 122 "CurfewDeskModel" "time" "I", Cond.fieldLink RX1 19 "CurfewDeskModel" "colour" "[I", Cond.methodLink RX1 132 Lib.Math.max.name, Cond.static Lib.Math.max.name, Cond.initialized "java/lang/Math", Cond.code Lib.Math.max.name Lib.Math.max.code 2 (some .int), Cond.methodLink RX1 84 yX1_barsAt, Cond.instanceMethod yX1_barsAt]
def wsX1_bestLift_r2 : List Cond := [Cond.selects RX1 yX1_barsAt yX1_barsAt, Cond.code yX1_barsAt cX1_barsAt 5 (some .boolean), Cond.fieldLink RX1 9 "CurfewDeskModel" "quarter" "[I", Cond.fieldLink RX1 22 "CurfewDeskModel" "exempt" "[I", Cond.fieldLink RX1 29 "CurfewDeskModel" "trade" "[I", Cond.methodLink RX1 81 yX1_onAt, Cond.instanceMethod yX1_onAt, Cond.selects RX1 yX1_onAt yX1_onAt, Cond.code yX1_onAt cX1_onAt 3 (some .boolean), Cond.methodLink RX1 77 yX1_isAt, Cond.instanceMethod yX1_isAt, Cond.selects RX1 yX1_isAt yX1_isAt, Cond.code yX1_isAt cX1_isAt 5 (some .boolean), Cond.fieldLink RX1 13 "CurfewDeskModel" "ahead" "[I", Cond.fieldLink RX1 16 "CurfewDeskModel" "behind" "[I", Cond.methodLink RX1 71 yX1_dusk, Cond.instanceMethod yX1_dusk, Cond.selects RX1 yX1_dusk yX1_dusk, Cond.code yX1_dusk cX1_dusk 2 (some .int), Cond.fieldLink RX1 68 "CurfewDeskModel" "shift" "I", Cond.methodLink RX1 64 yX1_tide, Cond.static yX1_tide, Cond.code yX1_tide cX1_tide 2 (some .int), Cond.methodLink RX1 74 yX1_dawn]
def wsX1_bestLift_r3 : List Cond := [Cond.static yX1_dawn, Cond.code yX1_dawn cX1_dawn 1 (some .int)]
def wsX1_bestLift : List Cond := .code yX1_bestLift cX1_bestLift 5 (some .int) :: ((wsX1_bestLift_r1 ++ (wsX1_bestLift_r2 ++ wsX1_bestLift_r3)) ++ wsX10)
def wsX1_meanDebt : List Cond := .code yX1_meanDebt cX1_meanDebt 1 (some .double) :: ([.fieldLink RX1 47 "CurfewDeskModel" "thrown" "I", .fieldLink RX1 61 "CurfewDeskModel" "people" "I", .methodLink RX1 142 yX1_all, .instanceMethod yX1_all, .selects RX1 yX1_all yX1_all, .initialized RX1, .code yX1_all cX1_all 3 (some .int), .fieldLink RX1 35 "CurfewDeskModel" "debt" "[I"] ++ wsX10)
def wsX1_digest_r1 : List Cond := [Cond.fieldLink RX1 47 "CurfewDeskModel" "thrown" "I", Cond.fieldLink RX1 122 "CurfewDeskModel" "time" "I", Cond.arrayClass .int, Cond.fieldLink RX1 51 "CurfewDeskModel" "quarters" "I", Cond.fieldLink RX1 58 "CurfewDeskModel" "orders" "I", Cond.fieldLink RX1 61 "CurfewDeskModel" "people" "I", Cond.fieldLink RX1 68 "CurfewDeskModel" "shift" "I", Cond.constantLong RX1 148 (1879), Cond.constantLong RX1 150 (31), Cond.fieldLink RX1 41 "CurfewDeskModel" "used" "[I", Cond.fieldLink RX1 9 "CurfewDeskModel" "quarter" "[I", Cond.fieldLink RX1 19 "CurfewDeskModel" "colour" "[I", Cond.fieldLink RX1 25 "CurfewDeskModel" "force" "[Z", Cond.fieldLink RX1 22 "CurfewDeskModel" "exempt" "[I", Cond.fieldLink RX1 29 "CurfewDeskModel" "trade" "[I", Cond.fieldLink RX1 35 "CurfewDeskModel" "debt" "[I", Cond.fieldLink RX1 32 "CurfewDeskModel" "fined" "[I", Cond.fieldLink RX1 38 "CurfewDeskModel" "stamps" "[I", Cond.methodLink RX1 71 yX1_dusk, Cond.instanceMethod yX1_dusk, Cond.selects RX1 yX1_dusk yX1_dusk, Cond.initialized RX1, Cond.code yX1_dusk cX1_dusk 2 (some .int), Cond.methodLink RX1 64 yX1_tide]
def wsX1_digest_r2 : List Cond := [Cond.static yX1_tide, Cond.code yX1_tide cX1_tide 2 (some .int), Cond.methodLink RX1 74 yX1_dawn, Cond.static yX1_dawn, Cond.code yX1_dawn cX1_dawn 1 (some .int), Cond.methodLink RX1 138 yX1_manyOn, Cond.instanceMethod yX1_manyOn, Cond.selects RX1 yX1_manyOn yX1_manyOn, Cond.code yX1_manyOn cX1_manyOn 3 (some .int), Cond.methodLink RX1 81 yX1_onAt, Cond.instanceMethod yX1_onAt, Cond.selects RX1 yX1_onAt yX1_onAt, Cond.code yX1_onAt cX1_onAt 3 (some .boolean), Cond.methodLink RX1 77 yX1_isAt, Cond.instanceMethod yX1_isAt, Cond.selects RX1 yX1_isAt yX1_isAt, Cond.code yX1_isAt cX1_isAt 5 (some .boolean), Cond.fieldLink RX1 13 "CurfewDeskModel" "ahead" "[I", Cond.fieldLink RX1 16 "CurfewDeskModel" "behind" "[I", Cond.methodLink RX1 125 yX1_barred, Cond.instanceMethod yX1_barred, Cond.selects RX1 yX1_barred yX1_barred, Cond.code yX1_barred cX1_barred 4 (some .int), Cond.methodLink RX1 84 yX1_barsAt]
def wsX1_digest_r3 : List Cond := [Cond.instanceMethod yX1_barsAt, Cond.selects RX1 yX1_barsAt yX1_barsAt, Cond.code yX1_barsAt cX1_barsAt 5 (some .boolean), Cond.methodLink RX1 128 yX1_against, Cond.instanceMethod yX1_against, Cond.selects RX1 yX1_against yX1_against, Cond.code yX1_against cX1_against 6 (some .int)]
def wsX1_digest : List Cond := .code yX1_digest cX1_digest 9 (some .long) :: ((wsX1_digest_r1 ++ (wsX1_digest_r2 ++ wsX1_digest_r3)) ++ wsX10)
def wsJ9_max_7cf53 : List Cond := .code yJ9_max_7cf53 cJ9_max_7cf53 2 (some .int) :: ([])
def wsJ9_min_7cf53 : List Cond := .code yJ9_min_7cf53 cJ9_min_7cf53 2 (some .int) :: ([])
def wsL_addQuarter : List Cond := .codeWith yL_addQuarter cL_addQuarter 3 (some .int) [(0, 8, 11, 13)] :: ([.classLink RL 13 "java/lang/IllegalStateException", .methodLink RL 7 yX0_addQuarter, .instanceMethod yX0_addQuarter, .selects RX0 yX0_addQuarter yX0_addQuarter, .initialized RX0, .code yX0_addQuarter cX0_addQuarter 2 (some .int), .classLink RX0 48 "java/lang/IllegalStateException", .initialized "java/lang/IllegalStateException", .fieldLink RX0 44 "CurfewDesk" "quarterCount" "I"] ++ wsX00 ++ (vx_atS RX0 52 "java/lang/IllegalStateException" ["java/lang/RuntimeException", "java/lang/Exception"]).filter goodWord)
def wsL_addPerson : List Cond := .codeWith yL_addPerson cL_addPerson 4 (some .int) [(0, 9, 12, 19), (0, 9, 15, 13)] :: ([.classLink RL 19 "java/lang/IndexOutOfBoundsException", .classLink RL 13 "java/lang/IllegalStateException", .methodLink RL 15 yX0_addPerson, .instanceMethod yX0_addPerson, .selects RX0 yX0_addPerson yX0_addPerson, .initialized RX0, .code yX0_addPerson cX0_addPerson 3 (some .int), .classLink RX0 48 "java/lang/IllegalStateException", .initialized "java/lang/IllegalStateException", .fieldLink RX0 59 "CurfewDesk" "personCount" "I", .fieldLink RX0 29 "CurfewDesk" "personTrade" "[I", .methodLink RX0 55 yX0_requireTrade, .static yX0_requireTrade, .code yX0_requireTrade cX0_requireTrade 1 none, .classLink RX0 190 "java/lang/IndexOutOfBoundsException", .initialized "java/lang/IndexOutOfBoundsException"] ++ wsX00 ++ (vx_atS RX0 52 "java/lang/IllegalStateException" ["java/lang/RuntimeException", "java/lang/Exception"]).filter goodWord ++ (vx_atS RX0 194 "java/lang/IndexOutOfBoundsException" ["java/lang/RuntimeException", "java/lang/Exception"]).filter goodWord)
def wsL_addOrder_r1 : List Cond := [Cond.classLink RL 19 "java/lang/IndexOutOfBoundsException", Cond.classLink RL 25 "java/lang/IllegalArgumentException", Cond.classLink RL 13 "java/lang/IllegalStateException", Cond.methodLink RL 21 yX0_addOrder, Cond.instanceMethod yX0_addOrder, Cond.selects RX0 yX0_addOrder yX0_addOrder, Cond.initialized RX0, Cond.code yX0_addOrder cX0_addOrder 6 (some .int), Cond.classLink RX0 48 "java/lang/IllegalStateException", Cond.initialized "java/lang/IllegalStateException", Cond.fieldLink RX0 74 "CurfewDesk" "orderCount" "I", Cond.fieldLink RX0 9 "CurfewDesk" "orderQuarter" "[I", Cond.fieldLink RX0 13 "CurfewDesk" "orderAhead" "[I", Cond.fieldLink RX0 16 "CurfewDesk" "orderBehind" "[I", Cond.fieldLink RX0 19 "CurfewDesk" "orderColour" "[I", Cond.fieldLink RX0 22 "CurfewDesk" "orderInForce" "[Z", Cond.methodLink RX0 64 yX0_requireQuarter, Cond.instanceMethod yX0_requireQuarter, Cond.selects RX0 yX0_requireQuarter yX0_requireQuarter, Cond.code yX0_requireQuarter cX0_requireQuarter 2 none, Cond.classLink RX0 190 "java/lang/IndexOutOfBoundsException", Cond.initialized "java/lang/IndexOutOfBoundsException", Cond.fieldLink RX0 44 "CurfewDesk" "quarterCount" "I", Cond.methodLink RX0 67 yX0_requireColour]
def wsL_addOrder_r2 : List Cond := [Cond.static yX0_requireColour, Cond.code yX0_requireColour cX0_requireColour 1 none, Cond.methodLink RX0 70 yX0_requireWithin, Cond.static yX0_requireWithin, Cond.code yX0_requireWithin cX0_requireWithin 3 none, Cond.classLink RX0 203 "java/lang/IllegalArgumentException", Cond.initialized "java/lang/IllegalArgumentException"]
def wsL_addOrder : List Cond := .codeWith yL_addOrder cL_addOrder 7 (some .int) [(0, 14, 17, 19), (0, 14, 21, 25), (0, 14, 25, 13)] :: ((wsL_addOrder_r1 ++ wsL_addOrder_r2) ++ wsX00 ++ (vx_atS RX0 52 "java/lang/IllegalStateException" ["java/lang/RuntimeException", "java/lang/Exception"]).filter goodWord ++ (vx_atS RX0 194 "java/lang/IndexOutOfBoundsException" ["java/lang/RuntimeException", "java/lang/Exception"]).filter goodWord ++ (vx_atS RX0 207 "java/lang/IllegalArgumentException" ["java/lang/RuntimeException", "java/lang/Exception"]).filter goodWord)
def wsL_turnExempt : List Cond := .codeWith yL_turnExempt cL_turnExempt 5 (some .int) [(0, 17, 20, 19)] :: ([.classLink RL 19 "java/lang/IndexOutOfBoundsException", .methodLink RL 27 yX0_turnExempt, .instanceMethod yX0_turnExempt, .selects RX0 yX0_turnExempt yX0_turnExempt, .initialized RX0, .code yX0_turnExempt cX0_turnExempt 3 (some .boolean), .fieldLink RX0 26 "CurfewDesk" "orderExempt" "[I", .methodLink RX0 79 yX0_requireOrder, .instanceMethod yX0_requireOrder, .selects RX0 yX0_requireOrder yX0_requireOrder, .code yX0_requireOrder cX0_requireOrder 2 none, .classLink RX0 190 "java/lang/IndexOutOfBoundsException", .initialized "java/lang/IndexOutOfBoundsException", .fieldLink RX0 74 "CurfewDesk" "orderCount" "I", .methodLink RX0 55 yX0_requireTrade, .static yX0_requireTrade, .code yX0_requireTrade cX0_requireTrade 1 none, .methodLink RX0 82 yX0_exempts, .instanceMethod yX0_exempts, .selects RX0 yX0_exempts yX0_exempts, .code yX0_exempts cX0_exempts 3 (some .boolean)] ++ wsX00 ++ (vx_atS RX0 194 "java/lang/IndexOutOfBoundsException" ["java/lang/RuntimeException", "java/lang/Exception"]).filter goodWord)
def wsL_turnOrder : List Cond := .codeWith yL_turnOrder cL_turnOrder 4 (some .int) [(0, 16, 19, 19)] :: ([.classLink RL 19 "java/lang/IndexOutOfBoundsException", .methodLink RL 31 yX0_turnOrder, .instanceMethod yX0_turnOrder, .selects RX0 yX0_turnOrder yX0_turnOrder, .initialized RX0, .code yX0_turnOrder cX0_turnOrder 2 (some .boolean), .fieldLink RX0 22 "CurfewDesk" "orderInForce" "[Z", .methodLink RX0 79 yX0_requireOrder, .instanceMethod yX0_requireOrder, .selects RX0 yX0_requireOrder yX0_requireOrder, .code yX0_requireOrder cX0_requireOrder 2 none, .classLink RX0 190 "java/lang/IndexOutOfBoundsException", .initialized "java/lang/IndexOutOfBoundsException", .fieldLink RX0 74 "CurfewDesk" "orderCount" "I"] ++ wsX00 ++ (vx_atS RX0 194 "java/lang/IndexOutOfBoundsException" ["java/lang/RuntimeException", "java/lang/Exception"]).filter goodWord)
def wsL_setShift : List Cond := .codeWith yL_setShift cL_setShift 4 (some .int) [(0, 9, 12, 25)] :: ([.classLink RL 25 "java/lang/IllegalArgumentException", .methodLink RL 35 yX0_setShift, .instanceMethod yX0_setShift, .selects RX0 yX0_setShift yX0_setShift, .initialized RX0, .code yX0_setShift cX0_setShift 3 (some .int), .fieldLink RX0 86 "CurfewDesk" "duskShift" "I", .methodLink RX0 70 yX0_requireWithin, .static yX0_requireWithin, .code yX0_requireWithin cX0_requireWithin 3 none, .classLink RX0 203 "java/lang/IllegalArgumentException", .initialized "java/lang/IllegalArgumentException"] ++ wsX00 ++ (vx_atS RX0 207 "java/lang/IllegalArgumentException" ["java/lang/RuntimeException", "java/lang/Exception"]).filter goodWord)
def wsL_givePass_r1 : List Cond := [Cond.classLink RL 19 "java/lang/IndexOutOfBoundsException", Cond.classLink RL 25 "java/lang/IllegalArgumentException", Cond.methodLink RL 38 yX0_givePass, Cond.instanceMethod yX0_givePass, Cond.selects RX0 yX0_givePass yX0_givePass, Cond.initialized RX0, Cond.code yX0_givePass cX0_givePass 5 (some .int), Cond.fieldLink RX0 38 "CurfewDesk" "personStamps" "[I", Cond.methodLink RX0 96 Lib.Math.min.name, Cond.static Lib.Math.min.name, Cond.initialized "java/lang/Math", Cond.code Lib.Math.min.name Lib.Math.min.code 2 (some .int), Cond.methodLink RX0 89 yX0_requirePerson, Cond.instanceMethod yX0_requirePerson, Cond.selects RX0 yX0_requirePerson yX0_requirePerson, Cond.code yX0_requirePerson cX0_requirePerson 2 none, Cond.classLink RX0 190 "java/lang/IndexOutOfBoundsException", Cond.initialized "java/lang/IndexOutOfBoundsException", Cond.fieldLink RX0 59 "CurfewDesk" "personCount" "I", Cond.methodLink RX0 67 yX0_requireColour, Cond.static yX0_requireColour, Cond.code yX0_requireColour cX0_requireColour 1 none, Cond.methodLink RX0 70 yX0_requireWithin, Cond.static yX0_requireWithin]
def wsL_givePass_r2 : List Cond := [Cond.code yX0_requireWithin cX0_requireWithin 3 none, Cond.classLink RX0 203 "java/lang/IllegalArgumentException", Cond.initialized "java/lang/IllegalArgumentException", Cond.methodLink RX0 92 yX0_stampPlace, Cond.static yX0_stampPlace, Cond.code yX0_stampPlace cX0_stampPlace 2 (some .int)]
def wsL_givePass : List Cond := .codeWith yL_givePass cL_givePass 6 (some .int) [(0, 12, 15, 19), (0, 12, 19, 25)] :: ((wsL_givePass_r1 ++ wsL_givePass_r2) ++ wsX00 ++ (vx_atS RX0 194 "java/lang/IndexOutOfBoundsException" ["java/lang/RuntimeException", "java/lang/Exception"]).filter goodWord ++ (vx_atS RX0 207 "java/lang/IllegalArgumentException" ["java/lang/RuntimeException", "java/lang/Exception"]).filter goodWord)
def wsL_takePass : List Cond := .codeWith yL_takePass cL_takePass 5 (some .int) [(0, 10, 13, 19)] :: ([.classLink RL 19 "java/lang/IndexOutOfBoundsException", .methodLink RL 42 yX0_takePass, .instanceMethod yX0_takePass, .selects RX0 yX0_takePass yX0_takePass, .initialized RX0, .code yX0_takePass cX0_takePass 5 (some .int), .fieldLink RX0 38 "CurfewDesk" "personStamps" "[I", .methodLink RX0 89 yX0_requirePerson, .instanceMethod yX0_requirePerson, .selects RX0 yX0_requirePerson yX0_requirePerson, .code yX0_requirePerson cX0_requirePerson 2 none, .classLink RX0 190 "java/lang/IndexOutOfBoundsException", .initialized "java/lang/IndexOutOfBoundsException", .fieldLink RX0 59 "CurfewDesk" "personCount" "I", .methodLink RX0 67 yX0_requireColour, .static yX0_requireColour, .code yX0_requireColour cX0_requireColour 1 none, .methodLink RX0 92 yX0_stampPlace, .static yX0_stampPlace, .code yX0_stampPlace cX0_stampPlace 2 (some .int)] ++ wsX00 ++ (vx_atS RX0 194 "java/lang/IndexOutOfBoundsException" ["java/lang/RuntimeException", "java/lang/Exception"]).filter goodWord)
def wsL_goOut_r1 : List Cond := [Cond.classLink RL 19 "java/lang/IndexOutOfBoundsException", Cond.methodLink RL 46 yX0_goOut, Cond.instanceMethod yX0_goOut, Cond.selects RX0 yX0_goOut yX0_goOut, Cond.initialized RX0, Cond.code yX0_goOut cX0_goOut 5 (some .int), Cond.fieldLink RX0 74 "CurfewDesk" "orderCount" "I", Cond.fieldLink RX0 101 "CurfewDesk" "now" "I", Cond.fieldLink RX0 19 "CurfewDesk" "orderColour" "[I", Cond.methodLink RX0 89 yX0_requirePerson, Cond.instanceMethod yX0_requirePerson, Cond.selects RX0 yX0_requirePerson yX0_requirePerson, Cond.code yX0_requirePerson cX0_requirePerson 2 none, Cond.classLink RX0 190 "java/lang/IndexOutOfBoundsException", Cond.initialized "java/lang/IndexOutOfBoundsException", Cond.fieldLink RX0 59 "CurfewDesk" "personCount" "I", Cond.methodLink RX0 64 yX0_requireQuarter, Cond.instanceMethod yX0_requireQuarter, Cond.selects RX0 yX0_requireQuarter yX0_requireQuarter, Cond.code yX0_requireQuarter cX0_requireQuarter 2 none, Cond.fieldLink RX0 44 "CurfewDesk" "quarterCount" "I", Cond.methodLink RX0 104 yX0_bars, Cond.instanceMethod yX0_bars, Cond.selects RX0 yX0_bars yX0_bars]
def wsL_goOut_r2 : List Cond := [Cond.code yX0_bars cX0_bars 5 (some .boolean), Cond.fieldLink RX0 9 "CurfewDesk" "orderQuarter" "[I", Cond.fieldLink RX0 29 "CurfewDesk" "personTrade" "[I", Cond.fieldLink RX0 22 "CurfewDesk" "orderInForce" "[Z", Cond.methodLink RX0 82 yX0_exempts, Cond.instanceMethod yX0_exempts, Cond.selects RX0 yX0_exempts yX0_exempts, Cond.code yX0_exempts cX0_exempts 3 (some .boolean), Cond.fieldLink RX0 26 "CurfewDesk" "orderExempt" "[I", Cond.methodLink RX0 139 yX0_isInHours, Cond.instanceMethod yX0_isInHours, Cond.selects RX0 yX0_isInHours yX0_isInHours, Cond.code yX0_isInHours cX0_isInHours 5 (some .boolean), Cond.fieldLink RX0 13 "CurfewDesk" "orderAhead" "[I", Cond.fieldLink RX0 16 "CurfewDesk" "orderBehind" "[I", Cond.methodLink RX0 122 yX0_duskOf, Cond.instanceMethod yX0_duskOf, Cond.selects RX0 yX0_duskOf yX0_duskOf, Cond.code yX0_duskOf cX0_duskOf 2 (some .int), Cond.fieldLink RX0 86 "CurfewDesk" "duskShift" "I", Cond.methodLink RX0 184 yX0_tideOf, Cond.static yX0_tideOf, Cond.code yX0_tideOf cX0_tideOf 2 (some .int), Cond.methodLink RX0 125 yX0_dawnOf]
def wsL_goOut_r3 : List Cond := [Cond.static yX0_dawnOf, Cond.code yX0_dawnOf cX0_dawnOf 1 (some .int), Cond.methodLink RX0 108 yX0_useStamp, Cond.instanceMethod yX0_useStamp, Cond.selects RX0 yX0_useStamp yX0_useStamp, Cond.code yX0_useStamp cX0_useStamp 4 (some .boolean), Cond.fieldLink RX0 38 "CurfewDesk" "personStamps" "[I", Cond.fieldLink RX0 41 "CurfewDesk" "usedStamps" "[I", Cond.methodLink RX0 92 yX0_stampPlace, Cond.static yX0_stampPlace, Cond.code yX0_stampPlace cX0_stampPlace 2 (some .int), Cond.methodLink RX0 111 yX0_fineOnce, Cond.instanceMethod yX0_fineOnce, Cond.selects RX0 yX0_fineOnce yX0_fineOnce, Cond.code yX0_fineOnce cX0_fineOnce 3 (some .int), Cond.fieldLink RX0 32 "CurfewDesk" "personFined" "[I", Cond.fieldLink RX0 35 "CurfewDesk" "personOwes" "[I"]
def wsL_goOut : List Cond := .codeWith yL_goOut cL_goOut 5 (some .int) [(0, 10, 13, 19)] :: ((wsL_goOut_r1 ++ (wsL_goOut_r2 ++ wsL_goOut_r3)) ++ wsX00 ++ (vx_atS RX0 194 "java/lang/IndexOutOfBoundsException" ["java/lang/RuntimeException", "java/lang/Exception"]).filter goodWord)
def wsL_pass_r1 : List Cond := [Cond.classLink RL 25 "java/lang/IllegalArgumentException", Cond.methodLink RL 49 yX0_pass, Cond.instanceMethod yX0_pass, Cond.selects RX0 yX0_pass yX0_pass, Cond.initialized RX0, Cond.code yX0_pass cX0_pass 4 (some .int), Cond.fieldLink RX0 74 "CurfewDesk" "orderCount" "I", Cond.fieldLink RX0 101 "CurfewDesk" "now" "I", Cond.methodLink RX0 70 yX0_requireWithin, Cond.static yX0_requireWithin, Cond.code yX0_requireWithin cX0_requireWithin 3 none, Cond.classLink RX0 203 "java/lang/IllegalArgumentException", Cond.initialized "java/lang/IllegalArgumentException", Cond.methodLink RX0 115 yX0_timesBegun, Cond.instanceMethod yX0_timesBegun, Cond.selects RX0 yX0_timesBegun yX0_timesBegun, Cond.code yX0_timesBegun cX0_timesBegun 7 (some .int), Cond.methodLink RX0 128 yX0_isOnAt, Cond.instanceMethod yX0_isOnAt, Cond.selects RX0 yX0_isOnAt yX0_isOnAt, Cond.code yX0_isOnAt cX0_isOnAt 3 (some .boolean), Cond.fieldLink RX0 22 "CurfewDesk" "orderInForce" "[Z", Cond.methodLink RX0 139 yX0_isInHours, Cond.instanceMethod yX0_isInHours]
def wsL_pass_r2 : List Cond := [Cond.selects RX0 yX0_isInHours yX0_isInHours, Cond.code yX0_isInHours cX0_isInHours 5 (some .boolean), Cond.fieldLink RX0 13 "CurfewDesk" "orderAhead" "[I", Cond.fieldLink RX0 16 "CurfewDesk" "orderBehind" "[I", Cond.methodLink RX0 122 yX0_duskOf, Cond.instanceMethod yX0_duskOf, Cond.selects RX0 yX0_duskOf yX0_duskOf, Cond.code yX0_duskOf cX0_duskOf 2 (some .int), Cond.fieldLink RX0 86 "CurfewDesk" "duskShift" "I", Cond.methodLink RX0 184 yX0_tideOf, Cond.static yX0_tideOf, Cond.code yX0_tideOf cX0_tideOf 2 (some .int), Cond.methodLink RX0 125 yX0_dawnOf, Cond.static yX0_dawnOf, Cond.code yX0_dawnOf cX0_dawnOf 1 (some .int)]
def wsL_pass : List Cond := .codeWith yL_pass cL_pass 4 (some .int) [(0, 9, 12, 25)] :: ((wsL_pass_r1 ++ wsL_pass_r2) ++ wsX00 ++ (vx_atS RX0 207 "java/lang/IllegalArgumentException" ["java/lang/RuntimeException", "java/lang/Exception"]).filter goodWord)
def wsL_duskIn : List Cond := .codeWith yL_duskIn cL_duskIn 4 (some .int) [(0, 9, 12, 25)] :: ([.classLink RL 25 "java/lang/IllegalArgumentException", .methodLink RL 52 yX0_duskIn, .instanceMethod yX0_duskIn, .selects RX0 yX0_duskIn yX0_duskIn, .initialized RX0, .code yX0_duskIn cX0_duskIn 2 (some .int), .methodLink RX0 70 yX0_requireWithin, .static yX0_requireWithin, .code yX0_requireWithin cX0_requireWithin 3 none, .classLink RX0 203 "java/lang/IllegalArgumentException", .initialized "java/lang/IllegalArgumentException", .methodLink RX0 118 yX0_day, .instanceMethod yX0_day, .selects RX0 yX0_day yX0_day, .code yX0_day cX0_day 1 (some .int), .fieldLink RX0 101 "CurfewDesk" "now" "I", .methodLink RX0 122 yX0_duskOf, .instanceMethod yX0_duskOf, .selects RX0 yX0_duskOf yX0_duskOf, .code yX0_duskOf cX0_duskOf 2 (some .int), .fieldLink RX0 86 "CurfewDesk" "duskShift" "I", .methodLink RX0 184 yX0_tideOf, .static yX0_tideOf, .code yX0_tideOf cX0_tideOf 2 (some .int)] ++ wsX00 ++ (vx_atS RX0 207 "java/lang/IllegalArgumentException" ["java/lang/RuntimeException", "java/lang/Exception"]).filter goodWord)
def wsL_dawnIn : List Cond := .codeWith yL_dawnIn cL_dawnIn 4 (some .int) [(0, 9, 12, 25)] :: ([.classLink RL 25 "java/lang/IllegalArgumentException", .methodLink RL 55 yX0_dawnIn, .instanceMethod yX0_dawnIn, .selects RX0 yX0_dawnIn yX0_dawnIn, .initialized RX0, .code yX0_dawnIn cX0_dawnIn 2 (some .int), .methodLink RX0 70 yX0_requireWithin, .static yX0_requireWithin, .code yX0_requireWithin cX0_requireWithin 3 none, .classLink RX0 203 "java/lang/IllegalArgumentException", .initialized "java/lang/IllegalArgumentException", .methodLink RX0 118 yX0_day, .instanceMethod yX0_day, .selects RX0 yX0_day yX0_day, .code yX0_day cX0_day 1 (some .int), .fieldLink RX0 101 "CurfewDesk" "now" "I", .methodLink RX0 125 yX0_dawnOf, .static yX0_dawnOf, .code yX0_dawnOf cX0_dawnOf 1 (some .int), .methodLink RX0 184 yX0_tideOf, .static yX0_tideOf, .code yX0_tideOf cX0_tideOf 2 (some .int)] ++ wsX00 ++ (vx_atS RX0 207 "java/lang/IllegalArgumentException" ["java/lang/RuntimeException", "java/lang/Exception"]).filter goodWord)
def wsL_quarterOf : List Cond := .codeWith yL_quarterOf cL_quarterOf 4 (some .int) [(0, 9, 12, 19)] :: ([.classLink RL 19 "java/lang/IndexOutOfBoundsException", .methodLink RL 58 yX0_quarterOf, .instanceMethod yX0_quarterOf, .selects RX0 yX0_quarterOf yX0_quarterOf, .initialized RX0, .code yX0_quarterOf cX0_quarterOf 2 (some .int), .fieldLink RX0 9 "CurfewDesk" "orderQuarter" "[I", .methodLink RX0 79 yX0_requireOrder, .instanceMethod yX0_requireOrder, .selects RX0 yX0_requireOrder yX0_requireOrder, .code yX0_requireOrder cX0_requireOrder 2 none, .classLink RX0 190 "java/lang/IndexOutOfBoundsException", .initialized "java/lang/IndexOutOfBoundsException", .fieldLink RX0 74 "CurfewDesk" "orderCount" "I"] ++ wsX00 ++ (vx_atS RX0 194 "java/lang/IndexOutOfBoundsException" ["java/lang/RuntimeException", "java/lang/Exception"]).filter goodWord)
def wsL_colourOf : List Cond := .codeWith yL_colourOf cL_colourOf 4 (some .int) [(0, 9, 12, 19)] :: ([.classLink RL 19 "java/lang/IndexOutOfBoundsException", .methodLink RL 61 yX0_colourOf, .instanceMethod yX0_colourOf, .selects RX0 yX0_colourOf yX0_colourOf, .initialized RX0, .code yX0_colourOf cX0_colourOf 2 (some .int), .fieldLink RX0 19 "CurfewDesk" "orderColour" "[I", .methodLink RX0 79 yX0_requireOrder, .instanceMethod yX0_requireOrder, .selects RX0 yX0_requireOrder yX0_requireOrder, .code yX0_requireOrder cX0_requireOrder 2 none, .classLink RX0 190 "java/lang/IndexOutOfBoundsException", .initialized "java/lang/IndexOutOfBoundsException", .fieldLink RX0 74 "CurfewDesk" "orderCount" "I"] ++ wsX00 ++ (vx_atS RX0 194 "java/lang/IndexOutOfBoundsException" ["java/lang/RuntimeException", "java/lang/Exception"]).filter goodWord)
def wsL_isInForce : List Cond := .codeWith yL_isInForce cL_isInForce 4 (some .int) [(0, 16, 19, 19)] :: ([.classLink RL 19 "java/lang/IndexOutOfBoundsException", .methodLink RL 64 yX0_isInForce, .instanceMethod yX0_isInForce, .selects RX0 yX0_isInForce yX0_isInForce, .initialized RX0, .code yX0_isInForce cX0_isInForce 2 (some .boolean), .fieldLink RX0 22 "CurfewDesk" "orderInForce" "[Z", .methodLink RX0 79 yX0_requireOrder, .instanceMethod yX0_requireOrder, .selects RX0 yX0_requireOrder yX0_requireOrder, .code yX0_requireOrder cX0_requireOrder 2 none, .classLink RX0 190 "java/lang/IndexOutOfBoundsException", .initialized "java/lang/IndexOutOfBoundsException", .fieldLink RX0 74 "CurfewDesk" "orderCount" "I"] ++ wsX00 ++ (vx_atS RX0 194 "java/lang/IndexOutOfBoundsException" ["java/lang/RuntimeException", "java/lang/Exception"]).filter goodWord)
def wsL_isOn_r1 : List Cond := [Cond.classLink RL 19 "java/lang/IndexOutOfBoundsException", Cond.methodLink RL 67 yX0_isOn, Cond.instanceMethod yX0_isOn, Cond.selects RX0 yX0_isOn yX0_isOn, Cond.initialized RX0, Cond.code yX0_isOn cX0_isOn 2 (some .boolean), Cond.fieldLink RX0 101 "CurfewDesk" "now" "I", Cond.methodLink RX0 79 yX0_requireOrder, Cond.instanceMethod yX0_requireOrder, Cond.selects RX0 yX0_requireOrder yX0_requireOrder, Cond.code yX0_requireOrder cX0_requireOrder 2 none, Cond.classLink RX0 190 "java/lang/IndexOutOfBoundsException", Cond.initialized "java/lang/IndexOutOfBoundsException", Cond.fieldLink RX0 74 "CurfewDesk" "orderCount" "I", Cond.methodLink RX0 128 yX0_isOnAt, Cond.instanceMethod yX0_isOnAt, Cond.selects RX0 yX0_isOnAt yX0_isOnAt, Cond.code yX0_isOnAt cX0_isOnAt 3 (some .boolean), Cond.fieldLink RX0 22 "CurfewDesk" "orderInForce" "[Z", Cond.methodLink RX0 139 yX0_isInHours, Cond.instanceMethod yX0_isInHours, Cond.selects RX0 yX0_isInHours yX0_isInHours, Cond.code yX0_isInHours cX0_isInHours 5 (some .boolean), Cond.fieldLink RX0 13 "CurfewDesk" "orderAhead" "[I"]
def wsL_isOn_r2 : List Cond := [Cond.fieldLink RX0 16 "CurfewDesk" "orderBehind" "[I", Cond.methodLink RX0 122 yX0_duskOf, Cond.instanceMethod yX0_duskOf, Cond.selects RX0 yX0_duskOf yX0_duskOf, Cond.code yX0_duskOf cX0_duskOf 2 (some .int), Cond.fieldLink RX0 86 "CurfewDesk" "duskShift" "I", Cond.methodLink RX0 184 yX0_tideOf, Cond.static yX0_tideOf, Cond.code yX0_tideOf cX0_tideOf 2 (some .int), Cond.methodLink RX0 125 yX0_dawnOf, Cond.static yX0_dawnOf, Cond.code yX0_dawnOf cX0_dawnOf 1 (some .int)]
def wsL_isOn : List Cond := .codeWith yL_isOn cL_isOn 4 (some .int) [(0, 16, 19, 19)] :: ((wsL_isOn_r1 ++ wsL_isOn_r2) ++ wsX00 ++ (vx_atS RX0 194 "java/lang/IndexOutOfBoundsException" ["java/lang/RuntimeException", "java/lang/Exception"]).filter goodWord)
def wsL_isExempt : List Cond := .codeWith yL_isExempt cL_isExempt 5 (some .int) [(0, 17, 20, 19)] :: ([.classLink RL 19 "java/lang/IndexOutOfBoundsException", .methodLink RL 70 yX0_isExempt, .instanceMethod yX0_isExempt, .selects RX0 yX0_isExempt yX0_isExempt, .initialized RX0, .code yX0_isExempt cX0_isExempt 3 (some .boolean), .methodLink RX0 79 yX0_requireOrder, .instanceMethod yX0_requireOrder, .selects RX0 yX0_requireOrder yX0_requireOrder, .code yX0_requireOrder cX0_requireOrder 2 none, .classLink RX0 190 "java/lang/IndexOutOfBoundsException", .initialized "java/lang/IndexOutOfBoundsException", .fieldLink RX0 74 "CurfewDesk" "orderCount" "I", .methodLink RX0 55 yX0_requireTrade, .static yX0_requireTrade, .code yX0_requireTrade cX0_requireTrade 1 none, .methodLink RX0 82 yX0_exempts, .instanceMethod yX0_exempts, .selects RX0 yX0_exempts yX0_exempts, .code yX0_exempts cX0_exempts 3 (some .boolean), .fieldLink RX0 26 "CurfewDesk" "orderExempt" "[I"] ++ wsX00 ++ (vx_atS RX0 194 "java/lang/IndexOutOfBoundsException" ["java/lang/RuntimeException", "java/lang/Exception"]).filter goodWord)
def wsL_barredBy_r1 : List Cond := [Cond.classLink RL 19 "java/lang/IndexOutOfBoundsException", Cond.methodLink RL 73 yX0_barredBy, Cond.instanceMethod yX0_barredBy, Cond.selects RX0 yX0_barredBy yX0_barredBy, Cond.initialized RX0, Cond.code yX0_barredBy cX0_barredBy 4 (some .int), Cond.fieldLink RX0 59 "CurfewDesk" "personCount" "I", Cond.fieldLink RX0 9 "CurfewDesk" "orderQuarter" "[I", Cond.fieldLink RX0 101 "CurfewDesk" "now" "I", Cond.methodLink RX0 79 yX0_requireOrder, Cond.instanceMethod yX0_requireOrder, Cond.selects RX0 yX0_requireOrder yX0_requireOrder, Cond.code yX0_requireOrder cX0_requireOrder 2 none, Cond.classLink RX0 190 "java/lang/IndexOutOfBoundsException", Cond.initialized "java/lang/IndexOutOfBoundsException", Cond.fieldLink RX0 74 "CurfewDesk" "orderCount" "I", Cond.methodLink RX0 104 yX0_bars, Cond.instanceMethod yX0_bars, Cond.selects RX0 yX0_bars yX0_bars, Cond.code yX0_bars cX0_bars 5 (some .boolean), Cond.fieldLink RX0 29 "CurfewDesk" "personTrade" "[I", Cond.fieldLink RX0 22 "CurfewDesk" "orderInForce" "[Z", Cond.methodLink RX0 82 yX0_exempts, Cond.instanceMethod yX0_exempts]
def wsL_barredBy_r2 : List Cond := [Cond.selects RX0 yX0_exempts yX0_exempts, Cond.code yX0_exempts cX0_exempts 3 (some .boolean), Cond.fieldLink RX0 26 "CurfewDesk" "orderExempt" "[I", Cond.methodLink RX0 139 yX0_isInHours, Cond.instanceMethod yX0_isInHours, Cond.selects RX0 yX0_isInHours yX0_isInHours, Cond.code yX0_isInHours cX0_isInHours 5 (some .boolean), Cond.fieldLink RX0 13 "CurfewDesk" "orderAhead" "[I", Cond.fieldLink RX0 16 "CurfewDesk" "orderBehind" "[I", Cond.methodLink RX0 122 yX0_duskOf, Cond.instanceMethod yX0_duskOf, Cond.selects RX0 yX0_duskOf yX0_duskOf, Cond.code yX0_duskOf cX0_duskOf 2 (some .int), Cond.fieldLink RX0 86 "CurfewDesk" "duskShift" "I", Cond.methodLink RX0 184 yX0_tideOf, Cond.static yX0_tideOf, Cond.code yX0_tideOf cX0_tideOf 2 (some .int), Cond.methodLink RX0 125 yX0_dawnOf, Cond.static yX0_dawnOf, Cond.code yX0_dawnOf cX0_dawnOf 1 (some .int)]
def wsL_barredBy : List Cond := .codeWith yL_barredBy cL_barredBy 4 (some .int) [(0, 9, 12, 19)] :: ((wsL_barredBy_r1 ++ wsL_barredBy_r2) ++ wsX00 ++ (vx_atS RX0 194 "java/lang/IndexOutOfBoundsException" ["java/lang/RuntimeException", "java/lang/Exception"]).filter goodWord)
def wsL_tradeOf : List Cond := .codeWith yL_tradeOf cL_tradeOf 4 (some .int) [(0, 9, 12, 19)] :: ([.classLink RL 19 "java/lang/IndexOutOfBoundsException", .methodLink RL 76 yX0_tradeOf, .instanceMethod yX0_tradeOf, .selects RX0 yX0_tradeOf yX0_tradeOf, .initialized RX0, .code yX0_tradeOf cX0_tradeOf 2 (some .int), .fieldLink RX0 29 "CurfewDesk" "personTrade" "[I", .methodLink RX0 89 yX0_requirePerson, .instanceMethod yX0_requirePerson, .selects RX0 yX0_requirePerson yX0_requirePerson, .code yX0_requirePerson cX0_requirePerson 2 none, .classLink RX0 190 "java/lang/IndexOutOfBoundsException", .initialized "java/lang/IndexOutOfBoundsException", .fieldLink RX0 59 "CurfewDesk" "personCount" "I"] ++ wsX00 ++ (vx_atS RX0 194 "java/lang/IndexOutOfBoundsException" ["java/lang/RuntimeException", "java/lang/Exception"]).filter goodWord)
def wsL_stampsOf : List Cond := .codeWith yL_stampsOf cL_stampsOf 5 (some .int) [(0, 10, 13, 19)] :: ([.classLink RL 19 "java/lang/IndexOutOfBoundsException", .methodLink RL 79 yX0_stampsOf, .instanceMethod yX0_stampsOf, .selects RX0 yX0_stampsOf yX0_stampsOf, .initialized RX0, .code yX0_stampsOf cX0_stampsOf 3 (some .int), .fieldLink RX0 38 "CurfewDesk" "personStamps" "[I", .methodLink RX0 89 yX0_requirePerson, .instanceMethod yX0_requirePerson, .selects RX0 yX0_requirePerson yX0_requirePerson, .code yX0_requirePerson cX0_requirePerson 2 none, .classLink RX0 190 "java/lang/IndexOutOfBoundsException", .initialized "java/lang/IndexOutOfBoundsException", .fieldLink RX0 59 "CurfewDesk" "personCount" "I", .methodLink RX0 67 yX0_requireColour, .static yX0_requireColour, .code yX0_requireColour cX0_requireColour 1 none, .methodLink RX0 92 yX0_stampPlace, .static yX0_stampPlace, .code yX0_stampPlace cX0_stampPlace 2 (some .int)] ++ wsX00 ++ (vx_atS RX0 194 "java/lang/IndexOutOfBoundsException" ["java/lang/RuntimeException", "java/lang/Exception"]).filter goodWord)
def wsL_owes : List Cond := .codeWith yL_owes cL_owes 4 (some .int) [(0, 9, 12, 19)] :: ([.classLink RL 19 "java/lang/IndexOutOfBoundsException", .methodLink RL 82 yX0_owes, .instanceMethod yX0_owes, .selects RX0 yX0_owes yX0_owes, .initialized RX0, .code yX0_owes cX0_owes 2 (some .int), .fieldLink RX0 35 "CurfewDesk" "personOwes" "[I", .methodLink RX0 89 yX0_requirePerson, .instanceMethod yX0_requirePerson, .selects RX0 yX0_requirePerson yX0_requirePerson, .code yX0_requirePerson cX0_requirePerson 2 none, .classLink RX0 190 "java/lang/IndexOutOfBoundsException", .initialized "java/lang/IndexOutOfBoundsException", .fieldLink RX0 59 "CurfewDesk" "personCount" "I"] ++ wsX00 ++ (vx_atS RX0 194 "java/lang/IndexOutOfBoundsException" ["java/lang/RuntimeException", "java/lang/Exception"]).filter goodWord)
def wsL_timesFined : List Cond := .codeWith yL_timesFined cL_timesFined 4 (some .int) [(0, 9, 12, 19)] :: ([.classLink RL 19 "java/lang/IndexOutOfBoundsException", .methodLink RL 85 yX0_timesFined, .instanceMethod yX0_timesFined, .selects RX0 yX0_timesFined yX0_timesFined, .initialized RX0, .code yX0_timesFined cX0_timesFined 2 (some .int), .fieldLink RX0 32 "CurfewDesk" "personFined" "[I", .methodLink RX0 89 yX0_requirePerson, .instanceMethod yX0_requirePerson, .selects RX0 yX0_requirePerson yX0_requirePerson, .code yX0_requirePerson cX0_requirePerson 2 none, .classLink RX0 190 "java/lang/IndexOutOfBoundsException", .initialized "java/lang/IndexOutOfBoundsException", .fieldLink RX0 59 "CurfewDesk" "personCount" "I"] ++ wsX00 ++ (vx_atS RX0 194 "java/lang/IndexOutOfBoundsException" ["java/lang/RuntimeException", "java/lang/Exception"]).filter goodWord)
def wsL_ordersAgainst_r1 : List Cond := [Cond.classLink RL 19 "java/lang/IndexOutOfBoundsException", Cond.methodLink RL 88 yX0_ordersAgainst, Cond.instanceMethod yX0_ordersAgainst, Cond.selects RX0 yX0_ordersAgainst yX0_ordersAgainst, Cond.initialized RX0, Cond.code yX0_ordersAgainst cX0_ordersAgainst 5 (some .int), Cond.fieldLink RX0 74 "CurfewDesk" "orderCount" "I", Cond.fieldLink RX0 101 "CurfewDesk" "now" "I", Cond.methodLink RX0 89 yX0_requirePerson, Cond.instanceMethod yX0_requirePerson, Cond.selects RX0 yX0_requirePerson yX0_requirePerson, Cond.code yX0_requirePerson cX0_requirePerson 2 none, Cond.classLink RX0 190 "java/lang/IndexOutOfBoundsException", Cond.initialized "java/lang/IndexOutOfBoundsException", Cond.fieldLink RX0 59 "CurfewDesk" "personCount" "I", Cond.methodLink RX0 64 yX0_requireQuarter, Cond.instanceMethod yX0_requireQuarter, Cond.selects RX0 yX0_requireQuarter yX0_requireQuarter, Cond.code yX0_requireQuarter cX0_requireQuarter 2 none, Cond.fieldLink RX0 44 "CurfewDesk" "quarterCount" "I", Cond.methodLink RX0 104 yX0_bars, Cond.instanceMethod yX0_bars, Cond.selects RX0 yX0_bars yX0_bars, Cond.code yX0_bars cX0_bars 5 (some .boolean)]
def wsL_ordersAgainst_r2 : List Cond := [Cond.fieldLink RX0 9 "CurfewDesk" "orderQuarter" "[I", Cond.fieldLink RX0 29 "CurfewDesk" "personTrade" "[I", Cond.fieldLink RX0 22 "CurfewDesk" "orderInForce" "[Z", Cond.methodLink RX0 82 yX0_exempts, Cond.instanceMethod yX0_exempts, Cond.selects RX0 yX0_exempts yX0_exempts, Cond.code yX0_exempts cX0_exempts 3 (some .boolean), Cond.fieldLink RX0 26 "CurfewDesk" "orderExempt" "[I", Cond.methodLink RX0 139 yX0_isInHours, Cond.instanceMethod yX0_isInHours, Cond.selects RX0 yX0_isInHours yX0_isInHours, Cond.code yX0_isInHours cX0_isInHours 5 (some .boolean), Cond.fieldLink RX0 13 "CurfewDesk" "orderAhead" "[I", Cond.fieldLink RX0 16 "CurfewDesk" "orderBehind" "[I", Cond.methodLink RX0 122 yX0_duskOf, Cond.instanceMethod yX0_duskOf, Cond.selects RX0 yX0_duskOf yX0_duskOf, Cond.code yX0_duskOf cX0_duskOf 2 (some .int), Cond.fieldLink RX0 86 "CurfewDesk" "duskShift" "I", Cond.methodLink RX0 184 yX0_tideOf, Cond.static yX0_tideOf, Cond.code yX0_tideOf cX0_tideOf 2 (some .int), Cond.methodLink RX0 125 yX0_dawnOf, Cond.static yX0_dawnOf]
def wsL_ordersAgainst_r3 : List Cond := [Cond.code yX0_dawnOf cX0_dawnOf 1 (some .int)]
def wsL_ordersAgainst : List Cond := .codeWith yL_ordersAgainst cL_ordersAgainst 5 (some .int) [(0, 10, 13, 19)] :: ((wsL_ordersAgainst_r1 ++ (wsL_ordersAgainst_r2 ++ wsL_ordersAgainst_r3)) ++ wsX00 ++ (vx_atS RX0 194 "java/lang/IndexOutOfBoundsException" ["java/lang/RuntimeException", "java/lang/Exception"]).filter goodWord)
def wsL_mayGo_r1 : List Cond := [Cond.classLink RL 19 "java/lang/IndexOutOfBoundsException", Cond.methodLink RL 91 yX0_mayGo, Cond.instanceMethod yX0_mayGo, Cond.selects RX0 yX0_mayGo yX0_mayGo, Cond.initialized RX0, Cond.code yX0_mayGo cX0_mayGo 3 (some .boolean), Cond.methodLink RX0 89 yX0_requirePerson, Cond.instanceMethod yX0_requirePerson, Cond.selects RX0 yX0_requirePerson yX0_requirePerson, Cond.code yX0_requirePerson cX0_requirePerson 2 none, Cond.classLink RX0 190 "java/lang/IndexOutOfBoundsException", Cond.initialized "java/lang/IndexOutOfBoundsException", Cond.fieldLink RX0 59 "CurfewDesk" "personCount" "I", Cond.methodLink RX0 64 yX0_requireQuarter, Cond.instanceMethod yX0_requireQuarter, Cond.selects RX0 yX0_requireQuarter yX0_requireQuarter, Cond.code yX0_requireQuarter cX0_requireQuarter 2 none, Cond.fieldLink RX0 44 "CurfewDesk" "quarterCount" "I", Cond.methodLink RX0 131 yX0_missing, Cond.instanceMethod yX0_missing, Cond.selects RX0 yX0_missing yX0_missing, Cond.code yX0_missing cX0_missing 8 (some .int), Cond.fieldLink RX0 74 "CurfewDesk" "orderCount" "I", Cond.fieldLink RX0 19 "CurfewDesk" "orderColour" "[I"]
def wsL_mayGo_r2 : List Cond := [Cond.fieldLink RX0 101 "CurfewDesk" "now" "I", Cond.fieldLink RX0 38 "CurfewDesk" "personStamps" "[I", Cond.methodLink RX0 187 Lib.Math.max.name, Cond.static Lib.Math.max.name, Cond.initialized "java/lang/Math", Cond.code Lib.Math.max.name Lib.Math.max.code 2 (some .int), Cond.methodLink RX0 104 yX0_bars, Cond.instanceMethod yX0_bars, Cond.selects RX0 yX0_bars yX0_bars, Cond.code yX0_bars cX0_bars 5 (some .boolean), Cond.fieldLink RX0 9 "CurfewDesk" "orderQuarter" "[I", Cond.fieldLink RX0 29 "CurfewDesk" "personTrade" "[I", Cond.fieldLink RX0 22 "CurfewDesk" "orderInForce" "[Z", Cond.methodLink RX0 82 yX0_exempts, Cond.instanceMethod yX0_exempts, Cond.selects RX0 yX0_exempts yX0_exempts, Cond.code yX0_exempts cX0_exempts 3 (some .boolean), Cond.fieldLink RX0 26 "CurfewDesk" "orderExempt" "[I", Cond.methodLink RX0 139 yX0_isInHours, Cond.instanceMethod yX0_isInHours, Cond.selects RX0 yX0_isInHours yX0_isInHours, Cond.code yX0_isInHours cX0_isInHours 5 (some .boolean), Cond.fieldLink RX0 13 "CurfewDesk" "orderAhead" "[I", Cond.fieldLink RX0 16 "CurfewDesk" "orderBehind" "[I"]
def wsL_mayGo_r3 : List Cond := [Cond.methodLink RX0 122 yX0_duskOf, Cond.instanceMethod yX0_duskOf, Cond.selects RX0 yX0_duskOf yX0_duskOf, Cond.code yX0_duskOf cX0_duskOf 2 (some .int), Cond.fieldLink RX0 86 "CurfewDesk" "duskShift" "I", Cond.methodLink RX0 184 yX0_tideOf, Cond.static yX0_tideOf, Cond.code yX0_tideOf cX0_tideOf 2 (some .int), Cond.methodLink RX0 125 yX0_dawnOf, Cond.static yX0_dawnOf, Cond.code yX0_dawnOf cX0_dawnOf 1 (some .int), Cond.methodLink RX0 92 yX0_stampPlace, Cond.static yX0_stampPlace, Cond.code yX0_stampPlace cX0_stampPlace 2 (some .int)]
def wsL_mayGo : List Cond := .codeWith yL_mayGo cL_mayGo 5 (some .int) [(0, 17, 20, 19)] :: ((wsL_mayGo_r1 ++ (wsL_mayGo_r2 ++ wsL_mayGo_r3)) ++ wsX00 ++ (vx_atS RX0 194 "java/lang/IndexOutOfBoundsException" ["java/lang/RuntimeException", "java/lang/Exception"]).filter goodWord)
def wsL_stampsMissing_r1 : List Cond := [Cond.classLink RL 19 "java/lang/IndexOutOfBoundsException", Cond.methodLink RL 94 yX0_stampsMissing, Cond.instanceMethod yX0_stampsMissing, Cond.selects RX0 yX0_stampsMissing yX0_stampsMissing, Cond.initialized RX0, Cond.code yX0_stampsMissing cX0_stampsMissing 3 (some .int), Cond.methodLink RX0 89 yX0_requirePerson, Cond.instanceMethod yX0_requirePerson, Cond.selects RX0 yX0_requirePerson yX0_requirePerson, Cond.code yX0_requirePerson cX0_requirePerson 2 none, Cond.classLink RX0 190 "java/lang/IndexOutOfBoundsException", Cond.initialized "java/lang/IndexOutOfBoundsException", Cond.fieldLink RX0 59 "CurfewDesk" "personCount" "I", Cond.methodLink RX0 64 yX0_requireQuarter, Cond.instanceMethod yX0_requireQuarter, Cond.selects RX0 yX0_requireQuarter yX0_requireQuarter, Cond.code yX0_requireQuarter cX0_requireQuarter 2 none, Cond.fieldLink RX0 44 "CurfewDesk" "quarterCount" "I", Cond.methodLink RX0 131 yX0_missing, Cond.instanceMethod yX0_missing, Cond.selects RX0 yX0_missing yX0_missing, Cond.code yX0_missing cX0_missing 8 (some .int), Cond.fieldLink RX0 74 "CurfewDesk" "orderCount" "I", Cond.fieldLink RX0 19 "CurfewDesk" "orderColour" "[I"]
def wsL_stampsMissing_r2 : List Cond := [Cond.fieldLink RX0 101 "CurfewDesk" "now" "I", Cond.fieldLink RX0 38 "CurfewDesk" "personStamps" "[I", Cond.methodLink RX0 187 Lib.Math.max.name, Cond.static Lib.Math.max.name, Cond.initialized "java/lang/Math", Cond.code Lib.Math.max.name Lib.Math.max.code 2 (some .int), Cond.methodLink RX0 104 yX0_bars, Cond.instanceMethod yX0_bars, Cond.selects RX0 yX0_bars yX0_bars, Cond.code yX0_bars cX0_bars 5 (some .boolean), Cond.fieldLink RX0 9 "CurfewDesk" "orderQuarter" "[I", Cond.fieldLink RX0 29 "CurfewDesk" "personTrade" "[I", Cond.fieldLink RX0 22 "CurfewDesk" "orderInForce" "[Z", Cond.methodLink RX0 82 yX0_exempts, Cond.instanceMethod yX0_exempts, Cond.selects RX0 yX0_exempts yX0_exempts, Cond.code yX0_exempts cX0_exempts 3 (some .boolean), Cond.fieldLink RX0 26 "CurfewDesk" "orderExempt" "[I", Cond.methodLink RX0 139 yX0_isInHours, Cond.instanceMethod yX0_isInHours, Cond.selects RX0 yX0_isInHours yX0_isInHours, Cond.code yX0_isInHours cX0_isInHours 5 (some .boolean), Cond.fieldLink RX0 13 "CurfewDesk" "orderAhead" "[I", Cond.fieldLink RX0 16 "CurfewDesk" "orderBehind" "[I"]
def wsL_stampsMissing_r3 : List Cond := [Cond.methodLink RX0 122 yX0_duskOf, Cond.instanceMethod yX0_duskOf, Cond.selects RX0 yX0_duskOf yX0_duskOf, Cond.code yX0_duskOf cX0_duskOf 2 (some .int), Cond.fieldLink RX0 86 "CurfewDesk" "duskShift" "I", Cond.methodLink RX0 184 yX0_tideOf, Cond.static yX0_tideOf, Cond.code yX0_tideOf cX0_tideOf 2 (some .int), Cond.methodLink RX0 125 yX0_dawnOf, Cond.static yX0_dawnOf, Cond.code yX0_dawnOf cX0_dawnOf 1 (some .int), Cond.methodLink RX0 92 yX0_stampPlace, Cond.static yX0_stampPlace, Cond.code yX0_stampPlace cX0_stampPlace 2 (some .int)]
def wsL_stampsMissing : List Cond := .codeWith yL_stampsMissing cL_stampsMissing 5 (some .int) [(0, 10, 13, 19)] :: ((wsL_stampsMissing_r1 ++ (wsL_stampsMissing_r2 ++ wsL_stampsMissing_r3)) ++ wsX00 ++ (vx_atS RX0 194 "java/lang/IndexOutOfBoundsException" ["java/lang/RuntimeException", "java/lang/Exception"]).filter goodWord)
def wsL_stampsUsed : List Cond := .codeWith yL_stampsUsed cL_stampsUsed 4 (some .int) [(0, 9, 12, 19)] :: ([.classLink RL 19 "java/lang/IndexOutOfBoundsException", .methodLink RL 97 yX0_stampsUsed, .instanceMethod yX0_stampsUsed, .selects RX0 yX0_stampsUsed yX0_stampsUsed, .initialized RX0, .code yX0_stampsUsed cX0_stampsUsed 2 (some .int), .fieldLink RX0 41 "CurfewDesk" "usedStamps" "[I", .methodLink RX0 67 yX0_requireColour, .static yX0_requireColour, .code yX0_requireColour cX0_requireColour 1 none, .classLink RX0 190 "java/lang/IndexOutOfBoundsException", .initialized "java/lang/IndexOutOfBoundsException"] ++ wsX00 ++ (vx_atS RX0 194 "java/lang/IndexOutOfBoundsException" ["java/lang/RuntimeException", "java/lang/Exception"]).filter goodWord)
def wsL_halfHoursUntilFree_r1 : List Cond := [Cond.classLink RL 19 "java/lang/IndexOutOfBoundsException", Cond.methodLink RL 100 yX0_halfHoursUntilFree, Cond.instanceMethod yX0_halfHoursUntilFree, Cond.selects RX0 yX0_halfHoursUntilFree yX0_halfHoursUntilFree, Cond.initialized RX0, Cond.code yX0_halfHoursUntilFree cX0_halfHoursUntilFree 4 (some .int), Cond.fieldLink RX0 101 "CurfewDesk" "now" "I", Cond.methodLink RX0 89 yX0_requirePerson, Cond.instanceMethod yX0_requirePerson, Cond.selects RX0 yX0_requirePerson yX0_requirePerson, Cond.code yX0_requirePerson cX0_requirePerson 2 none, Cond.classLink RX0 190 "java/lang/IndexOutOfBoundsException", Cond.initialized "java/lang/IndexOutOfBoundsException", Cond.fieldLink RX0 59 "CurfewDesk" "personCount" "I", Cond.methodLink RX0 64 yX0_requireQuarter, Cond.instanceMethod yX0_requireQuarter, Cond.selects RX0 yX0_requireQuarter yX0_requireQuarter, Cond.code yX0_requireQuarter cX0_requireQuarter 2 none, Cond.fieldLink RX0 44 "CurfewDesk" "quarterCount" "I", Cond.methodLink RX0 135 yX0_isFreeAt, Cond.instanceMethod yX0_isFreeAt, Cond.selects RX0 yX0_isFreeAt yX0_isFreeAt, Cond.code yX0_isFreeAt cX0_isFreeAt 5 (some .boolean), Cond.fieldLink RX0 74 "CurfewDesk" "orderCount" "I"]
def wsL_halfHoursUntilFree_r2 : List Cond := [Cond.methodLink RX0 104 yX0_bars, Cond.instanceMethod yX0_bars, Cond.selects RX0 yX0_bars yX0_bars, Cond.code yX0_bars cX0_bars 5 (some .boolean), Cond.fieldLink RX0 9 "CurfewDesk" "orderQuarter" "[I", Cond.fieldLink RX0 29 "CurfewDesk" "personTrade" "[I", Cond.fieldLink RX0 22 "CurfewDesk" "orderInForce" "[Z", Cond.methodLink RX0 82 yX0_exempts, Cond.instanceMethod yX0_exempts, Cond.selects RX0 yX0_exempts yX0_exempts, Cond.code yX0_exempts cX0_exempts 3 (some .boolean), Cond.fieldLink RX0 26 "CurfewDesk" "orderExempt" "[I", Cond.methodLink RX0 139 yX0_isInHours, Cond.instanceMethod yX0_isInHours, Cond.selects RX0 yX0_isInHours yX0_isInHours, Cond.code yX0_isInHours cX0_isInHours 5 (some .boolean), Cond.fieldLink RX0 13 "CurfewDesk" "orderAhead" "[I", Cond.fieldLink RX0 16 "CurfewDesk" "orderBehind" "[I", Cond.methodLink RX0 122 yX0_duskOf, Cond.instanceMethod yX0_duskOf, Cond.selects RX0 yX0_duskOf yX0_duskOf, Cond.code yX0_duskOf cX0_duskOf 2 (some .int), Cond.fieldLink RX0 86 "CurfewDesk" "duskShift" "I", Cond.methodLink RX0 184 yX0_tideOf]
def wsL_halfHoursUntilFree_r3 : List Cond := [Cond.static yX0_tideOf, Cond.code yX0_tideOf cX0_tideOf 2 (some .int), Cond.methodLink RX0 125 yX0_dawnOf, Cond.static yX0_dawnOf, Cond.code yX0_dawnOf cX0_dawnOf 1 (some .int)]
def wsL_halfHoursUntilFree : List Cond := .codeWith yL_halfHoursUntilFree cL_halfHoursUntilFree 5 (some .int) [(0, 10, 13, 19)] :: ((wsL_halfHoursUntilFree_r1 ++ (wsL_halfHoursUntilFree_r2 ++ wsL_halfHoursUntilFree_r3)) ++ wsX00 ++ (vx_atS RX0 194 "java/lang/IndexOutOfBoundsException" ["java/lang/RuntimeException", "java/lang/Exception"]).filter goodWord)
def wsL_halfHoursOn_r1 : List Cond := [Cond.classLink RL 19 "java/lang/IndexOutOfBoundsException", Cond.methodLink RL 103 yX0_halfHoursOn, Cond.instanceMethod yX0_halfHoursOn, Cond.selects RX0 yX0_halfHoursOn yX0_halfHoursOn, Cond.initialized RX0, Cond.code yX0_halfHoursOn cX0_halfHoursOn 4 (some .int), Cond.fieldLink RX0 101 "CurfewDesk" "now" "I", Cond.methodLink RX0 79 yX0_requireOrder, Cond.instanceMethod yX0_requireOrder, Cond.selects RX0 yX0_requireOrder yX0_requireOrder, Cond.code yX0_requireOrder cX0_requireOrder 2 none, Cond.classLink RX0 190 "java/lang/IndexOutOfBoundsException", Cond.initialized "java/lang/IndexOutOfBoundsException", Cond.fieldLink RX0 74 "CurfewDesk" "orderCount" "I", Cond.methodLink RX0 139 yX0_isInHours, Cond.instanceMethod yX0_isInHours, Cond.selects RX0 yX0_isInHours yX0_isInHours, Cond.code yX0_isInHours cX0_isInHours 5 (some .boolean), Cond.fieldLink RX0 13 "CurfewDesk" "orderAhead" "[I", Cond.fieldLink RX0 16 "CurfewDesk" "orderBehind" "[I", Cond.methodLink RX0 122 yX0_duskOf, Cond.instanceMethod yX0_duskOf, Cond.selects RX0 yX0_duskOf yX0_duskOf, Cond.code yX0_duskOf cX0_duskOf 2 (some .int)]
def wsL_halfHoursOn_r2 : List Cond := [Cond.fieldLink RX0 86 "CurfewDesk" "duskShift" "I", Cond.methodLink RX0 184 yX0_tideOf, Cond.static yX0_tideOf, Cond.code yX0_tideOf cX0_tideOf 2 (some .int), Cond.methodLink RX0 125 yX0_dawnOf, Cond.static yX0_dawnOf, Cond.code yX0_dawnOf cX0_dawnOf 1 (some .int)]
def wsL_halfHoursOn : List Cond := .codeWith yL_halfHoursOn cL_halfHoursOn 4 (some .int) [(0, 9, 12, 19)] :: ((wsL_halfHoursOn_r1 ++ wsL_halfHoursOn_r2) ++ wsX00 ++ (vx_atS RX0 194 "java/lang/IndexOutOfBoundsException" ["java/lang/RuntimeException", "java/lang/Exception"]).filter goodWord)
def wsL_law0_r1 : List Cond := [Cond.classLink RL 8 RX0, Cond.instantiable RX0 16, Cond.initialized RX0, Cond.classLink RL 107 RX1, Cond.instantiable RX1 18, Cond.initialized RX1, Cond.arrayClass .long, Cond.methodLink RL 106 yX0_init, Cond.instanceMethod yX0_init, Cond.code yX0_init cX0_init 1 none, Cond.methodLink RX0 1 objectInit, Cond.instanceMethod objectInit, Cond.code objectInit ⟨#[0xb1]⟩ 1 none, Cond.arrayClass .int, Cond.fieldLink RX0 9 "CurfewDesk" "orderQuarter" "[I", Cond.fieldLink RX0 13 "CurfewDesk" "orderAhead" "[I", Cond.fieldLink RX0 16 "CurfewDesk" "orderBehind" "[I", Cond.fieldLink RX0 19 "CurfewDesk" "orderColour" "[I", Cond.arrayClass .boolean, Cond.fieldLink RX0 22 "CurfewDesk" "orderInForce" "[Z", Cond.fieldLink RX0 26 "CurfewDesk" "orderExempt" "[I", Cond.fieldLink RX0 29 "CurfewDesk" "personTrade" "[I", Cond.fieldLink RX0 32 "CurfewDesk" "personFined" "[I", Cond.fieldLink RX0 35 "CurfewDesk" "personOwes" "[I"]
def wsL_law0_r2 : List Cond := [Cond.fieldLink RX0 38 "CurfewDesk" "personStamps" "[I", Cond.fieldLink RX0 41 "CurfewDesk" "usedStamps" "[I", Cond.methodLink RL 109 yX1_init, Cond.instanceMethod yX1_init, Cond.code yX1_init cX1_init 1 none, Cond.methodLink RX1 1 objectInit, Cond.fieldLink RX1 9 "CurfewDeskModel" "quarter" "[I", Cond.fieldLink RX1 13 "CurfewDeskModel" "ahead" "[I", Cond.fieldLink RX1 16 "CurfewDeskModel" "behind" "[I", Cond.fieldLink RX1 19 "CurfewDeskModel" "colour" "[I", Cond.fieldLink RX1 22 "CurfewDeskModel" "exempt" "[I", Cond.fieldLink RX1 25 "CurfewDeskModel" "force" "[Z", Cond.fieldLink RX1 29 "CurfewDeskModel" "trade" "[I", Cond.fieldLink RX1 32 "CurfewDeskModel" "fined" "[I", Cond.fieldLink RX1 35 "CurfewDeskModel" "debt" "[I", Cond.fieldLink RX1 38 "CurfewDeskModel" "stamps" "[I", Cond.fieldLink RX1 41 "CurfewDeskModel" "used" "[I", Cond.fieldLink RX1 44 "CurfewDeskModel" "wanted" "[I", Cond.methodLink RL 110 yL_addQuarter, Cond.static yL_addQuarter, Cond.initialized RL, Cond.codeWith yL_addQuarter cL_addQuarter 3 (some .int) [(0, 8, 11, 13)], Cond.classLink RL 13 "java/lang/IllegalStateException", Cond.methodLink RL 7 yX0_addQuarter]
def wsL_law0_r3 : List Cond := [Cond.instanceMethod yX0_addQuarter, Cond.selects RX0 yX0_addQuarter yX0_addQuarter, Cond.code yX0_addQuarter cX0_addQuarter 2 (some .int), Cond.classLink RX0 48 "java/lang/IllegalStateException", Cond.initialized "java/lang/IllegalStateException", Cond.fieldLink RX0 44 "CurfewDesk" "quarterCount" "I", Cond.methodLink RL 115 yX1_addQuarter, Cond.instanceMethod yX1_addQuarter, Cond.selects RX1 yX1_addQuarter yX1_addQuarter, Cond.code yX1_addQuarter cX1_addQuarter 1 (some .int), Cond.fieldLink RX1 47 "CurfewDeskModel" "thrown" "I", Cond.fieldLink RX1 51 "CurfewDeskModel" "quarters" "I", Cond.methodLink RX1 88 yX1_fail, Cond.instanceMethod yX1_fail, Cond.selects RX1 yX1_fail yX1_fail, Cond.code yX1_fail cX1_fail 2 (some .int), Cond.methodLink RL 116 yX1_thrown, Cond.instanceMethod yX1_thrown, Cond.selects RX1 yX1_thrown yX1_thrown, Cond.code yX1_thrown cX1_thrown 1 (some .int), Cond.methodLink RL 119 yL_addPerson, Cond.static yL_addPerson, Cond.codeWith yL_addPerson cL_addPerson 4 (some .int) [(0, 9, 12, 19), (0, 9, 15, 13)], Cond.classLink RL 19 "java/lang/IndexOutOfBoundsException"]
def wsL_law0_r4 : List Cond := [Cond.methodLink RL 15 yX0_addPerson, Cond.instanceMethod yX0_addPerson, Cond.selects RX0 yX0_addPerson yX0_addPerson, Cond.code yX0_addPerson cX0_addPerson 3 (some .int), Cond.fieldLink RX0 59 "CurfewDesk" "personCount" "I", Cond.methodLink RX0 55 yX0_requireTrade, Cond.static yX0_requireTrade, Cond.code yX0_requireTrade cX0_requireTrade 1 none, Cond.classLink RX0 190 "java/lang/IndexOutOfBoundsException", Cond.initialized "java/lang/IndexOutOfBoundsException", Cond.methodLink RL 122 yX1_addPerson, Cond.instanceMethod yX1_addPerson, Cond.selects RX1 yX1_addPerson yX1_addPerson, Cond.code yX1_addPerson cX1_addPerson 2 (some .int), Cond.fieldLink RX1 61 "CurfewDeskModel" "people" "I", Cond.methodLink RX1 91 yX1_isTrade, Cond.static yX1_isTrade, Cond.code yX1_isTrade cX1_isTrade 1 (some .boolean), Cond.methodLink RX1 54 yX1_isIn, Cond.static yX1_isIn, Cond.code yX1_isIn cX1_isIn 3 (some .boolean), Cond.methodLink RL 123 yL_addOrder, Cond.static yL_addOrder, Cond.codeWith yL_addOrder cL_addOrder 7 (some .int) [(0, 14, 17, 19), (0, 14, 21, 25), (0, 14, 25, 13)]]
def wsL_law0_r5 : List Cond := [Cond.classLink RL 25 "java/lang/IllegalArgumentException", Cond.methodLink RL 21 yX0_addOrder, Cond.instanceMethod yX0_addOrder, Cond.selects RX0 yX0_addOrder yX0_addOrder, Cond.code yX0_addOrder cX0_addOrder 6 (some .int), Cond.fieldLink RX0 74 "CurfewDesk" "orderCount" "I", Cond.methodLink RX0 64 yX0_requireQuarter, Cond.instanceMethod yX0_requireQuarter, Cond.selects RX0 yX0_requireQuarter yX0_requireQuarter, Cond.code yX0_requireQuarter cX0_requireQuarter 2 none, Cond.methodLink RX0 67 yX0_requireColour, Cond.static yX0_requireColour, Cond.code yX0_requireColour cX0_requireColour 1 none, Cond.methodLink RX0 70 yX0_requireWithin, Cond.static yX0_requireWithin, Cond.code yX0_requireWithin cX0_requireWithin 3 none, Cond.classLink RX0 203 "java/lang/IllegalArgumentException", Cond.initialized "java/lang/IllegalArgumentException", Cond.methodLink RL 126 yX1_addOrder, Cond.instanceMethod yX1_addOrder, Cond.selects RX1 yX1_addOrder yX1_addOrder, Cond.code yX1_addOrder cX1_addOrder 5 (some .int), Cond.fieldLink RX1 58 "CurfewDeskModel" "orders" "I", Cond.methodLink RX1 95 yX1_isQuarter]
def wsL_law0_r6 : List Cond := [Cond.instanceMethod yX1_isQuarter, Cond.selects RX1 yX1_isQuarter yX1_isQuarter, Cond.code yX1_isQuarter cX1_isQuarter 2 (some .boolean), Cond.methodLink RX1 98 yX1_isColour, Cond.static yX1_isColour, Cond.code yX1_isColour cX1_isColour 1 (some .boolean), Cond.methodLink RL 127 yL_turnExempt, Cond.static yL_turnExempt, Cond.codeWith yL_turnExempt cL_turnExempt 5 (some .int) [(0, 17, 20, 19)], Cond.methodLink RL 27 yX0_turnExempt, Cond.instanceMethod yX0_turnExempt, Cond.selects RX0 yX0_turnExempt yX0_turnExempt, Cond.code yX0_turnExempt cX0_turnExempt 3 (some .boolean), Cond.methodLink RX0 79 yX0_requireOrder, Cond.instanceMethod yX0_requireOrder, Cond.selects RX0 yX0_requireOrder yX0_requireOrder, Cond.code yX0_requireOrder cX0_requireOrder 2 none, Cond.methodLink RX0 82 yX0_exempts, Cond.instanceMethod yX0_exempts, Cond.selects RX0 yX0_exempts yX0_exempts, Cond.code yX0_exempts cX0_exempts 3 (some .boolean), Cond.methodLink RL 130 yX1_turnExempt, Cond.instanceMethod yX1_turnExempt, Cond.selects RX1 yX1_turnExempt yX1_turnExempt]
def wsL_law0_r7 : List Cond := [Cond.code yX1_turnExempt cX1_turnExempt 3 (some .boolean), Cond.methodLink RX1 101 yX1_isOrder, Cond.instanceMethod yX1_isOrder, Cond.selects RX1 yX1_isOrder yX1_isOrder, Cond.code yX1_isOrder cX1_isOrder 2 (some .boolean), Cond.methodLink RX1 104 yX1_failed, Cond.instanceMethod yX1_failed, Cond.selects RX1 yX1_failed yX1_failed, Cond.code yX1_failed cX1_failed 2 (some .boolean), Cond.methodLink RL 131 yL_turnOrder, Cond.static yL_turnOrder, Cond.codeWith yL_turnOrder cL_turnOrder 4 (some .int) [(0, 16, 19, 19)], Cond.methodLink RL 31 yX0_turnOrder, Cond.instanceMethod yX0_turnOrder, Cond.selects RX0 yX0_turnOrder yX0_turnOrder, Cond.code yX0_turnOrder cX0_turnOrder 2 (some .boolean), Cond.methodLink RL 133 yX1_turnOrder, Cond.instanceMethod yX1_turnOrder, Cond.selects RX1 yX1_turnOrder yX1_turnOrder, Cond.code yX1_turnOrder cX1_turnOrder 2 (some .boolean), Cond.methodLink RL 134 yL_setShift, Cond.static yL_setShift, Cond.codeWith yL_setShift cL_setShift 4 (some .int) [(0, 9, 12, 25)], Cond.methodLink RL 35 yX0_setShift]
def wsL_law0_r8 : List Cond := [Cond.instanceMethod yX0_setShift, Cond.selects RX0 yX0_setShift yX0_setShift, Cond.code yX0_setShift cX0_setShift 3 (some .int), Cond.fieldLink RX0 86 "CurfewDesk" "duskShift" "I", Cond.methodLink RL 136 yX1_setShift, Cond.instanceMethod yX1_setShift, Cond.selects RX1 yX1_setShift yX1_setShift, Cond.code yX1_setShift cX1_setShift 3 (some .int), Cond.fieldLink RX1 68 "CurfewDeskModel" "shift" "I", Cond.methodLink RL 137 yL_givePass, Cond.static yL_givePass, Cond.codeWith yL_givePass cL_givePass 6 (some .int) [(0, 12, 15, 19), (0, 12, 19, 25)], Cond.methodLink RL 38 yX0_givePass, Cond.instanceMethod yX0_givePass, Cond.selects RX0 yX0_givePass yX0_givePass, Cond.code yX0_givePass cX0_givePass 5 (some .int), Cond.methodLink RX0 96 Lib.Math.min.name, Cond.static Lib.Math.min.name, Cond.initialized "java/lang/Math", Cond.code Lib.Math.min.name Lib.Math.min.code 2 (some .int), Cond.methodLink RX0 89 yX0_requirePerson, Cond.instanceMethod yX0_requirePerson, Cond.selects RX0 yX0_requirePerson yX0_requirePerson, Cond.code yX0_requirePerson cX0_requirePerson 2 none]
def wsL_law0_r9 : List Cond := [Cond.methodLink RX0 92 yX0_stampPlace, Cond.static yX0_stampPlace, Cond.code yX0_stampPlace cX0_stampPlace 2 (some .int), Cond.methodLink RL 140 yX1_givePass, Cond.instanceMethod yX1_givePass, Cond.selects RX1 yX1_givePass yX1_givePass, Cond.code yX1_givePass cX1_givePass 5 (some .int), Cond.methodLink RX1 113 Lib.Math.min.name, Cond.methodLink RX1 110 yX1_isPass, Cond.instanceMethod yX1_isPass, Cond.selects RX1 yX1_isPass yX1_isPass, Cond.code yX1_isPass cX1_isPass 3 (some .boolean), Cond.methodLink RX1 107 yX1_isPerson, Cond.instanceMethod yX1_isPerson, Cond.selects RX1 yX1_isPerson yX1_isPerson, Cond.code yX1_isPerson cX1_isPerson 2 (some .boolean), Cond.methodLink RL 141 yL_takePass, Cond.static yL_takePass, Cond.codeWith yL_takePass cL_takePass 5 (some .int) [(0, 10, 13, 19)], Cond.methodLink RL 42 yX0_takePass, Cond.instanceMethod yX0_takePass, Cond.selects RX0 yX0_takePass yX0_takePass, Cond.code yX0_takePass cX0_takePass 5 (some .int), Cond.methodLink RL 143 yX1_takePass]
def wsL_law0_r10 : List Cond := [Cond.instanceMethod yX1_takePass, Cond.selects RX1 yX1_takePass yX1_takePass, Cond.code yX1_takePass cX1_takePass 4 (some .int), Cond.methodLink RL 144 yL_goOut, Cond.static yL_goOut, Cond.codeWith yL_goOut cL_goOut 5 (some .int) [(0, 10, 13, 19)], Cond.methodLink RL 46 yX0_goOut, Cond.instanceMethod yX0_goOut, Cond.selects RX0 yX0_goOut yX0_goOut, Cond.code yX0_goOut cX0_goOut 5 (some .int), Cond.fieldLink RX0 101 "CurfewDesk" "now" "I", Cond.methodLink RX0 104 yX0_bars, Cond.instanceMethod yX0_bars, Cond.selects RX0 yX0_bars yX0_bars, Cond.code yX0_bars cX0_bars 5 (some .boolean), Cond.methodLink RX0 139 yX0_isInHours, Cond.instanceMethod yX0_isInHours, Cond.selects RX0 yX0_isInHours yX0_isInHours, Cond.code yX0_isInHours cX0_isInHours 5 (some .boolean), Cond.methodLink RX0 122 yX0_duskOf, Cond.instanceMethod yX0_duskOf, Cond.selects RX0 yX0_duskOf yX0_duskOf, Cond.code yX0_duskOf cX0_duskOf 2 (some .int), Cond.methodLink RX0 184 yX0_tideOf]
def wsL_law0_r11 : List Cond := [Cond.static yX0_tideOf, Cond.code yX0_tideOf cX0_tideOf 2 (some .int), Cond.methodLink RX0 125 yX0_dawnOf, Cond.static yX0_dawnOf, Cond.code yX0_dawnOf cX0_dawnOf 1 (some .int), Cond.methodLink RX0 108 yX0_useStamp, Cond.instanceMethod yX0_useStamp, Cond.selects RX0 yX0_useStamp yX0_useStamp, Cond.code yX0_useStamp cX0_useStamp 4 (some .boolean), Cond.methodLink RX0 111 yX0_fineOnce, Cond.instanceMethod yX0_fineOnce, Cond.selects RX0 yX0_fineOnce yX0_fineOnce, Cond.code yX0_fineOnce cX0_fineOnce 3 (some .int), Cond.methodLink RL 146 yX1_goOut, Cond.instanceMethod yX1_goOut, Cond.selects RX1 yX1_goOut yX1_goOut, Cond.code yX1_goOut cX1_goOut 6 (some .int), Cond.fieldLink RX1 122 "CurfewDeskModel" "time" "I", Cond.methodLink RX1 119 yX1_isPair, Cond.instanceMethod yX1_isPair, Cond.selects RX1 yX1_isPair yX1_isPair, Cond.code yX1_isPair cX1_isPair 3 (some .boolean), Cond.methodLink RX1 84 yX1_barsAt, Cond.instanceMethod yX1_barsAt]
def wsL_law0_r12 : List Cond := [Cond.selects RX1 yX1_barsAt yX1_barsAt, Cond.code yX1_barsAt cX1_barsAt 5 (some .boolean), Cond.methodLink RX1 81 yX1_onAt, Cond.instanceMethod yX1_onAt, Cond.selects RX1 yX1_onAt yX1_onAt, Cond.code yX1_onAt cX1_onAt 3 (some .boolean), Cond.methodLink RX1 77 yX1_isAt, Cond.instanceMethod yX1_isAt, Cond.selects RX1 yX1_isAt yX1_isAt, Cond.code yX1_isAt cX1_isAt 5 (some .boolean), Cond.methodLink RX1 71 yX1_dusk, Cond.instanceMethod yX1_dusk, Cond.selects RX1 yX1_dusk yX1_dusk, Cond.code yX1_dusk cX1_dusk 2 (some .int), Cond.methodLink RX1 64 yX1_tide, Cond.static yX1_tide, Cond.code yX1_tide cX1_tide 2 (some .int), Cond.methodLink RX1 74 yX1_dawn, Cond.static yX1_dawn, Cond.code yX1_dawn cX1_dawn 1 (some .int), Cond.methodLink RL 147 yL_pass, Cond.static yL_pass, Cond.codeWith yL_pass cL_pass 4 (some .int) [(0, 9, 12, 25)], Cond.methodLink RL 49 yX0_pass]
def wsL_law0_r13 : List Cond := [Cond.instanceMethod yX0_pass, Cond.selects RX0 yX0_pass yX0_pass, Cond.code yX0_pass cX0_pass 4 (some .int), Cond.methodLink RX0 115 yX0_timesBegun, Cond.instanceMethod yX0_timesBegun, Cond.selects RX0 yX0_timesBegun yX0_timesBegun, Cond.code yX0_timesBegun cX0_timesBegun 7 (some .int), Cond.methodLink RX0 128 yX0_isOnAt, Cond.instanceMethod yX0_isOnAt, Cond.selects RX0 yX0_isOnAt yX0_isOnAt, Cond.code yX0_isOnAt cX0_isOnAt 3 (some .boolean), Cond.methodLink RL 149 yX1_pass, Cond.instanceMethod yX1_pass, Cond.selects RX1 yX1_pass yX1_pass, Cond.code yX1_pass cX1_pass 5 (some .int), Cond.methodLink RL 150 yX0_day, Cond.instanceMethod yX0_day, Cond.selects RX0 yX0_day yX0_day, Cond.code yX0_day cX0_day 1 (some .int), Cond.methodLink RL 153 yX1_day, Cond.instanceMethod yX1_day, Cond.selects RX1 yX1_day yX1_day, Cond.code yX1_day cX1_day 1 (some .int), Cond.methodLink RL 154 yX0_halfHour]
def wsL_law0_r14 : List Cond := [Cond.instanceMethod yX0_halfHour, Cond.selects RX0 yX0_halfHour yX0_halfHour, Cond.code yX0_halfHour cX0_halfHour 1 (some .int), Cond.methodLink RL 157 yX1_halfHour, Cond.instanceMethod yX1_halfHour, Cond.selects RX1 yX1_halfHour yX1_halfHour, Cond.code yX1_halfHour cX1_halfHour 1 (some .int), Cond.methodLink RL 158 yL_duskIn, Cond.static yL_duskIn, Cond.codeWith yL_duskIn cL_duskIn 4 (some .int) [(0, 9, 12, 25)], Cond.methodLink RL 52 yX0_duskIn, Cond.instanceMethod yX0_duskIn, Cond.selects RX0 yX0_duskIn yX0_duskIn, Cond.code yX0_duskIn cX0_duskIn 2 (some .int), Cond.methodLink RX0 118 yX0_day, Cond.methodLink RL 160 yX1_duskIn, Cond.instanceMethod yX1_duskIn, Cond.selects RX1 yX1_duskIn yX1_duskIn, Cond.code yX1_duskIn cX1_duskIn 2 (some .int), Cond.methodLink RL 161 yL_dawnIn, Cond.static yL_dawnIn, Cond.codeWith yL_dawnIn cL_dawnIn 4 (some .int) [(0, 9, 12, 25)], Cond.methodLink RL 55 yX0_dawnIn, Cond.instanceMethod yX0_dawnIn]
def wsL_law0_r15 : List Cond := [Cond.selects RX0 yX0_dawnIn yX0_dawnIn, Cond.code yX0_dawnIn cX0_dawnIn 2 (some .int), Cond.methodLink RL 163 yX1_dawnIn, Cond.instanceMethod yX1_dawnIn, Cond.selects RX1 yX1_dawnIn yX1_dawnIn, Cond.code yX1_dawnIn cX1_dawnIn 2 (some .int), Cond.methodLink RL 164 yL_quarterOf, Cond.static yL_quarterOf, Cond.codeWith yL_quarterOf cL_quarterOf 4 (some .int) [(0, 9, 12, 19)], Cond.methodLink RL 58 yX0_quarterOf, Cond.instanceMethod yX0_quarterOf, Cond.selects RX0 yX0_quarterOf yX0_quarterOf, Cond.code yX0_quarterOf cX0_quarterOf 2 (some .int), Cond.methodLink RL 166 yX1_quarterOf, Cond.instanceMethod yX1_quarterOf, Cond.selects RX1 yX1_quarterOf yX1_quarterOf, Cond.code yX1_quarterOf cX1_quarterOf 2 (some .int), Cond.methodLink RL 167 yL_colourOf, Cond.static yL_colourOf, Cond.codeWith yL_colourOf cL_colourOf 4 (some .int) [(0, 9, 12, 19)], Cond.methodLink RL 61 yX0_colourOf, Cond.instanceMethod yX0_colourOf, Cond.selects RX0 yX0_colourOf yX0_colourOf, Cond.code yX0_colourOf cX0_colourOf 2 (some .int)]
def wsL_law0_r16 : List Cond := [Cond.methodLink RL 169 yX1_colourOf, Cond.instanceMethod yX1_colourOf, Cond.selects RX1 yX1_colourOf yX1_colourOf, Cond.code yX1_colourOf cX1_colourOf 2 (some .int), Cond.methodLink RL 170 yL_isInForce, Cond.static yL_isInForce, Cond.codeWith yL_isInForce cL_isInForce 4 (some .int) [(0, 16, 19, 19)], Cond.methodLink RL 64 yX0_isInForce, Cond.instanceMethod yX0_isInForce, Cond.selects RX0 yX0_isInForce yX0_isInForce, Cond.code yX0_isInForce cX0_isInForce 2 (some .boolean), Cond.methodLink RL 172 yX1_isInForce, Cond.instanceMethod yX1_isInForce, Cond.selects RX1 yX1_isInForce yX1_isInForce, Cond.code yX1_isInForce cX1_isInForce 2 (some .boolean), Cond.methodLink RL 173 yL_isOn, Cond.static yL_isOn, Cond.codeWith yL_isOn cL_isOn 4 (some .int) [(0, 16, 19, 19)], Cond.methodLink RL 67 yX0_isOn, Cond.instanceMethod yX0_isOn, Cond.selects RX0 yX0_isOn yX0_isOn, Cond.code yX0_isOn cX0_isOn 2 (some .boolean), Cond.methodLink RL 175 yX1_isOn, Cond.instanceMethod yX1_isOn]
def wsL_law0_r17 : List Cond := [Cond.selects RX1 yX1_isOn yX1_isOn, Cond.code yX1_isOn cX1_isOn 2 (some .boolean), Cond.methodLink RL 176 yL_isExempt, Cond.static yL_isExempt, Cond.codeWith yL_isExempt cL_isExempt 5 (some .int) [(0, 17, 20, 19)], Cond.methodLink RL 70 yX0_isExempt, Cond.instanceMethod yX0_isExempt, Cond.selects RX0 yX0_isExempt yX0_isExempt, Cond.code yX0_isExempt cX0_isExempt 3 (some .boolean), Cond.methodLink RL 178 yX1_isExempt, Cond.instanceMethod yX1_isExempt, Cond.selects RX1 yX1_isExempt yX1_isExempt, Cond.code yX1_isExempt cX1_isExempt 3 (some .boolean), Cond.methodLink RL 179 yL_barredBy, Cond.static yL_barredBy, Cond.codeWith yL_barredBy cL_barredBy 4 (some .int) [(0, 9, 12, 19)], Cond.methodLink RL 73 yX0_barredBy, Cond.instanceMethod yX0_barredBy, Cond.selects RX0 yX0_barredBy yX0_barredBy, Cond.code yX0_barredBy cX0_barredBy 4 (some .int), Cond.methodLink RL 181 yX1_barredBy, Cond.instanceMethod yX1_barredBy, Cond.selects RX1 yX1_barredBy yX1_barredBy, Cond.code yX1_barredBy cX1_barredBy 2 (some .int)]
def wsL_law0_r18 : List Cond := [Cond.methodLink RX1 125 yX1_barred, Cond.instanceMethod yX1_barred, Cond.selects RX1 yX1_barred yX1_barred, Cond.code yX1_barred cX1_barred 4 (some .int), Cond.methodLink RL 182 yL_tradeOf, Cond.static yL_tradeOf, Cond.codeWith yL_tradeOf cL_tradeOf 4 (some .int) [(0, 9, 12, 19)], Cond.methodLink RL 76 yX0_tradeOf, Cond.instanceMethod yX0_tradeOf, Cond.selects RX0 yX0_tradeOf yX0_tradeOf, Cond.code yX0_tradeOf cX0_tradeOf 2 (some .int), Cond.methodLink RL 184 yX1_tradeOf, Cond.instanceMethod yX1_tradeOf, Cond.selects RX1 yX1_tradeOf yX1_tradeOf, Cond.code yX1_tradeOf cX1_tradeOf 2 (some .int), Cond.methodLink RL 185 yL_stampsOf, Cond.static yL_stampsOf, Cond.codeWith yL_stampsOf cL_stampsOf 5 (some .int) [(0, 10, 13, 19)], Cond.methodLink RL 79 yX0_stampsOf, Cond.instanceMethod yX0_stampsOf, Cond.selects RX0 yX0_stampsOf yX0_stampsOf, Cond.code yX0_stampsOf cX0_stampsOf 3 (some .int), Cond.methodLink RL 187 yX1_stampsOf, Cond.instanceMethod yX1_stampsOf]
def wsL_law0_r19 : List Cond := [Cond.selects RX1 yX1_stampsOf yX1_stampsOf, Cond.code yX1_stampsOf cX1_stampsOf 3 (some .int), Cond.methodLink RL 188 yL_owes, Cond.static yL_owes, Cond.codeWith yL_owes cL_owes 4 (some .int) [(0, 9, 12, 19)], Cond.methodLink RL 82 yX0_owes, Cond.instanceMethod yX0_owes, Cond.selects RX0 yX0_owes yX0_owes, Cond.code yX0_owes cX0_owes 2 (some .int), Cond.methodLink RL 190 yX1_owes, Cond.instanceMethod yX1_owes, Cond.selects RX1 yX1_owes yX1_owes, Cond.code yX1_owes cX1_owes 2 (some .int), Cond.methodLink RL 191 yL_timesFined, Cond.static yL_timesFined, Cond.codeWith yL_timesFined cL_timesFined 4 (some .int) [(0, 9, 12, 19)], Cond.methodLink RL 85 yX0_timesFined, Cond.instanceMethod yX0_timesFined, Cond.selects RX0 yX0_timesFined yX0_timesFined, Cond.code yX0_timesFined cX0_timesFined 2 (some .int), Cond.methodLink RL 193 yX1_timesFined, Cond.instanceMethod yX1_timesFined, Cond.selects RX1 yX1_timesFined yX1_timesFined, Cond.code yX1_timesFined cX1_timesFined 2 (some .int)]
def wsL_law0_r20 : List Cond := [Cond.methodLink RL 194 yL_ordersAgainst, Cond.static yL_ordersAgainst, Cond.codeWith yL_ordersAgainst cL_ordersAgainst 5 (some .int) [(0, 10, 13, 19)], Cond.methodLink RL 88 yX0_ordersAgainst, Cond.instanceMethod yX0_ordersAgainst, Cond.selects RX0 yX0_ordersAgainst yX0_ordersAgainst, Cond.code yX0_ordersAgainst cX0_ordersAgainst 5 (some .int), Cond.methodLink RL 196 yX1_ordersAgainst, Cond.instanceMethod yX1_ordersAgainst, Cond.selects RX1 yX1_ordersAgainst yX1_ordersAgainst, Cond.code yX1_ordersAgainst cX1_ordersAgainst 3 (some .int), Cond.methodLink RX1 128 yX1_against, Cond.instanceMethod yX1_against, Cond.selects RX1 yX1_against yX1_against, Cond.code yX1_against cX1_against 6 (some .int), Cond.methodLink RL 197 yL_mayGo, Cond.static yL_mayGo, Cond.codeWith yL_mayGo cL_mayGo 5 (some .int) [(0, 17, 20, 19)], Cond.methodLink RL 91 yX0_mayGo, Cond.instanceMethod yX0_mayGo, Cond.selects RX0 yX0_mayGo yX0_mayGo, Cond.code yX0_mayGo cX0_mayGo 3 (some .boolean), Cond.methodLink RX0 131 yX0_missing, Cond.instanceMethod yX0_missing]
def wsL_law0_r21 : List Cond := [Cond.selects RX0 yX0_missing yX0_missing, Cond.code yX0_missing cX0_missing 8 (some .int), Cond.methodLink RX0 187 Lib.Math.max.name, Cond.static Lib.Math.max.name, Cond.code Lib.Math.max.name Lib.Math.max.code 2 (some .int), Cond.methodLink RL 199 yX1_mayGo, Cond.instanceMethod yX1_mayGo, Cond.selects RX1 yX1_mayGo yX1_mayGo, Cond.code yX1_mayGo cX1_mayGo 3 (some .boolean), Cond.methodLink RX1 135 yX1_missing, Cond.instanceMethod yX1_missing, Cond.selects RX1 yX1_missing yX1_missing, Cond.code yX1_missing cX1_missing 5 (some .int), Cond.methodLink RX1 132 Lib.Math.max.name, Cond.methodLink RL 200 yL_stampsMissing, Cond.static yL_stampsMissing, Cond.codeWith yL_stampsMissing cL_stampsMissing 5 (some .int) [(0, 10, 13, 19)], Cond.methodLink RL 94 yX0_stampsMissing, Cond.instanceMethod yX0_stampsMissing, Cond.selects RX0 yX0_stampsMissing yX0_stampsMissing, Cond.code yX0_stampsMissing cX0_stampsMissing 3 (some .int), Cond.methodLink RL 202 yX1_stampsMissing, Cond.instanceMethod yX1_stampsMissing, Cond.selects RX1 yX1_stampsMissing yX1_stampsMissing]
def wsL_law0_r22 : List Cond := [Cond.code yX1_stampsMissing cX1_stampsMissing 3 (some .int), Cond.methodLink RL 203 yX0_quarters, Cond.instanceMethod yX0_quarters, Cond.selects RX0 yX0_quarters yX0_quarters, Cond.code yX0_quarters cX0_quarters 1 (some .int), Cond.methodLink RL 206 yX1_quarters, Cond.instanceMethod yX1_quarters, Cond.selects RX1 yX1_quarters yX1_quarters, Cond.code yX1_quarters cX1_quarters 1 (some .int), Cond.methodLink RL 207 yX0_orders, Cond.instanceMethod yX0_orders, Cond.selects RX0 yX0_orders yX0_orders, Cond.code yX0_orders cX0_orders 1 (some .int), Cond.methodLink RL 210 yX1_orders, Cond.instanceMethod yX1_orders, Cond.selects RX1 yX1_orders yX1_orders, Cond.code yX1_orders cX1_orders 1 (some .int), Cond.methodLink RL 211 yX0_people, Cond.instanceMethod yX0_people, Cond.selects RX0 yX0_people yX0_people, Cond.code yX0_people cX0_people 1 (some .int), Cond.methodLink RL 214 yX1_people, Cond.instanceMethod yX1_people, Cond.selects RX1 yX1_people yX1_people]
def wsL_law0_r23 : List Cond := [Cond.code yX1_people cX1_people 1 (some .int), Cond.methodLink RL 215 yX0_ordersOn, Cond.instanceMethod yX0_ordersOn, Cond.selects RX0 yX0_ordersOn yX0_ordersOn, Cond.code yX0_ordersOn cX0_ordersOn 3 (some .int), Cond.methodLink RL 218 yX1_ordersOn, Cond.instanceMethod yX1_ordersOn, Cond.selects RX1 yX1_ordersOn yX1_ordersOn, Cond.code yX1_ordersOn cX1_ordersOn 1 (some .int), Cond.methodLink RX1 138 yX1_manyOn, Cond.instanceMethod yX1_manyOn, Cond.selects RX1 yX1_manyOn yX1_manyOn, Cond.code yX1_manyOn cX1_manyOn 3 (some .int), Cond.methodLink RL 219 yX0_shift, Cond.instanceMethod yX0_shift, Cond.selects RX0 yX0_shift yX0_shift, Cond.code yX0_shift cX0_shift 1 (some .int), Cond.methodLink RL 222 yX1_shift, Cond.instanceMethod yX1_shift, Cond.selects RX1 yX1_shift yX1_shift, Cond.code yX1_shift cX1_shift 1 (some .int), Cond.methodLink RL 223 yX0_allOwe, Cond.instanceMethod yX0_allOwe, Cond.selects RX0 yX0_allOwe yX0_allOwe]
def wsL_law0_r24 : List Cond := [Cond.code yX0_allOwe cX0_allOwe 3 (some .int), Cond.methodLink RL 226 yX1_allOwe, Cond.instanceMethod yX1_allOwe, Cond.selects RX1 yX1_allOwe yX1_allOwe, Cond.code yX1_allOwe cX1_allOwe 1 (some .int), Cond.methodLink RX1 142 yX1_all, Cond.instanceMethod yX1_all, Cond.selects RX1 yX1_all yX1_all, Cond.code yX1_all cX1_all 3 (some .int), Cond.methodLink RL 227 yL_stampsUsed, Cond.static yL_stampsUsed, Cond.codeWith yL_stampsUsed cL_stampsUsed 4 (some .int) [(0, 9, 12, 19)], Cond.methodLink RL 97 yX0_stampsUsed, Cond.instanceMethod yX0_stampsUsed, Cond.selects RX0 yX0_stampsUsed yX0_stampsUsed, Cond.code yX0_stampsUsed cX0_stampsUsed 2 (some .int), Cond.methodLink RL 229 yX1_stampsUsed, Cond.instanceMethod yX1_stampsUsed, Cond.selects RX1 yX1_stampsUsed yX1_stampsUsed, Cond.code yX1_stampsUsed cX1_stampsUsed 2 (some .int), Cond.methodLink RL 230 yL_halfHoursUntilFree, Cond.static yL_halfHoursUntilFree, Cond.codeWith yL_halfHoursUntilFree cL_halfHoursUntilFree 5 (some .int) [(0, 10, 13, 19)], Cond.methodLink RL 100 yX0_halfHoursUntilFree]
def wsL_law0_r25 : List Cond := [Cond.instanceMethod yX0_halfHoursUntilFree, Cond.selects RX0 yX0_halfHoursUntilFree yX0_halfHoursUntilFree, Cond.code yX0_halfHoursUntilFree cX0_halfHoursUntilFree 4 (some .int), Cond.methodLink RX0 135 yX0_isFreeAt, Cond.instanceMethod yX0_isFreeAt, Cond.selects RX0 yX0_isFreeAt yX0_isFreeAt, Cond.code yX0_isFreeAt cX0_isFreeAt 5 (some .boolean), Cond.methodLink RL 232 yX1_halfHoursUntilFree, Cond.instanceMethod yX1_halfHoursUntilFree, Cond.selects RX1 yX1_halfHoursUntilFree yX1_halfHoursUntilFree, Cond.code yX1_halfHoursUntilFree cX1_halfHoursUntilFree 4 (some .int), Cond.methodLink RL 233 yL_halfHoursOn, Cond.static yL_halfHoursOn, Cond.codeWith yL_halfHoursOn cL_halfHoursOn 4 (some .int) [(0, 9, 12, 19)], Cond.methodLink RL 103 yX0_halfHoursOn, Cond.instanceMethod yX0_halfHoursOn, Cond.selects RX0 yX0_halfHoursOn yX0_halfHoursOn, Cond.code yX0_halfHoursOn cX0_halfHoursOn 4 (some .int), Cond.methodLink RL 235 yX1_halfHoursOn, Cond.instanceMethod yX1_halfHoursOn, Cond.selects RX1 yX1_halfHoursOn yX1_halfHoursOn, Cond.code yX1_halfHoursOn cX1_halfHoursOn 4 (some .int), Cond.methodLink RL 236 yX0_bestLift, Cond.instanceMethod yX0_bestLift]
def wsL_law0_r26 : List Cond := [Cond.selects RX0 yX0_bestLift yX0_bestLift, Cond.code yX0_bestLift cX0_bestLift 5 (some .int), Cond.methodLink RX0 142 yX0_pairsFreedBy, Cond.instanceMethod yX0_pairsFreedBy, Cond.selects RX0 yX0_pairsFreedBy yX0_pairsFreedBy, Cond.code yX0_pairsFreedBy cX0_pairsFreedBy 5 (some .int), Cond.methodLink RL 239 yX1_bestLift, Cond.instanceMethod yX1_bestLift, Cond.selects RX1 yX1_bestLift yX1_bestLift, Cond.code yX1_bestLift cX1_bestLift 5 (some .int), Cond.methodLink RX1 145 yX1_pairs, Cond.instanceMethod yX1_pairs, Cond.selects RX1 yX1_pairs yX1_pairs, Cond.code yX1_pairs cX1_pairs 4 (some .int), Cond.methodLink RL 240 yX0_meanDebt, Cond.instanceMethod yX0_meanDebt, Cond.selects RX0 yX0_meanDebt yX0_meanDebt, Cond.code yX0_meanDebt cX0_meanDebt 1 (some .double), Cond.methodLink RX0 145 yX0_allOwe, Cond.methodLink RL 244 yX1_meanDebt, Cond.instanceMethod yX1_meanDebt, Cond.selects RX1 yX1_meanDebt yX1_meanDebt, Cond.code yX1_meanDebt cX1_meanDebt 1 (some .double), Cond.methodLink RL 245 yX0_digest]
def wsL_law0_r27 : List Cond := [Cond.instanceMethod yX0_digest, Cond.selects RX0 yX0_digest yX0_digest, Cond.code yX0_digest cX0_digest 4 (some .long), Cond.constantLong RX0 148 (1879), Cond.methodLink RX0 150 yX0_fold, Cond.static yX0_fold, Cond.code yX0_fold cX0_fold 3 (some .long), Cond.constantLong RX0 182 (31), Cond.methodLink RX0 154 yX0_halfHour, Cond.methodLink RX0 157 yX0_duskIn, Cond.methodLink RX0 160 yX0_dawnIn, Cond.methodLink RX0 163 yX0_ordersOn, Cond.methodLink RX0 166 yX0_foldOrder, Cond.instanceMethod yX0_foldOrder, Cond.selects RX0 yX0_foldOrder yX0_foldOrder, Cond.code yX0_foldOrder cX0_foldOrder 7 (some .long), Cond.methodLink RX0 172 yX0_oneIf, Cond.static yX0_oneIf, Cond.code yX0_oneIf cX0_oneIf 1 (some .int), Cond.methodLink RX0 176 yX0_barredBy, Cond.methodLink RX0 169 yX0_foldPerson, Cond.instanceMethod yX0_foldPerson, Cond.selects RX0 yX0_foldPerson yX0_foldPerson, Cond.code yX0_foldPerson cX0_foldPerson 7 (some .long)]
def wsL_law0_r28 : List Cond := [Cond.methodLink RX0 179 yX0_ordersAgainst, Cond.methodLink RL 249 yX1_digest, Cond.instanceMethod yX1_digest, Cond.selects RX1 yX1_digest yX1_digest, Cond.code yX1_digest cX1_digest 9 (some .long), Cond.constantLong RX1 148 (1879), Cond.constantLong RX1 150 (31)]
def wsL_law0 : List Cond := (wsL_law0_r1 ++ (wsL_law0_r2 ++ (wsL_law0_r3 ++ (wsL_law0_r4 ++ (wsL_law0_r5 ++ (wsL_law0_r6 ++ (wsL_law0_r7 ++ (wsL_law0_r8 ++ (wsL_law0_r9 ++ (wsL_law0_r10 ++ (wsL_law0_r11 ++ (wsL_law0_r12 ++ (wsL_law0_r13 ++ (wsL_law0_r14 ++ (wsL_law0_r15 ++ (wsL_law0_r16 ++ (wsL_law0_r17 ++ (wsL_law0_r18 ++ (wsL_law0_r19 ++ (wsL_law0_r20 ++ (wsL_law0_r21 ++ (wsL_law0_r22 ++ (wsL_law0_r23 ++ (wsL_law0_r24 ++ (wsL_law0_r25 ++ (wsL_law0_r26 ++ (wsL_law0_r27 ++ wsL_law0_r28))))))))))))))))))))))))))) ++ wsX00 ++ wsX10 ++ ([] : List Cond)
def wsL_law : List Cond := wsL_law0 ++ (vx_atS RX0 52 "java/lang/IllegalStateException" ["java/lang/RuntimeException", "java/lang/Exception"]).filter goodWord ++ (vx_atS RX0 194 "java/lang/IndexOutOfBoundsException" ["java/lang/RuntimeException", "java/lang/Exception"]).filter goodWord ++ (vx_atS RX0 207 "java/lang/IllegalArgumentException" ["java/lang/RuntimeException", "java/lang/Exception"]).filter goodWord
abbrev vwCl : List vw_C := [(RX0, TX0, 16), (RX1, TX1, 18)]
end
section
theorem dX0_init_0 : decode cX0_init 0 = .ok (.aload_n 0, 1) := by decide +kernel
theorem dX0_init_1 : decode cX0_init 1 = .ok (.invokespecial 1, 3) := by decide +kernel
theorem dX0_init_4 : decode cX0_init 4 = .ok (.aload_n 0, 1) := by decide +kernel
theorem dX0_init_5 : decode cX0_init 5 = .ok (.bipush 10, 2) := by decide +kernel
theorem dX0_init_7 : decode cX0_init 7 = .ok (.newarray .int, 2) := by decide +kernel
theorem dX0_init_9 : decode cX0_init 9 = .ok (.putfield 9, 3) := by decide +kernel
theorem dX0_init_12 : decode cX0_init 12 = .ok (.aload_n 0, 1) := by decide +kernel
theorem dX0_init_13 : decode cX0_init 13 = .ok (.bipush 10, 2) := by decide +kernel
theorem dX0_init_15 : decode cX0_init 15 = .ok (.newarray .int, 2) := by decide +kernel
theorem dX0_init_17 : decode cX0_init 17 = .ok (.putfield 13, 3) := by decide +kernel
theorem dX0_init_20 : decode cX0_init 20 = .ok (.aload_n 0, 1) := by decide +kernel
theorem dX0_init_21 : decode cX0_init 21 = .ok (.bipush 10, 2) := by decide +kernel
theorem dX0_init_23 : decode cX0_init 23 = .ok (.newarray .int, 2) := by decide +kernel
theorem dX0_init_25 : decode cX0_init 25 = .ok (.putfield 16, 3) := by decide +kernel
theorem dX0_init_28 : decode cX0_init 28 = .ok (.aload_n 0, 1) := by decide +kernel
theorem dX0_init_29 : decode cX0_init 29 = .ok (.bipush 10, 2) := by decide +kernel
theorem dX0_init_31 : decode cX0_init 31 = .ok (.newarray .int, 2) := by decide +kernel
theorem dX0_init_33 : decode cX0_init 33 = .ok (.putfield 19, 3) := by decide +kernel
theorem dX0_init_36 : decode cX0_init 36 = .ok (.aload_n 0, 1) := by decide +kernel
theorem dX0_init_37 : decode cX0_init 37 = .ok (.bipush 10, 2) := by decide +kernel
theorem dX0_init_39 : decode cX0_init 39 = .ok (.newarray .boolean, 2) := by decide +kernel
theorem dX0_init_41 : decode cX0_init 41 = .ok (.putfield 22, 3) := by decide +kernel
theorem dX0_init_44 : decode cX0_init 44 = .ok (.aload_n 0, 1) := by decide +kernel
theorem dX0_init_45 : decode cX0_init 45 = .ok (.bipush 10, 2) := by decide +kernel
theorem dX0_init_47 : decode cX0_init 47 = .ok (.newarray .int, 2) := by decide +kernel
theorem dX0_init_49 : decode cX0_init 49 = .ok (.putfield 26, 3) := by decide +kernel
theorem dX0_init_52 : decode cX0_init 52 = .ok (.aload_n 0, 1) := by decide +kernel
theorem dX0_init_53 : decode cX0_init 53 = .ok (.bipush 20, 2) := by decide +kernel
theorem dX0_init_55 : decode cX0_init 55 = .ok (.newarray .int, 2) := by decide +kernel
theorem dX0_init_57 : decode cX0_init 57 = .ok (.putfield 29, 3) := by decide +kernel
theorem dX0_init_60 : decode cX0_init 60 = .ok (.aload_n 0, 1) := by decide +kernel
theorem dX0_init_61 : decode cX0_init 61 = .ok (.bipush 20, 2) := by decide +kernel
theorem dX0_init_63 : decode cX0_init 63 = .ok (.newarray .int, 2) := by decide +kernel
theorem dX0_init_65 : decode cX0_init 65 = .ok (.putfield 32, 3) := by decide +kernel
theorem dX0_init_68 : decode cX0_init 68 = .ok (.aload_n 0, 1) := by decide +kernel
theorem dX0_init_69 : decode cX0_init 69 = .ok (.bipush 20, 2) := by decide +kernel
theorem dX0_init_71 : decode cX0_init 71 = .ok (.newarray .int, 2) := by decide +kernel
theorem dX0_init_73 : decode cX0_init 73 = .ok (.putfield 35, 3) := by decide +kernel
theorem dX0_init_76 : decode cX0_init 76 = .ok (.aload_n 0, 1) := by decide +kernel
theorem dX0_init_77 : decode cX0_init 77 = .ok (.bipush 80, 2) := by decide +kernel
theorem dX0_init_79 : decode cX0_init 79 = .ok (.newarray .int, 2) := by decide +kernel
theorem dX0_init_81 : decode cX0_init 81 = .ok (.putfield 38, 3) := by decide +kernel
theorem dX0_init_84 : decode cX0_init 84 = .ok (.aload_n 0, 1) := by decide +kernel
theorem dX0_init_85 : decode cX0_init 85 = .ok (.iconst 4, 1) := by decide +kernel
theorem dX0_init_86 : decode cX0_init 86 = .ok (.newarray .int, 2) := by decide +kernel
theorem dX0_init_88 : decode cX0_init 88 = .ok (.putfield 41, 3) := by decide +kernel
theorem dX0_init_91 : decode cX0_init 91 = .ok (.return_, 1) := by decide +kernel
theorem dX0_addQuarter_0 : decode cX0_addQuarter 0 = .ok (.aload_n 0, 1) := by decide +kernel
theorem dX0_addQuarter_1 : decode cX0_addQuarter 1 = .ok (.getfield 44, 3) := by decide +kernel
theorem dX0_addQuarter_4 : decode cX0_addQuarter 4 = .ok (.bipush 6, 2) := by decide +kernel
theorem dX0_addQuarter_6 : decode cX0_addQuarter 6 = .ok (.if_icmp .lt 13, 3) := by decide +kernel
theorem dX0_addQuarter_9 : decode cX0_addQuarter 9 = .ok (.new 48, 3) := by decide +kernel
theorem dX0_addQuarter_12 : decode cX0_addQuarter 12 = .ok (.dup, 1) := by decide +kernel
theorem dX0_addQuarter_13 : decode cX0_addQuarter 13 = .ok (.ldc 50, 2) := by decide +kernel
theorem dX0_addQuarter_15 : decode cX0_addQuarter 15 = .ok (.invokespecial 52, 3) := by decide +kernel
theorem dX0_addQuarter_18 : decode cX0_addQuarter 18 = .ok (.athrow, 1) := by decide +kernel
theorem dX0_addQuarter_19 : decode cX0_addQuarter 19 = .ok (.aload_n 0, 1) := by decide +kernel
theorem dX0_addQuarter_20 : decode cX0_addQuarter 20 = .ok (.getfield 44, 3) := by decide +kernel
theorem dX0_addQuarter_23 : decode cX0_addQuarter 23 = .ok (.istore_n 1, 1) := by decide +kernel
theorem dX0_addQuarter_24 : decode cX0_addQuarter 24 = .ok (.aload_n 0, 1) := by decide +kernel
theorem dX0_addQuarter_25 : decode cX0_addQuarter 25 = .ok (.dup, 1) := by decide +kernel
theorem dX0_addQuarter_26 : decode cX0_addQuarter 26 = .ok (.getfield 44, 3) := by decide +kernel
theorem dX0_addQuarter_29 : decode cX0_addQuarter 29 = .ok (.iconst 1, 1) := by decide +kernel
theorem dX0_addQuarter_30 : decode cX0_addQuarter 30 = .ok (.iadd, 1) := by decide +kernel
theorem dX0_addQuarter_31 : decode cX0_addQuarter 31 = .ok (.putfield 44, 3) := by decide +kernel
theorem dX0_addQuarter_34 : decode cX0_addQuarter 34 = .ok (.iload_n 1, 1) := by decide +kernel
theorem dX0_addQuarter_35 : decode cX0_addQuarter 35 = .ok (.ireturn, 1) := by decide +kernel
set_option maxRecDepth 20000 in
theorem ggX0_addPerson_X0_requireTrade : GoodIn wsX0_addPerson wsX0_requireTrade := goodIn_ca (goodIn_r _ [8, 9, 10] (by decide +kernel) (by decide +kernel)) (goodIn_sub (fun _ h => List.mem_cons_of_mem _ (List.mem_append_right _ h)) (by decide +kernel))
set_option maxRecDepth 20000 in
theorem gX0_addPerson_X0_requireTrade : GoodIn wsX0_addPerson (va_wsS RX0 55 yX0_requireTrade wsX0_requireTrade) := goodIn_app (goodIn_of _ (by decide +kernel)) ggX0_addPerson_X0_requireTrade
theorem dX0_addPerson_0 : decode cX0_addPerson 0 = .ok (.iload_n 1, 1) := by decide +kernel
theorem dX0_addPerson_1 : decode cX0_addPerson 1 = .ok (.invokestatic 55, 3) := by decide +kernel
theorem dX0_addPerson_4 : decode cX0_addPerson 4 = .ok (.aload_n 0, 1) := by decide +kernel
theorem dX0_addPerson_5 : decode cX0_addPerson 5 = .ok (.getfield 59, 3) := by decide +kernel
theorem dX0_addPerson_8 : decode cX0_addPerson 8 = .ok (.bipush 20, 2) := by decide +kernel
theorem dX0_addPerson_10 : decode cX0_addPerson 10 = .ok (.if_icmp .lt 13, 3) := by decide +kernel
theorem dX0_addPerson_13 : decode cX0_addPerson 13 = .ok (.new 48, 3) := by decide +kernel
theorem dX0_addPerson_16 : decode cX0_addPerson 16 = .ok (.dup, 1) := by decide +kernel
theorem dX0_addPerson_17 : decode cX0_addPerson 17 = .ok (.ldc 62, 2) := by decide +kernel
theorem dX0_addPerson_19 : decode cX0_addPerson 19 = .ok (.invokespecial 52, 3) := by decide +kernel
theorem dX0_addPerson_22 : decode cX0_addPerson 22 = .ok (.athrow, 1) := by decide +kernel
theorem dX0_addPerson_23 : decode cX0_addPerson 23 = .ok (.aload_n 0, 1) := by decide +kernel
theorem dX0_addPerson_24 : decode cX0_addPerson 24 = .ok (.getfield 59, 3) := by decide +kernel
theorem dX0_addPerson_27 : decode cX0_addPerson 27 = .ok (.istore_n 2, 1) := by decide +kernel
theorem dX0_addPerson_28 : decode cX0_addPerson 28 = .ok (.aload_n 0, 1) := by decide +kernel
theorem dX0_addPerson_29 : decode cX0_addPerson 29 = .ok (.getfield 29, 3) := by decide +kernel
theorem dX0_addPerson_32 : decode cX0_addPerson 32 = .ok (.iload_n 2, 1) := by decide +kernel
theorem dX0_addPerson_33 : decode cX0_addPerson 33 = .ok (.iload_n 1, 1) := by decide +kernel
theorem dX0_addPerson_34 : decode cX0_addPerson 34 = .ok (.iastore, 1) := by decide +kernel
theorem dX0_addPerson_35 : decode cX0_addPerson 35 = .ok (.aload_n 0, 1) := by decide +kernel
theorem dX0_addPerson_36 : decode cX0_addPerson 36 = .ok (.dup, 1) := by decide +kernel
theorem dX0_addPerson_37 : decode cX0_addPerson 37 = .ok (.getfield 59, 3) := by decide +kernel
theorem dX0_addPerson_40 : decode cX0_addPerson 40 = .ok (.iconst 1, 1) := by decide +kernel
theorem dX0_addPerson_41 : decode cX0_addPerson 41 = .ok (.iadd, 1) := by decide +kernel
theorem dX0_addPerson_42 : decode cX0_addPerson 42 = .ok (.putfield 59, 3) := by decide +kernel
theorem dX0_addPerson_45 : decode cX0_addPerson 45 = .ok (.iload_n 2, 1) := by decide +kernel
theorem dX0_addPerson_46 : decode cX0_addPerson 46 = .ok (.ireturn, 1) := by decide +kernel
set_option maxRecDepth 20000 in
theorem ggX0_addOrder_X0_requireQuarter : GoodIn wsX0_addOrder wsX0_requireQuarter := goodIn_ca (goodIn_r _ [13, 14, 15, 16, 25, 26, 27, 28, 29, 30, 31, 32, 33, 34, 35, 36, 37, 38, 39, 40] (by decide +kernel) (by decide +kernel)) (goodIn_sub (fun _ h => List.mem_cons_of_mem _ (List.mem_append_left _ (List.mem_append_right _ h))) (by decide +kernel))
set_option maxRecDepth 20000 in
theorem gX0_addOrder_X0_requireQuarter : GoodIn wsX0_addOrder (wsV RX0 64 RX0 yX0_requireQuarter wsX0_requireQuarter) := goodIn_app (goodIn_of _ (by decide +kernel)) ggX0_addOrder_X0_requireQuarter
set_option maxRecDepth 20000 in
theorem ggX0_addOrder_X0_requireColour : GoodIn wsX0_addOrder wsX0_requireColour := goodIn_ca (goodIn_r _ [19, 14, 15] (by decide +kernel) (by decide +kernel)) (goodIn_sub (fun _ h => List.mem_cons_of_mem _ (List.mem_append_left _ (List.mem_append_right _ h))) (by decide +kernel))
set_option maxRecDepth 20000 in
theorem gX0_addOrder_X0_requireColour : GoodIn wsX0_addOrder (va_wsS RX0 67 yX0_requireColour wsX0_requireColour) := goodIn_app (goodIn_of _ (by decide +kernel)) ggX0_addOrder_X0_requireColour
set_option maxRecDepth 20000 in
theorem ggX0_addOrder_X0_requireWithin : GoodIn wsX0_addOrder wsX0_requireWithin := goodIn_ca (goodIn_r _ [22, 23, 24] (by decide +kernel) (by decide +kernel)) (goodIn_sub (fun _ h => List.mem_cons_of_mem _ (List.mem_append_right _ h)) (by decide +kernel))
set_option maxRecDepth 20000 in
theorem gX0_addOrder_X0_requireWithin : GoodIn wsX0_addOrder (va_wsS RX0 70 yX0_requireWithin wsX0_requireWithin) := goodIn_app (goodIn_of _ (by decide +kernel)) ggX0_addOrder_X0_requireWithin
theorem dX0_addOrder_0 : decode cX0_addOrder 0 = .ok (.aload_n 0, 1) := by decide +kernel
theorem dX0_addOrder_1 : decode cX0_addOrder 1 = .ok (.iload_n 1, 1) := by decide +kernel
theorem dX0_addOrder_2 : decode cX0_addOrder 2 = .ok (.invokevirtual 64, 3) := by decide +kernel
theorem dX0_addOrder_5 : decode cX0_addOrder 5 = .ok (.iload 4, 2) := by decide +kernel
theorem dX0_addOrder_7 : decode cX0_addOrder 7 = .ok (.invokestatic 67, 3) := by decide +kernel
theorem dX0_addOrder_10 : decode cX0_addOrder 10 = .ok (.iload_n 2, 1) := by decide +kernel
theorem dX0_addOrder_11 : decode cX0_addOrder 11 = .ok (.iconst 0, 1) := by decide +kernel
theorem dX0_addOrder_12 : decode cX0_addOrder 12 = .ok (.iconst 4, 1) := by decide +kernel
theorem dX0_addOrder_13 : decode cX0_addOrder 13 = .ok (.invokestatic 70, 3) := by decide +kernel
theorem dX0_addOrder_16 : decode cX0_addOrder 16 = .ok (.iload_n 3, 1) := by decide +kernel
theorem dX0_addOrder_17 : decode cX0_addOrder 17 = .ok (.iconst 0, 1) := by decide +kernel
theorem dX0_addOrder_18 : decode cX0_addOrder 18 = .ok (.iconst 4, 1) := by decide +kernel
theorem dX0_addOrder_19 : decode cX0_addOrder 19 = .ok (.invokestatic 70, 3) := by decide +kernel
theorem dX0_addOrder_22 : decode cX0_addOrder 22 = .ok (.aload_n 0, 1) := by decide +kernel
theorem dX0_addOrder_23 : decode cX0_addOrder 23 = .ok (.getfield 74, 3) := by decide +kernel
theorem dX0_addOrder_26 : decode cX0_addOrder 26 = .ok (.bipush 10, 2) := by decide +kernel
theorem dX0_addOrder_28 : decode cX0_addOrder 28 = .ok (.if_icmp .lt 13, 3) := by decide +kernel
theorem dX0_addOrder_31 : decode cX0_addOrder 31 = .ok (.new 48, 3) := by decide +kernel
theorem dX0_addOrder_34 : decode cX0_addOrder 34 = .ok (.dup, 1) := by decide +kernel
theorem dX0_addOrder_35 : decode cX0_addOrder 35 = .ok (.ldc 77, 2) := by decide +kernel
theorem dX0_addOrder_37 : decode cX0_addOrder 37 = .ok (.invokespecial 52, 3) := by decide +kernel
theorem dX0_addOrder_40 : decode cX0_addOrder 40 = .ok (.athrow, 1) := by decide +kernel
theorem dX0_addOrder_41 : decode cX0_addOrder 41 = .ok (.aload_n 0, 1) := by decide +kernel
theorem dX0_addOrder_42 : decode cX0_addOrder 42 = .ok (.getfield 74, 3) := by decide +kernel
theorem dX0_addOrder_45 : decode cX0_addOrder 45 = .ok (.istore 5, 2) := by decide +kernel
theorem dX0_addOrder_47 : decode cX0_addOrder 47 = .ok (.aload_n 0, 1) := by decide +kernel
theorem dX0_addOrder_48 : decode cX0_addOrder 48 = .ok (.getfield 9, 3) := by decide +kernel
theorem dX0_addOrder_51 : decode cX0_addOrder 51 = .ok (.iload 5, 2) := by decide +kernel
theorem dX0_addOrder_53 : decode cX0_addOrder 53 = .ok (.iload_n 1, 1) := by decide +kernel
theorem dX0_addOrder_54 : decode cX0_addOrder 54 = .ok (.iastore, 1) := by decide +kernel
theorem dX0_addOrder_55 : decode cX0_addOrder 55 = .ok (.aload_n 0, 1) := by decide +kernel
theorem dX0_addOrder_56 : decode cX0_addOrder 56 = .ok (.getfield 13, 3) := by decide +kernel
theorem dX0_addOrder_59 : decode cX0_addOrder 59 = .ok (.iload 5, 2) := by decide +kernel
theorem dX0_addOrder_61 : decode cX0_addOrder 61 = .ok (.iload_n 2, 1) := by decide +kernel
theorem dX0_addOrder_62 : decode cX0_addOrder 62 = .ok (.iastore, 1) := by decide +kernel
theorem dX0_addOrder_63 : decode cX0_addOrder 63 = .ok (.aload_n 0, 1) := by decide +kernel
theorem dX0_addOrder_64 : decode cX0_addOrder 64 = .ok (.getfield 16, 3) := by decide +kernel
theorem dX0_addOrder_67 : decode cX0_addOrder 67 = .ok (.iload 5, 2) := by decide +kernel
theorem dX0_addOrder_69 : decode cX0_addOrder 69 = .ok (.iload_n 3, 1) := by decide +kernel
theorem dX0_addOrder_70 : decode cX0_addOrder 70 = .ok (.iastore, 1) := by decide +kernel
theorem dX0_addOrder_71 : decode cX0_addOrder 71 = .ok (.aload_n 0, 1) := by decide +kernel
theorem dX0_addOrder_72 : decode cX0_addOrder 72 = .ok (.getfield 19, 3) := by decide +kernel
theorem dX0_addOrder_75 : decode cX0_addOrder 75 = .ok (.iload 5, 2) := by decide +kernel
theorem dX0_addOrder_77 : decode cX0_addOrder 77 = .ok (.iload 4, 2) := by decide +kernel
theorem dX0_addOrder_79 : decode cX0_addOrder 79 = .ok (.iastore, 1) := by decide +kernel
theorem dX0_addOrder_80 : decode cX0_addOrder 80 = .ok (.aload_n 0, 1) := by decide +kernel
theorem dX0_addOrder_81 : decode cX0_addOrder 81 = .ok (.getfield 22, 3) := by decide +kernel
theorem dX0_addOrder_84 : decode cX0_addOrder 84 = .ok (.iload 5, 2) := by decide +kernel
theorem dX0_addOrder_86 : decode cX0_addOrder 86 = .ok (.iconst 1, 1) := by decide +kernel
theorem dX0_addOrder_87 : decode cX0_addOrder 87 = .ok (.bastore, 1) := by decide +kernel
theorem dX0_addOrder_88 : decode cX0_addOrder 88 = .ok (.aload_n 0, 1) := by decide +kernel
theorem dX0_addOrder_89 : decode cX0_addOrder 89 = .ok (.dup, 1) := by decide +kernel
theorem dX0_addOrder_90 : decode cX0_addOrder 90 = .ok (.getfield 74, 3) := by decide +kernel
theorem dX0_addOrder_93 : decode cX0_addOrder 93 = .ok (.iconst 1, 1) := by decide +kernel
theorem dX0_addOrder_94 : decode cX0_addOrder 94 = .ok (.iadd, 1) := by decide +kernel
theorem dX0_addOrder_95 : decode cX0_addOrder 95 = .ok (.putfield 74, 3) := by decide +kernel
theorem dX0_addOrder_98 : decode cX0_addOrder 98 = .ok (.iload 5, 2) := by decide +kernel
theorem dX0_addOrder_100 : decode cX0_addOrder 100 = .ok (.ireturn, 1) := by decide +kernel
set_option maxRecDepth 20000 in
theorem ggX0_turnExempt_X0_requireOrder : GoodIn wsX0_turnExempt wsX0_requireOrder := goodIn_ca (goodIn_r _ [6, 7, 8, 9, 17, 18, 19, 20, 21, 22, 23, 24, 25, 26, 27, 28, 29, 30, 31, 32] (by decide +kernel) (by decide +kernel)) (goodIn_sub (fun _ h => List.mem_cons_of_mem _ (List.mem_append_right _ h)) (by decide +kernel))
set_option maxRecDepth 20000 in
theorem gX0_turnExempt_X0_requireOrder : GoodIn wsX0_turnExempt (wsV RX0 79 RX0 yX0_requireOrder wsX0_requireOrder) := goodIn_app (goodIn_of _ (by decide +kernel)) ggX0_turnExempt_X0_requireOrder
set_option maxRecDepth 20000 in
theorem ggX0_turnExempt_X0_requireTrade : GoodIn wsX0_turnExempt wsX0_requireTrade := goodIn_ca (goodIn_r _ [12, 7, 8] (by decide +kernel) (by decide +kernel)) (goodIn_sub (fun _ h => List.mem_cons_of_mem _ (List.mem_append_right _ h)) (by decide +kernel))
set_option maxRecDepth 20000 in
theorem gX0_turnExempt_X0_requireTrade : GoodIn wsX0_turnExempt (va_wsS RX0 55 yX0_requireTrade wsX0_requireTrade) := goodIn_app (goodIn_of _ (by decide +kernel)) ggX0_turnExempt_X0_requireTrade
set_option maxRecDepth 20000 in
theorem ggX0_turnExempt_X0_exempts : GoodIn wsX0_turnExempt wsX0_exempts := goodIn_r _ [16, 1, 17, 18, 19, 20, 21, 22, 23, 24, 25, 26, 27, 28, 29, 30, 31, 32] (by decide +kernel) (by decide +kernel)
set_option maxRecDepth 20000 in
theorem gX0_turnExempt_X0_exempts : GoodIn wsX0_turnExempt (wsV RX0 82 RX0 yX0_exempts wsX0_exempts) := goodIn_app (goodIn_of _ (by decide +kernel)) ggX0_turnExempt_X0_exempts
theorem dX0_turnExempt_0 : decode cX0_turnExempt 0 = .ok (.aload_n 0, 1) := by decide +kernel
theorem dX0_turnExempt_1 : decode cX0_turnExempt 1 = .ok (.iload_n 1, 1) := by decide +kernel
theorem dX0_turnExempt_2 : decode cX0_turnExempt 2 = .ok (.invokevirtual 79, 3) := by decide +kernel
theorem dX0_turnExempt_5 : decode cX0_turnExempt 5 = .ok (.iload_n 2, 1) := by decide +kernel
theorem dX0_turnExempt_6 : decode cX0_turnExempt 6 = .ok (.invokestatic 55, 3) := by decide +kernel
theorem dX0_turnExempt_9 : decode cX0_turnExempt 9 = .ok (.aload_n 0, 1) := by decide +kernel
theorem dX0_turnExempt_10 : decode cX0_turnExempt 10 = .ok (.getfield 26, 3) := by decide +kernel
theorem dX0_turnExempt_13 : decode cX0_turnExempt 13 = .ok (.iload_n 1, 1) := by decide +kernel
theorem dX0_turnExempt_14 : decode cX0_turnExempt 14 = .ok (.dup2, 1) := by decide +kernel
theorem dX0_turnExempt_15 : decode cX0_turnExempt 15 = .ok (.iaload, 1) := by decide +kernel
theorem dX0_turnExempt_16 : decode cX0_turnExempt 16 = .ok (.iconst 1, 1) := by decide +kernel
theorem dX0_turnExempt_17 : decode cX0_turnExempt 17 = .ok (.iload_n 2, 1) := by decide +kernel
theorem dX0_turnExempt_18 : decode cX0_turnExempt 18 = .ok (.ishl, 1) := by decide +kernel
theorem dX0_turnExempt_19 : decode cX0_turnExempt 19 = .ok (.ixor, 1) := by decide +kernel
theorem dX0_turnExempt_20 : decode cX0_turnExempt 20 = .ok (.iastore, 1) := by decide +kernel
theorem dX0_turnExempt_21 : decode cX0_turnExempt 21 = .ok (.aload_n 0, 1) := by decide +kernel
theorem dX0_turnExempt_22 : decode cX0_turnExempt 22 = .ok (.iload_n 1, 1) := by decide +kernel
theorem dX0_turnExempt_23 : decode cX0_turnExempt 23 = .ok (.iload_n 2, 1) := by decide +kernel
theorem dX0_turnExempt_24 : decode cX0_turnExempt 24 = .ok (.invokevirtual 82, 3) := by decide +kernel
theorem dX0_turnExempt_27 : decode cX0_turnExempt 27 = .ok (.ireturn, 1) := by decide +kernel
set_option maxRecDepth 20000 in
theorem ggX0_turnOrder_X0_requireOrder : GoodIn wsX0_turnOrder wsX0_requireOrder := goodIn_ca (goodIn_r _ [6, 7, 8, 9, 10, 11, 12, 13, 14, 15, 16, 17, 18, 19, 20, 21, 22, 23, 24, 25] (by decide +kernel) (by decide +kernel)) (goodIn_sub (fun _ h => List.mem_cons_of_mem _ (List.mem_append_right _ h)) (by decide +kernel))
set_option maxRecDepth 20000 in
theorem gX0_turnOrder_X0_requireOrder : GoodIn wsX0_turnOrder (wsV RX0 79 RX0 yX0_requireOrder wsX0_requireOrder) := goodIn_app (goodIn_of _ (by decide +kernel)) ggX0_turnOrder_X0_requireOrder
theorem dX0_turnOrder_0 : decode cX0_turnOrder 0 = .ok (.aload_n 0, 1) := by decide +kernel
theorem dX0_turnOrder_1 : decode cX0_turnOrder 1 = .ok (.iload_n 1, 1) := by decide +kernel
theorem dX0_turnOrder_2 : decode cX0_turnOrder 2 = .ok (.invokevirtual 79, 3) := by decide +kernel
theorem dX0_turnOrder_5 : decode cX0_turnOrder 5 = .ok (.aload_n 0, 1) := by decide +kernel
theorem dX0_turnOrder_6 : decode cX0_turnOrder 6 = .ok (.getfield 22, 3) := by decide +kernel
theorem dX0_turnOrder_9 : decode cX0_turnOrder 9 = .ok (.iload_n 1, 1) := by decide +kernel
theorem dX0_turnOrder_10 : decode cX0_turnOrder 10 = .ok (.aload_n 0, 1) := by decide +kernel
theorem dX0_turnOrder_11 : decode cX0_turnOrder 11 = .ok (.getfield 22, 3) := by decide +kernel
theorem dX0_turnOrder_14 : decode cX0_turnOrder 14 = .ok (.iload_n 1, 1) := by decide +kernel
theorem dX0_turnOrder_15 : decode cX0_turnOrder 15 = .ok (.baload, 1) := by decide +kernel
theorem dX0_turnOrder_16 : decode cX0_turnOrder 16 = .ok (.ifCond .ne 7, 3) := by decide +kernel
theorem dX0_turnOrder_19 : decode cX0_turnOrder 19 = .ok (.iconst 1, 1) := by decide +kernel
theorem dX0_turnOrder_20 : decode cX0_turnOrder 20 = .ok (.goto 4, 3) := by decide +kernel
theorem dX0_turnOrder_23 : decode cX0_turnOrder 23 = .ok (.iconst 0, 1) := by decide +kernel
theorem dX0_turnOrder_24 : decode cX0_turnOrder 24 = .ok (.bastore, 1) := by decide +kernel
theorem dX0_turnOrder_25 : decode cX0_turnOrder 25 = .ok (.aload_n 0, 1) := by decide +kernel
theorem dX0_turnOrder_26 : decode cX0_turnOrder 26 = .ok (.getfield 22, 3) := by decide +kernel
theorem dX0_turnOrder_29 : decode cX0_turnOrder 29 = .ok (.iload_n 1, 1) := by decide +kernel
theorem dX0_turnOrder_30 : decode cX0_turnOrder 30 = .ok (.baload, 1) := by decide +kernel
theorem dX0_turnOrder_31 : decode cX0_turnOrder 31 = .ok (.ireturn, 1) := by decide +kernel
set_option maxRecDepth 20000 in
theorem ggX0_setShift_X0_requireWithin : GoodIn wsX0_setShift wsX0_requireWithin := goodIn_ca (goodIn_r _ [5, 6, 7] (by decide +kernel) (by decide +kernel)) (goodIn_sub (fun _ h => List.mem_cons_of_mem _ (List.mem_append_right _ h)) (by decide +kernel))
set_option maxRecDepth 20000 in
theorem gX0_setShift_X0_requireWithin : GoodIn wsX0_setShift (va_wsS RX0 70 yX0_requireWithin wsX0_requireWithin) := goodIn_app (goodIn_of _ (by decide +kernel)) ggX0_setShift_X0_requireWithin
theorem dX0_setShift_0 : decode cX0_setShift 0 = .ok (.iload_n 1, 1) := by decide +kernel
theorem dX0_setShift_1 : decode cX0_setShift 1 = .ok (.bipush (-4), 2) := by decide +kernel
theorem dX0_setShift_3 : decode cX0_setShift 3 = .ok (.iconst 4, 1) := by decide +kernel
theorem dX0_setShift_4 : decode cX0_setShift 4 = .ok (.invokestatic 70, 3) := by decide +kernel
theorem dX0_setShift_7 : decode cX0_setShift 7 = .ok (.aload_n 0, 1) := by decide +kernel
theorem dX0_setShift_8 : decode cX0_setShift 8 = .ok (.getfield 86, 3) := by decide +kernel
theorem dX0_setShift_11 : decode cX0_setShift 11 = .ok (.istore_n 2, 1) := by decide +kernel
theorem dX0_setShift_12 : decode cX0_setShift 12 = .ok (.aload_n 0, 1) := by decide +kernel
theorem dX0_setShift_13 : decode cX0_setShift 13 = .ok (.iload_n 1, 1) := by decide +kernel
theorem dX0_setShift_14 : decode cX0_setShift 14 = .ok (.putfield 86, 3) := by decide +kernel
theorem dX0_setShift_17 : decode cX0_setShift 17 = .ok (.iload_n 2, 1) := by decide +kernel
theorem dX0_setShift_18 : decode cX0_setShift 18 = .ok (.ireturn, 1) := by decide +kernel
set_option maxRecDepth 20000 in
theorem ggX0_givePass_X0_requirePerson : GoodIn wsX0_givePass wsX0_requirePerson := goodIn_ca (goodIn_r _ [10, 11, 12, 13, 25, 26, 27, 28, 29, 30, 31, 32, 33, 34, 35, 36, 37, 38, 39, 40] (by decide +kernel) (by decide +kernel)) (goodIn_sub (fun _ h => List.mem_cons_of_mem _ (List.mem_append_left _ (List.mem_append_right _ h))) (by decide +kernel))
set_option maxRecDepth 20000 in
theorem gX0_givePass_X0_requirePerson : GoodIn wsX0_givePass (wsV RX0 89 RX0 yX0_requirePerson wsX0_requirePerson) := goodIn_app (goodIn_of _ (by decide +kernel)) ggX0_givePass_X0_requirePerson
set_option maxRecDepth 20000 in
theorem ggX0_givePass_X0_requireColour : GoodIn wsX0_givePass wsX0_requireColour := goodIn_ca (goodIn_r _ [16, 11, 12] (by decide +kernel) (by decide +kernel)) (goodIn_sub (fun _ h => List.mem_cons_of_mem _ (List.mem_append_left _ (List.mem_append_right _ h))) (by decide +kernel))
set_option maxRecDepth 20000 in
theorem gX0_givePass_X0_requireColour : GoodIn wsX0_givePass (va_wsS RX0 67 yX0_requireColour wsX0_requireColour) := goodIn_app (goodIn_of _ (by decide +kernel)) ggX0_givePass_X0_requireColour
set_option maxRecDepth 20000 in
theorem ggX0_givePass_X0_requireWithin : GoodIn wsX0_givePass wsX0_requireWithin := goodIn_ca (goodIn_r _ [19, 20, 21] (by decide +kernel) (by decide +kernel)) (goodIn_sub (fun _ h => List.mem_cons_of_mem _ (List.mem_append_right _ h)) (by decide +kernel))
set_option maxRecDepth 20000 in
theorem gX0_givePass_X0_requireWithin : GoodIn wsX0_givePass (va_wsS RX0 70 yX0_requireWithin wsX0_requireWithin) := goodIn_app (goodIn_of _ (by decide +kernel)) ggX0_givePass_X0_requireWithin
set_option maxRecDepth 20000 in
theorem ggX0_givePass_X0_stampPlace : GoodIn wsX0_givePass wsX0_stampPlace := goodIn_r _ [24] (by decide +kernel) (by decide +kernel)
set_option maxRecDepth 20000 in
theorem gX0_givePass_X0_stampPlace : GoodIn wsX0_givePass (va_wsS RX0 92 yX0_stampPlace wsX0_stampPlace) := goodIn_app (goodIn_of _ (by decide +kernel)) ggX0_givePass_X0_stampPlace
theorem dX0_givePass_0 : decode cX0_givePass 0 = .ok (.aload_n 0, 1) := by decide +kernel
theorem dX0_givePass_1 : decode cX0_givePass 1 = .ok (.iload_n 1, 1) := by decide +kernel
theorem dX0_givePass_2 : decode cX0_givePass 2 = .ok (.invokevirtual 89, 3) := by decide +kernel
theorem dX0_givePass_5 : decode cX0_givePass 5 = .ok (.iload_n 2, 1) := by decide +kernel
theorem dX0_givePass_6 : decode cX0_givePass 6 = .ok (.invokestatic 67, 3) := by decide +kernel
theorem dX0_givePass_9 : decode cX0_givePass 9 = .ok (.iload_n 3, 1) := by decide +kernel
theorem dX0_givePass_10 : decode cX0_givePass 10 = .ok (.iconst 1, 1) := by decide +kernel
theorem dX0_givePass_11 : decode cX0_givePass 11 = .ok (.bipush 9, 2) := by decide +kernel
theorem dX0_givePass_13 : decode cX0_givePass 13 = .ok (.invokestatic 70, 3) := by decide +kernel
theorem dX0_givePass_16 : decode cX0_givePass 16 = .ok (.iload_n 1, 1) := by decide +kernel
theorem dX0_givePass_17 : decode cX0_givePass 17 = .ok (.iload_n 2, 1) := by decide +kernel
theorem dX0_givePass_18 : decode cX0_givePass 18 = .ok (.invokestatic 92, 3) := by decide +kernel
theorem dX0_givePass_21 : decode cX0_givePass 21 = .ok (.istore 4, 2) := by decide +kernel
theorem dX0_givePass_23 : decode cX0_givePass 23 = .ok (.aload_n 0, 1) := by decide +kernel
theorem dX0_givePass_24 : decode cX0_givePass 24 = .ok (.getfield 38, 3) := by decide +kernel
theorem dX0_givePass_27 : decode cX0_givePass 27 = .ok (.iload 4, 2) := by decide +kernel
theorem dX0_givePass_29 : decode cX0_givePass 29 = .ok (.bipush 9, 2) := by decide +kernel
theorem dX0_givePass_31 : decode cX0_givePass 31 = .ok (.aload_n 0, 1) := by decide +kernel
theorem dX0_givePass_32 : decode cX0_givePass 32 = .ok (.getfield 38, 3) := by decide +kernel
theorem dX0_givePass_35 : decode cX0_givePass 35 = .ok (.iload 4, 2) := by decide +kernel
theorem dX0_givePass_37 : decode cX0_givePass 37 = .ok (.iaload, 1) := by decide +kernel
theorem dX0_givePass_38 : decode cX0_givePass 38 = .ok (.iload_n 3, 1) := by decide +kernel
theorem dX0_givePass_39 : decode cX0_givePass 39 = .ok (.iadd, 1) := by decide +kernel
theorem dX0_givePass_40 : decode cX0_givePass 40 = .ok (.invokestatic 96, 3) := by decide +kernel
theorem dX0_givePass_43 : decode cX0_givePass 43 = .ok (.iastore, 1) := by decide +kernel
theorem dX0_givePass_44 : decode cX0_givePass 44 = .ok (.aload_n 0, 1) := by decide +kernel
theorem dX0_givePass_45 : decode cX0_givePass 45 = .ok (.getfield 38, 3) := by decide +kernel
theorem dX0_givePass_48 : decode cX0_givePass 48 = .ok (.iload 4, 2) := by decide +kernel
theorem dX0_givePass_50 : decode cX0_givePass 50 = .ok (.iaload, 1) := by decide +kernel
theorem dX0_givePass_51 : decode cX0_givePass 51 = .ok (.ireturn, 1) := by decide +kernel
set_option maxRecDepth 20000 in
theorem ggX0_takePass_X0_requirePerson : GoodIn wsX0_takePass wsX0_requirePerson := goodIn_ca (goodIn_r _ [6, 7, 8, 9, 16, 17, 18, 19, 20, 21, 22, 23, 24, 25, 26, 27, 28, 29, 30, 31] (by decide +kernel) (by decide +kernel)) (goodIn_sub (fun _ h => List.mem_cons_of_mem _ (List.mem_append_right _ h)) (by decide +kernel))
set_option maxRecDepth 20000 in
theorem gX0_takePass_X0_requirePerson : GoodIn wsX0_takePass (wsV RX0 89 RX0 yX0_requirePerson wsX0_requirePerson) := goodIn_app (goodIn_of _ (by decide +kernel)) ggX0_takePass_X0_requirePerson
set_option maxRecDepth 20000 in
theorem ggX0_takePass_X0_requireColour : GoodIn wsX0_takePass wsX0_requireColour := goodIn_ca (goodIn_r _ [12, 7, 8] (by decide +kernel) (by decide +kernel)) (goodIn_sub (fun _ h => List.mem_cons_of_mem _ (List.mem_append_right _ h)) (by decide +kernel))
set_option maxRecDepth 20000 in
theorem gX0_takePass_X0_requireColour : GoodIn wsX0_takePass (va_wsS RX0 67 yX0_requireColour wsX0_requireColour) := goodIn_app (goodIn_of _ (by decide +kernel)) ggX0_takePass_X0_requireColour
set_option maxRecDepth 20000 in
theorem ggX0_takePass_X0_stampPlace : GoodIn wsX0_takePass wsX0_stampPlace := goodIn_r _ [15] (by decide +kernel) (by decide +kernel)
set_option maxRecDepth 20000 in
theorem gX0_takePass_X0_stampPlace : GoodIn wsX0_takePass (va_wsS RX0 92 yX0_stampPlace wsX0_stampPlace) := goodIn_app (goodIn_of _ (by decide +kernel)) ggX0_takePass_X0_stampPlace
theorem dX0_takePass_0 : decode cX0_takePass 0 = .ok (.aload_n 0, 1) := by decide +kernel
theorem dX0_takePass_1 : decode cX0_takePass 1 = .ok (.iload_n 1, 1) := by decide +kernel
theorem dX0_takePass_2 : decode cX0_takePass 2 = .ok (.invokevirtual 89, 3) := by decide +kernel
theorem dX0_takePass_5 : decode cX0_takePass 5 = .ok (.iload_n 2, 1) := by decide +kernel
theorem dX0_takePass_6 : decode cX0_takePass 6 = .ok (.invokestatic 67, 3) := by decide +kernel
theorem dX0_takePass_9 : decode cX0_takePass 9 = .ok (.iload_n 1, 1) := by decide +kernel
theorem dX0_takePass_10 : decode cX0_takePass 10 = .ok (.iload_n 2, 1) := by decide +kernel
theorem dX0_takePass_11 : decode cX0_takePass 11 = .ok (.invokestatic 92, 3) := by decide +kernel
theorem dX0_takePass_14 : decode cX0_takePass 14 = .ok (.istore_n 3, 1) := by decide +kernel
theorem dX0_takePass_15 : decode cX0_takePass 15 = .ok (.aload_n 0, 1) := by decide +kernel
theorem dX0_takePass_16 : decode cX0_takePass 16 = .ok (.getfield 38, 3) := by decide +kernel
theorem dX0_takePass_19 : decode cX0_takePass 19 = .ok (.iload_n 3, 1) := by decide +kernel
theorem dX0_takePass_20 : decode cX0_takePass 20 = .ok (.iaload, 1) := by decide +kernel
theorem dX0_takePass_21 : decode cX0_takePass 21 = .ok (.istore 4, 2) := by decide +kernel
theorem dX0_takePass_23 : decode cX0_takePass 23 = .ok (.aload_n 0, 1) := by decide +kernel
theorem dX0_takePass_24 : decode cX0_takePass 24 = .ok (.getfield 38, 3) := by decide +kernel
theorem dX0_takePass_27 : decode cX0_takePass 27 = .ok (.iload_n 3, 1) := by decide +kernel
theorem dX0_takePass_28 : decode cX0_takePass 28 = .ok (.iconst 0, 1) := by decide +kernel
theorem dX0_takePass_29 : decode cX0_takePass 29 = .ok (.iastore, 1) := by decide +kernel
theorem dX0_takePass_30 : decode cX0_takePass 30 = .ok (.iload 4, 2) := by decide +kernel
theorem dX0_takePass_32 : decode cX0_takePass 32 = .ok (.ireturn, 1) := by decide +kernel
set_option maxRecDepth 20000 in
theorem ggX0_goOut_X0_requirePerson : GoodIn wsX0_goOut wsX0_requirePerson := goodIn_ca (goodIn_r _ [8, 9, 10, 11, 61, 62, 63, 64, 65, 66, 67, 68, 69, 70, 71, 72, 73, 74, 75, 76] (by decide +kernel) (by decide +kernel)) (goodIn_sub (fun _ h => List.mem_cons_of_mem _ (List.mem_append_right _ h)) (by decide +kernel))
set_option maxRecDepth 20000 in
theorem gX0_goOut_X0_requirePerson : GoodIn wsX0_goOut (wsV RX0 89 RX0 yX0_requirePerson wsX0_requirePerson) := goodIn_app (goodIn_of _ (by decide +kernel)) ggX0_goOut_X0_requirePerson
set_option maxRecDepth 20000 in
theorem ggX0_goOut_X0_requireQuarter : GoodIn wsX0_goOut wsX0_requireQuarter := goodIn_ca (goodIn_r _ [15, 9, 10, 16, 61, 62, 63, 64, 65, 66, 67, 68, 69, 70, 71, 72, 73, 74, 75, 76] (by decide +kernel) (by decide +kernel)) (goodIn_sub (fun _ h => List.mem_cons_of_mem _ (List.mem_append_right _ h)) (by decide +kernel))
set_option maxRecDepth 20000 in
theorem gX0_goOut_X0_requireQuarter : GoodIn wsX0_goOut (wsV RX0 64 RX0 yX0_requireQuarter wsX0_requireQuarter) := goodIn_app (goodIn_of _ (by decide +kernel)) ggX0_goOut_X0_requireQuarter
set_option maxRecDepth 20000 in
theorem ggX0_goOut_X0_bars : GoodIn wsX0_goOut wsX0_bars := goodIn_r _ [20, 21, 22, 23, 24, 25, 26, 7, 27, 28, 29, 30, 31, 32, 33, 34, 35, 36, 37, 38, 39, 40, 41, 42, 43, 44, 45, 61, 62, 63, 64, 65, 66, 67, 68, 69, 70, 71, 72, 73, 74, 75, 76] (by decide +kernel) (by decide +kernel)
set_option maxRecDepth 20000 in
theorem gX0_goOut_X0_bars : GoodIn wsX0_goOut (wsV RX0 104 RX0 yX0_bars wsX0_bars) := goodIn_app (goodIn_of _ (by decide +kernel)) ggX0_goOut_X0_bars
set_option maxRecDepth 20000 in
theorem ggX0_goOut_X0_useStamp : GoodIn wsX0_goOut wsX0_useStamp := goodIn_r _ [49, 50, 51, 52, 53, 7, 54, 61, 62, 63, 64, 65, 66, 67, 68, 69, 70, 71, 72, 73, 74, 75, 76] (by decide +kernel) (by decide +kernel)
set_option maxRecDepth 20000 in
theorem gX0_goOut_X0_useStamp : GoodIn wsX0_goOut (wsV RX0 108 RX0 yX0_useStamp wsX0_useStamp) := goodIn_app (goodIn_of _ (by decide +kernel)) ggX0_goOut_X0_useStamp
set_option maxRecDepth 20000 in
theorem ggX0_goOut_X0_fineOnce : GoodIn wsX0_goOut wsX0_fineOnce := goodIn_r _ [58, 59, 60, 61, 62, 63, 64, 65, 66, 67, 68, 69, 70, 71, 72, 73, 74, 75, 76] (by decide +kernel) (by decide +kernel)
set_option maxRecDepth 20000 in
theorem gX0_goOut_X0_fineOnce : GoodIn wsX0_goOut (wsV RX0 111 RX0 yX0_fineOnce wsX0_fineOnce) := goodIn_app (goodIn_of _ (by decide +kernel)) ggX0_goOut_X0_fineOnce
theorem dX0_goOut_0 : decode cX0_goOut 0 = .ok (.aload_n 0, 1) := by decide +kernel
theorem dX0_goOut_1 : decode cX0_goOut 1 = .ok (.iload_n 1, 1) := by decide +kernel
theorem dX0_goOut_2 : decode cX0_goOut 2 = .ok (.invokevirtual 89, 3) := by decide +kernel
theorem dX0_goOut_5 : decode cX0_goOut 5 = .ok (.aload_n 0, 1) := by decide +kernel
theorem dX0_goOut_6 : decode cX0_goOut 6 = .ok (.iload_n 2, 1) := by decide +kernel
theorem dX0_goOut_7 : decode cX0_goOut 7 = .ok (.invokevirtual 64, 3) := by decide +kernel
theorem dX0_goOut_10 : decode cX0_goOut 10 = .ok (.iconst 0, 1) := by decide +kernel
theorem dX0_goOut_11 : decode cX0_goOut 11 = .ok (.istore_n 3, 1) := by decide +kernel
theorem dX0_goOut_12 : decode cX0_goOut 12 = .ok (.iconst 0, 1) := by decide +kernel
theorem dX0_goOut_13 : decode cX0_goOut 13 = .ok (.istore 4, 2) := by decide +kernel
theorem dX0_goOut_15 : decode cX0_goOut 15 = .ok (.iload 4, 2) := by decide +kernel
theorem dX0_goOut_17 : decode cX0_goOut 17 = .ok (.aload_n 0, 1) := by decide +kernel
theorem dX0_goOut_18 : decode cX0_goOut 18 = .ok (.getfield 74, 3) := by decide +kernel
theorem dX0_goOut_21 : decode cX0_goOut 21 = .ok (.if_icmp .ge 41, 3) := by decide +kernel
theorem dX0_goOut_24 : decode cX0_goOut 24 = .ok (.aload_n 0, 1) := by decide +kernel
theorem dX0_goOut_25 : decode cX0_goOut 25 = .ok (.iload 4, 2) := by decide +kernel
theorem dX0_goOut_27 : decode cX0_goOut 27 = .ok (.iload_n 1, 1) := by decide +kernel
theorem dX0_goOut_28 : decode cX0_goOut 28 = .ok (.iload_n 2, 1) := by decide +kernel
theorem dX0_goOut_29 : decode cX0_goOut 29 = .ok (.aload_n 0, 1) := by decide +kernel
theorem dX0_goOut_30 : decode cX0_goOut 30 = .ok (.getfield 101, 3) := by decide +kernel
theorem dX0_goOut_33 : decode cX0_goOut 33 = .ok (.invokevirtual 104, 3) := by decide +kernel
theorem dX0_goOut_36 : decode cX0_goOut 36 = .ok (.ifCond .eq 20, 3) := by decide +kernel
theorem dX0_goOut_39 : decode cX0_goOut 39 = .ok (.aload_n 0, 1) := by decide +kernel
theorem dX0_goOut_40 : decode cX0_goOut 40 = .ok (.iload_n 1, 1) := by decide +kernel
theorem dX0_goOut_41 : decode cX0_goOut 41 = .ok (.aload_n 0, 1) := by decide +kernel
theorem dX0_goOut_42 : decode cX0_goOut 42 = .ok (.getfield 19, 3) := by decide +kernel
theorem dX0_goOut_45 : decode cX0_goOut 45 = .ok (.iload 4, 2) := by decide +kernel
theorem dX0_goOut_47 : decode cX0_goOut 47 = .ok (.iaload, 1) := by decide +kernel
theorem dX0_goOut_48 : decode cX0_goOut 48 = .ok (.invokevirtual 108, 3) := by decide +kernel
theorem dX0_goOut_51 : decode cX0_goOut 51 = .ok (.ifCond .ne 5, 3) := by decide +kernel
theorem dX0_goOut_54 : decode cX0_goOut 54 = .ok (.iconst 1, 1) := by decide +kernel
theorem dX0_goOut_55 : decode cX0_goOut 55 = .ok (.istore_n 3, 1) := by decide +kernel
theorem dX0_goOut_56 : decode cX0_goOut 56 = .ok (.iinc 4 1, 3) := by decide +kernel
theorem dX0_goOut_59 : decode cX0_goOut 59 = .ok (.goto (-44), 3) := by decide +kernel
theorem dX0_goOut_62 : decode cX0_goOut 62 = .ok (.iload_n 3, 1) := by decide +kernel
theorem dX0_goOut_63 : decode cX0_goOut 63 = .ok (.ifCond .eq 11, 3) := by decide +kernel
theorem dX0_goOut_66 : decode cX0_goOut 66 = .ok (.aload_n 0, 1) := by decide +kernel
theorem dX0_goOut_67 : decode cX0_goOut 67 = .ok (.iload_n 1, 1) := by decide +kernel
theorem dX0_goOut_68 : decode cX0_goOut 68 = .ok (.invokevirtual 111, 3) := by decide +kernel
theorem dX0_goOut_71 : decode cX0_goOut 71 = .ok (.goto 4, 3) := by decide +kernel
theorem dX0_goOut_74 : decode cX0_goOut 74 = .ok (.iconst 0, 1) := by decide +kernel
theorem dX0_goOut_75 : decode cX0_goOut 75 = .ok (.ireturn, 1) := by decide +kernel
set_option maxRecDepth 20000 in
theorem ggX0_pass_X0_requireWithin : GoodIn wsX0_pass wsX0_requireWithin := goodIn_ca (goodIn_r _ [6, 7, 8] (by decide +kernel) (by decide +kernel)) (goodIn_sub (fun _ h => List.mem_cons_of_mem _ (List.mem_append_right _ h)) (by decide +kernel))
set_option maxRecDepth 20000 in
theorem gX0_pass_X0_requireWithin : GoodIn wsX0_pass (va_wsS RX0 70 yX0_requireWithin wsX0_requireWithin) := goodIn_app (goodIn_of _ (by decide +kernel)) ggX0_pass_X0_requireWithin
set_option maxRecDepth 20000 in
theorem ggX0_pass_X0_timesBegun : GoodIn wsX0_pass wsX0_timesBegun := goodIn_r _ [12, 2, 13, 14, 15, 5, 16, 17, 18, 19, 20, 21, 22, 23, 24, 25, 26, 27, 28, 29, 30, 31, 32, 33, 34, 35, 36, 37, 38, 39, 40, 41, 42, 43, 44, 45, 46, 47, 48, 49, 50] (by decide +kernel) (by decide +kernel)
set_option maxRecDepth 20000 in
theorem gX0_pass_X0_timesBegun : GoodIn wsX0_pass (wsV RX0 115 RX0 yX0_timesBegun wsX0_timesBegun) := goodIn_app (goodIn_of _ (by decide +kernel)) ggX0_pass_X0_timesBegun
theorem dX0_pass_0 : decode cX0_pass 0 = .ok (.iload_n 1, 1) := by decide +kernel
theorem dX0_pass_1 : decode cX0_pass 1 = .ok (.iconst 1, 1) := by decide +kernel
theorem dX0_pass_2 : decode cX0_pass 2 = .ok (.sipush 200, 3) := by decide +kernel
theorem dX0_pass_5 : decode cX0_pass 5 = .ok (.invokestatic 70, 3) := by decide +kernel
theorem dX0_pass_8 : decode cX0_pass 8 = .ok (.iconst 0, 1) := by decide +kernel
theorem dX0_pass_9 : decode cX0_pass 9 = .ok (.istore_n 2, 1) := by decide +kernel
theorem dX0_pass_10 : decode cX0_pass 10 = .ok (.iconst 0, 1) := by decide +kernel
theorem dX0_pass_11 : decode cX0_pass 11 = .ok (.istore_n 3, 1) := by decide +kernel
theorem dX0_pass_12 : decode cX0_pass 12 = .ok (.iload_n 3, 1) := by decide +kernel
theorem dX0_pass_13 : decode cX0_pass 13 = .ok (.aload_n 0, 1) := by decide +kernel
theorem dX0_pass_14 : decode cX0_pass 14 = .ok (.getfield 74, 3) := by decide +kernel
theorem dX0_pass_17 : decode cX0_pass 17 = .ok (.if_icmp .ge 18, 3) := by decide +kernel
theorem dX0_pass_20 : decode cX0_pass 20 = .ok (.iload_n 2, 1) := by decide +kernel
theorem dX0_pass_21 : decode cX0_pass 21 = .ok (.aload_n 0, 1) := by decide +kernel
theorem dX0_pass_22 : decode cX0_pass 22 = .ok (.iload_n 3, 1) := by decide +kernel
theorem dX0_pass_23 : decode cX0_pass 23 = .ok (.iload_n 1, 1) := by decide +kernel
theorem dX0_pass_24 : decode cX0_pass 24 = .ok (.invokevirtual 115, 3) := by decide +kernel
theorem dX0_pass_27 : decode cX0_pass 27 = .ok (.iadd, 1) := by decide +kernel
theorem dX0_pass_28 : decode cX0_pass 28 = .ok (.istore_n 2, 1) := by decide +kernel
theorem dX0_pass_29 : decode cX0_pass 29 = .ok (.iinc 3 1, 3) := by decide +kernel
theorem dX0_pass_32 : decode cX0_pass 32 = .ok (.goto (-20), 3) := by decide +kernel
theorem dX0_pass_35 : decode cX0_pass 35 = .ok (.aload_n 0, 1) := by decide +kernel
theorem dX0_pass_36 : decode cX0_pass 36 = .ok (.dup, 1) := by decide +kernel
theorem dX0_pass_37 : decode cX0_pass 37 = .ok (.getfield 101, 3) := by decide +kernel
theorem dX0_pass_40 : decode cX0_pass 40 = .ok (.iload_n 1, 1) := by decide +kernel
theorem dX0_pass_41 : decode cX0_pass 41 = .ok (.iadd, 1) := by decide +kernel
theorem dX0_pass_42 : decode cX0_pass 42 = .ok (.putfield 101, 3) := by decide +kernel
theorem dX0_pass_45 : decode cX0_pass 45 = .ok (.iload_n 2, 1) := by decide +kernel
theorem dX0_pass_46 : decode cX0_pass 46 = .ok (.ireturn, 1) := by decide +kernel
theorem dX0_day_0 : decode cX0_day 0 = .ok (.aload_n 0, 1) := by decide +kernel
theorem dX0_day_1 : decode cX0_day 1 = .ok (.getfield 101, 3) := by decide +kernel
theorem dX0_day_4 : decode cX0_day 4 = .ok (.bipush 48, 2) := by decide +kernel
theorem dX0_day_6 : decode cX0_day 6 = .ok (.idiv, 1) := by decide +kernel
theorem dX0_day_7 : decode cX0_day 7 = .ok (.ireturn, 1) := by decide +kernel
theorem dX0_halfHour_0 : decode cX0_halfHour 0 = .ok (.aload_n 0, 1) := by decide +kernel
theorem dX0_halfHour_1 : decode cX0_halfHour 1 = .ok (.getfield 101, 3) := by decide +kernel
theorem dX0_halfHour_4 : decode cX0_halfHour 4 = .ok (.bipush 48, 2) := by decide +kernel
theorem dX0_halfHour_6 : decode cX0_halfHour 6 = .ok (.irem, 1) := by decide +kernel
theorem dX0_halfHour_7 : decode cX0_halfHour 7 = .ok (.ireturn, 1) := by decide +kernel
set_option maxRecDepth 20000 in
theorem ggX0_duskIn_X0_requireWithin : GoodIn wsX0_duskIn wsX0_requireWithin := goodIn_ca (goodIn_r _ [4, 5, 6] (by decide +kernel) (by decide +kernel)) (goodIn_sub (fun _ h => List.mem_cons_of_mem _ (List.mem_append_right _ h)) (by decide +kernel))
set_option maxRecDepth 20000 in
theorem gX0_duskIn_X0_requireWithin : GoodIn wsX0_duskIn (va_wsS RX0 70 yX0_requireWithin wsX0_requireWithin) := goodIn_app (goodIn_of _ (by decide +kernel)) ggX0_duskIn_X0_requireWithin
set_option maxRecDepth 20000 in
theorem ggX0_duskIn_X0_day : GoodIn wsX0_duskIn wsX0_day := goodIn_r _ [10, 11, 20, 21, 22, 23, 24, 25, 26, 27, 28, 29, 30, 31, 32, 33, 34, 35] (by decide +kernel) (by decide +kernel)
set_option maxRecDepth 20000 in
theorem gX0_duskIn_X0_day : GoodIn wsX0_duskIn (wsV RX0 118 RX0 yX0_day wsX0_day) := goodIn_app (goodIn_of _ (by decide +kernel)) ggX0_duskIn_X0_day
set_option maxRecDepth 20000 in
theorem ggX0_duskIn_X0_duskOf : GoodIn wsX0_duskIn wsX0_duskOf := goodIn_r _ [15, 16, 17, 18, 3, 19, 20, 21, 22, 23, 24, 25, 26, 27, 28, 29, 30, 31, 32, 33, 34, 35] (by decide +kernel) (by decide +kernel)
set_option maxRecDepth 20000 in
theorem gX0_duskIn_X0_duskOf : GoodIn wsX0_duskIn (wsV RX0 122 RX0 yX0_duskOf wsX0_duskOf) := goodIn_app (goodIn_of _ (by decide +kernel)) ggX0_duskIn_X0_duskOf
theorem dX0_duskIn_0 : decode cX0_duskIn 0 = .ok (.iload_n 1, 1) := by decide +kernel
theorem dX0_duskIn_1 : decode cX0_duskIn 1 = .ok (.iconst 0, 1) := by decide +kernel
theorem dX0_duskIn_2 : decode cX0_duskIn 2 = .ok (.bipush 99, 2) := by decide +kernel
theorem dX0_duskIn_4 : decode cX0_duskIn 4 = .ok (.invokestatic 70, 3) := by decide +kernel
theorem dX0_duskIn_7 : decode cX0_duskIn 7 = .ok (.aload_n 0, 1) := by decide +kernel
theorem dX0_duskIn_8 : decode cX0_duskIn 8 = .ok (.aload_n 0, 1) := by decide +kernel
theorem dX0_duskIn_9 : decode cX0_duskIn 9 = .ok (.invokevirtual 118, 3) := by decide +kernel
theorem dX0_duskIn_12 : decode cX0_duskIn 12 = .ok (.iload_n 1, 1) := by decide +kernel
theorem dX0_duskIn_13 : decode cX0_duskIn 13 = .ok (.iadd, 1) := by decide +kernel
theorem dX0_duskIn_14 : decode cX0_duskIn 14 = .ok (.invokevirtual 122, 3) := by decide +kernel
theorem dX0_duskIn_17 : decode cX0_duskIn 17 = .ok (.ireturn, 1) := by decide +kernel
set_option maxRecDepth 20000 in
theorem ggX0_dawnIn_X0_requireWithin : GoodIn wsX0_dawnIn wsX0_requireWithin := goodIn_ca (goodIn_r _ [4, 5, 6] (by decide +kernel) (by decide +kernel)) (goodIn_sub (fun _ h => List.mem_cons_of_mem _ (List.mem_append_right _ h)) (by decide +kernel))
set_option maxRecDepth 20000 in
theorem gX0_dawnIn_X0_requireWithin : GoodIn wsX0_dawnIn (va_wsS RX0 70 yX0_requireWithin wsX0_requireWithin) := goodIn_app (goodIn_of _ (by decide +kernel)) ggX0_dawnIn_X0_requireWithin
set_option maxRecDepth 20000 in
theorem ggX0_dawnIn_X0_day : GoodIn wsX0_dawnIn wsX0_day := goodIn_r _ [10, 11, 18, 19, 20, 21, 22, 23, 24, 25, 26, 27, 28, 29, 30, 31, 32, 33] (by decide +kernel) (by decide +kernel)
set_option maxRecDepth 20000 in
theorem gX0_dawnIn_X0_day : GoodIn wsX0_dawnIn (wsV RX0 118 RX0 yX0_day wsX0_day) := goodIn_app (goodIn_of _ (by decide +kernel)) ggX0_dawnIn_X0_day
set_option maxRecDepth 20000 in
theorem ggX0_dawnIn_X0_dawnOf : GoodIn wsX0_dawnIn wsX0_dawnOf := goodIn_r _ [14, 15, 16, 3, 17] (by decide +kernel) (by decide +kernel)
set_option maxRecDepth 20000 in
theorem gX0_dawnIn_X0_dawnOf : GoodIn wsX0_dawnIn (va_wsS RX0 125 yX0_dawnOf wsX0_dawnOf) := goodIn_app (goodIn_of _ (by decide +kernel)) ggX0_dawnIn_X0_dawnOf
theorem dX0_dawnIn_0 : decode cX0_dawnIn 0 = .ok (.iload_n 1, 1) := by decide +kernel
theorem dX0_dawnIn_1 : decode cX0_dawnIn 1 = .ok (.iconst 0, 1) := by decide +kernel
theorem dX0_dawnIn_2 : decode cX0_dawnIn 2 = .ok (.bipush 99, 2) := by decide +kernel
theorem dX0_dawnIn_4 : decode cX0_dawnIn 4 = .ok (.invokestatic 70, 3) := by decide +kernel
theorem dX0_dawnIn_7 : decode cX0_dawnIn 7 = .ok (.aload_n 0, 1) := by decide +kernel
theorem dX0_dawnIn_8 : decode cX0_dawnIn 8 = .ok (.invokevirtual 118, 3) := by decide +kernel
theorem dX0_dawnIn_11 : decode cX0_dawnIn 11 = .ok (.iload_n 1, 1) := by decide +kernel
theorem dX0_dawnIn_12 : decode cX0_dawnIn 12 = .ok (.iadd, 1) := by decide +kernel
theorem dX0_dawnIn_13 : decode cX0_dawnIn 13 = .ok (.invokestatic 125, 3) := by decide +kernel
theorem dX0_dawnIn_16 : decode cX0_dawnIn 16 = .ok (.ireturn, 1) := by decide +kernel
set_option maxRecDepth 20000 in
theorem ggX0_quarterOf_X0_requireOrder : GoodIn wsX0_quarterOf wsX0_requireOrder := goodIn_ca (goodIn_r _ [6, 7, 8, 9, 10, 11, 12, 13, 14, 15, 16, 17, 18, 19, 20, 21, 22, 23, 24, 25] (by decide +kernel) (by decide +kernel)) (goodIn_sub (fun _ h => List.mem_cons_of_mem _ (List.mem_append_right _ h)) (by decide +kernel))
set_option maxRecDepth 20000 in
theorem gX0_quarterOf_X0_requireOrder : GoodIn wsX0_quarterOf (wsV RX0 79 RX0 yX0_requireOrder wsX0_requireOrder) := goodIn_app (goodIn_of _ (by decide +kernel)) ggX0_quarterOf_X0_requireOrder
theorem dX0_quarterOf_0 : decode cX0_quarterOf 0 = .ok (.aload_n 0, 1) := by decide +kernel
theorem dX0_quarterOf_1 : decode cX0_quarterOf 1 = .ok (.iload_n 1, 1) := by decide +kernel
theorem dX0_quarterOf_2 : decode cX0_quarterOf 2 = .ok (.invokevirtual 79, 3) := by decide +kernel
theorem dX0_quarterOf_5 : decode cX0_quarterOf 5 = .ok (.aload_n 0, 1) := by decide +kernel
theorem dX0_quarterOf_6 : decode cX0_quarterOf 6 = .ok (.getfield 9, 3) := by decide +kernel
theorem dX0_quarterOf_9 : decode cX0_quarterOf 9 = .ok (.iload_n 1, 1) := by decide +kernel
theorem dX0_quarterOf_10 : decode cX0_quarterOf 10 = .ok (.iaload, 1) := by decide +kernel
theorem dX0_quarterOf_11 : decode cX0_quarterOf 11 = .ok (.ireturn, 1) := by decide +kernel
set_option maxRecDepth 20000 in
theorem ggX0_colourOf_X0_requireOrder : GoodIn wsX0_colourOf wsX0_requireOrder := goodIn_ca (goodIn_r _ [6, 7, 8, 9, 10, 11, 12, 13, 14, 15, 16, 17, 18, 19, 20, 21, 22, 23, 24, 25] (by decide +kernel) (by decide +kernel)) (goodIn_sub (fun _ h => List.mem_cons_of_mem _ (List.mem_append_right _ h)) (by decide +kernel))
set_option maxRecDepth 20000 in
theorem gX0_colourOf_X0_requireOrder : GoodIn wsX0_colourOf (wsV RX0 79 RX0 yX0_requireOrder wsX0_requireOrder) := goodIn_app (goodIn_of _ (by decide +kernel)) ggX0_colourOf_X0_requireOrder
theorem dX0_colourOf_0 : decode cX0_colourOf 0 = .ok (.aload_n 0, 1) := by decide +kernel
theorem dX0_colourOf_1 : decode cX0_colourOf 1 = .ok (.iload_n 1, 1) := by decide +kernel
theorem dX0_colourOf_2 : decode cX0_colourOf 2 = .ok (.invokevirtual 79, 3) := by decide +kernel
theorem dX0_colourOf_5 : decode cX0_colourOf 5 = .ok (.aload_n 0, 1) := by decide +kernel
theorem dX0_colourOf_6 : decode cX0_colourOf 6 = .ok (.getfield 19, 3) := by decide +kernel
theorem dX0_colourOf_9 : decode cX0_colourOf 9 = .ok (.iload_n 1, 1) := by decide +kernel
theorem dX0_colourOf_10 : decode cX0_colourOf 10 = .ok (.iaload, 1) := by decide +kernel
theorem dX0_colourOf_11 : decode cX0_colourOf 11 = .ok (.ireturn, 1) := by decide +kernel
set_option maxRecDepth 20000 in
theorem ggX0_isInForce_X0_requireOrder : GoodIn wsX0_isInForce wsX0_requireOrder := goodIn_ca (goodIn_r _ [6, 7, 8, 9, 10, 11, 12, 13, 14, 15, 16, 17, 18, 19, 20, 21, 22, 23, 24, 25] (by decide +kernel) (by decide +kernel)) (goodIn_sub (fun _ h => List.mem_cons_of_mem _ (List.mem_append_right _ h)) (by decide +kernel))
set_option maxRecDepth 20000 in
theorem gX0_isInForce_X0_requireOrder : GoodIn wsX0_isInForce (wsV RX0 79 RX0 yX0_requireOrder wsX0_requireOrder) := goodIn_app (goodIn_of _ (by decide +kernel)) ggX0_isInForce_X0_requireOrder
theorem dX0_isInForce_0 : decode cX0_isInForce 0 = .ok (.aload_n 0, 1) := by decide +kernel
theorem dX0_isInForce_1 : decode cX0_isInForce 1 = .ok (.iload_n 1, 1) := by decide +kernel
theorem dX0_isInForce_2 : decode cX0_isInForce 2 = .ok (.invokevirtual 79, 3) := by decide +kernel
theorem dX0_isInForce_5 : decode cX0_isInForce 5 = .ok (.aload_n 0, 1) := by decide +kernel
theorem dX0_isInForce_6 : decode cX0_isInForce 6 = .ok (.getfield 22, 3) := by decide +kernel
theorem dX0_isInForce_9 : decode cX0_isInForce 9 = .ok (.iload_n 1, 1) := by decide +kernel
theorem dX0_isInForce_10 : decode cX0_isInForce 10 = .ok (.baload, 1) := by decide +kernel
theorem dX0_isInForce_11 : decode cX0_isInForce 11 = .ok (.ireturn, 1) := by decide +kernel
set_option maxRecDepth 20000 in
theorem ggX0_isOn_X0_requireOrder : GoodIn wsX0_isOn wsX0_requireOrder := goodIn_ca (goodIn_r _ [6, 7, 8, 9, 32, 33, 34, 35, 36, 37, 38, 39, 40, 41, 42, 43, 44, 45, 46, 47] (by decide +kernel) (by decide +kernel)) (goodIn_sub (fun _ h => List.mem_cons_of_mem _ (List.mem_append_right _ h)) (by decide +kernel))
set_option maxRecDepth 20000 in
theorem gX0_isOn_X0_requireOrder : GoodIn wsX0_isOn (wsV RX0 79 RX0 yX0_requireOrder wsX0_requireOrder) := goodIn_app (goodIn_of _ (by decide +kernel)) ggX0_isOn_X0_requireOrder
set_option maxRecDepth 20000 in
theorem ggX0_isOn_X0_isOnAt : GoodIn wsX0_isOn wsX0_isOnAt := goodIn_r _ [13, 14, 15, 16, 17, 5, 18, 19, 20, 21, 22, 23, 24, 25, 26, 27, 28, 29, 30, 31, 32, 33, 34, 35, 36, 37, 38, 39, 40, 41, 42, 43, 44, 45, 46, 47] (by decide +kernel) (by decide +kernel)
set_option maxRecDepth 20000 in
theorem gX0_isOn_X0_isOnAt : GoodIn wsX0_isOn (wsV RX0 128 RX0 yX0_isOnAt wsX0_isOnAt) := goodIn_app (goodIn_of _ (by decide +kernel)) ggX0_isOn_X0_isOnAt
theorem dX0_isOn_0 : decode cX0_isOn 0 = .ok (.aload_n 0, 1) := by decide +kernel
theorem dX0_isOn_1 : decode cX0_isOn 1 = .ok (.iload_n 1, 1) := by decide +kernel
theorem dX0_isOn_2 : decode cX0_isOn 2 = .ok (.invokevirtual 79, 3) := by decide +kernel
theorem dX0_isOn_5 : decode cX0_isOn 5 = .ok (.aload_n 0, 1) := by decide +kernel
theorem dX0_isOn_6 : decode cX0_isOn 6 = .ok (.iload_n 1, 1) := by decide +kernel
theorem dX0_isOn_7 : decode cX0_isOn 7 = .ok (.aload_n 0, 1) := by decide +kernel
theorem dX0_isOn_8 : decode cX0_isOn 8 = .ok (.getfield 101, 3) := by decide +kernel
theorem dX0_isOn_11 : decode cX0_isOn 11 = .ok (.invokevirtual 128, 3) := by decide +kernel
theorem dX0_isOn_14 : decode cX0_isOn 14 = .ok (.ireturn, 1) := by decide +kernel
set_option maxRecDepth 20000 in
theorem ggX0_isExempt_X0_requireOrder : GoodIn wsX0_isExempt wsX0_requireOrder := goodIn_ca (goodIn_r _ [5, 6, 7, 8, 17, 18, 19, 20, 21, 22, 23, 24, 25, 26, 27, 28, 29, 30, 31, 32] (by decide +kernel) (by decide +kernel)) (goodIn_sub (fun _ h => List.mem_cons_of_mem _ (List.mem_append_right _ h)) (by decide +kernel))
set_option maxRecDepth 20000 in
theorem gX0_isExempt_X0_requireOrder : GoodIn wsX0_isExempt (wsV RX0 79 RX0 yX0_requireOrder wsX0_requireOrder) := goodIn_app (goodIn_of _ (by decide +kernel)) ggX0_isExempt_X0_requireOrder
set_option maxRecDepth 20000 in
theorem ggX0_isExempt_X0_requireTrade : GoodIn wsX0_isExempt wsX0_requireTrade := goodIn_ca (goodIn_r _ [11, 6, 7] (by decide +kernel) (by decide +kernel)) (goodIn_sub (fun _ h => List.mem_cons_of_mem _ (List.mem_append_right _ h)) (by decide +kernel))
set_option maxRecDepth 20000 in
theorem gX0_isExempt_X0_requireTrade : GoodIn wsX0_isExempt (va_wsS RX0 55 yX0_requireTrade wsX0_requireTrade) := goodIn_app (goodIn_of _ (by decide +kernel)) ggX0_isExempt_X0_requireTrade
set_option maxRecDepth 20000 in
theorem ggX0_isExempt_X0_exempts : GoodIn wsX0_isExempt wsX0_exempts := goodIn_r _ [15, 16, 17, 18, 19, 20, 21, 22, 23, 24, 25, 26, 27, 28, 29, 30, 31, 32] (by decide +kernel) (by decide +kernel)
set_option maxRecDepth 20000 in
theorem gX0_isExempt_X0_exempts : GoodIn wsX0_isExempt (wsV RX0 82 RX0 yX0_exempts wsX0_exempts) := goodIn_app (goodIn_of _ (by decide +kernel)) ggX0_isExempt_X0_exempts
theorem dX0_isExempt_0 : decode cX0_isExempt 0 = .ok (.aload_n 0, 1) := by decide +kernel
theorem dX0_isExempt_1 : decode cX0_isExempt 1 = .ok (.iload_n 1, 1) := by decide +kernel
theorem dX0_isExempt_2 : decode cX0_isExempt 2 = .ok (.invokevirtual 79, 3) := by decide +kernel
theorem dX0_isExempt_5 : decode cX0_isExempt 5 = .ok (.iload_n 2, 1) := by decide +kernel
theorem dX0_isExempt_6 : decode cX0_isExempt 6 = .ok (.invokestatic 55, 3) := by decide +kernel
theorem dX0_isExempt_9 : decode cX0_isExempt 9 = .ok (.aload_n 0, 1) := by decide +kernel
theorem dX0_isExempt_10 : decode cX0_isExempt 10 = .ok (.iload_n 1, 1) := by decide +kernel
theorem dX0_isExempt_11 : decode cX0_isExempt 11 = .ok (.iload_n 2, 1) := by decide +kernel
theorem dX0_isExempt_12 : decode cX0_isExempt 12 = .ok (.invokevirtual 82, 3) := by decide +kernel
theorem dX0_isExempt_15 : decode cX0_isExempt 15 = .ok (.ireturn, 1) := by decide +kernel
set_option maxRecDepth 20000 in
theorem ggX0_barredBy_X0_requireOrder : GoodIn wsX0_barredBy wsX0_requireOrder := goodIn_ca (goodIn_r _ [8, 9, 10, 11, 40, 41, 42, 43, 44, 45, 46, 47, 48, 49, 50, 51, 52, 53, 54, 55] (by decide +kernel) (by decide +kernel)) (goodIn_sub (fun _ h => List.mem_cons_of_mem _ (List.mem_append_right _ h)) (by decide +kernel))
set_option maxRecDepth 20000 in
theorem gX0_barredBy_X0_requireOrder : GoodIn wsX0_barredBy (wsV RX0 79 RX0 yX0_requireOrder wsX0_requireOrder) := goodIn_app (goodIn_of _ (by decide +kernel)) ggX0_barredBy_X0_requireOrder
set_option maxRecDepth 20000 in
theorem ggX0_barredBy_X0_bars : GoodIn wsX0_barredBy wsX0_bars := goodIn_r _ [15, 2, 16, 17, 18, 19, 20, 7, 21, 22, 23, 24, 25, 26, 27, 28, 29, 30, 31, 32, 33, 34, 35, 36, 37, 38, 39, 40, 41, 42, 43, 44, 45, 46, 47, 48, 49, 50, 51, 52, 53, 54, 55] (by decide +kernel) (by decide +kernel)
set_option maxRecDepth 20000 in
theorem gX0_barredBy_X0_bars : GoodIn wsX0_barredBy (wsV RX0 104 RX0 yX0_bars wsX0_bars) := goodIn_app (goodIn_of _ (by decide +kernel)) ggX0_barredBy_X0_bars
theorem dX0_barredBy_0 : decode cX0_barredBy 0 = .ok (.aload_n 0, 1) := by decide +kernel
theorem dX0_barredBy_1 : decode cX0_barredBy 1 = .ok (.iload_n 1, 1) := by decide +kernel
theorem dX0_barredBy_2 : decode cX0_barredBy 2 = .ok (.invokevirtual 79, 3) := by decide +kernel
theorem dX0_barredBy_5 : decode cX0_barredBy 5 = .ok (.iconst 0, 1) := by decide +kernel
theorem dX0_barredBy_6 : decode cX0_barredBy 6 = .ok (.istore_n 2, 1) := by decide +kernel
theorem dX0_barredBy_7 : decode cX0_barredBy 7 = .ok (.iconst 0, 1) := by decide +kernel
theorem dX0_barredBy_8 : decode cX0_barredBy 8 = .ok (.istore_n 3, 1) := by decide +kernel
theorem dX0_barredBy_9 : decode cX0_barredBy 9 = .ok (.iload_n 3, 1) := by decide +kernel
theorem dX0_barredBy_10 : decode cX0_barredBy 10 = .ok (.aload_n 0, 1) := by decide +kernel
theorem dX0_barredBy_11 : decode cX0_barredBy 11 = .ok (.getfield 59, 3) := by decide +kernel
theorem dX0_barredBy_14 : decode cX0_barredBy 14 = .ok (.if_icmp .ge 31, 3) := by decide +kernel
theorem dX0_barredBy_17 : decode cX0_barredBy 17 = .ok (.aload_n 0, 1) := by decide +kernel
theorem dX0_barredBy_18 : decode cX0_barredBy 18 = .ok (.iload_n 1, 1) := by decide +kernel
theorem dX0_barredBy_19 : decode cX0_barredBy 19 = .ok (.iload_n 3, 1) := by decide +kernel
theorem dX0_barredBy_20 : decode cX0_barredBy 20 = .ok (.aload_n 0, 1) := by decide +kernel
theorem dX0_barredBy_21 : decode cX0_barredBy 21 = .ok (.getfield 9, 3) := by decide +kernel
theorem dX0_barredBy_24 : decode cX0_barredBy 24 = .ok (.iload_n 1, 1) := by decide +kernel
theorem dX0_barredBy_25 : decode cX0_barredBy 25 = .ok (.iaload, 1) := by decide +kernel
theorem dX0_barredBy_26 : decode cX0_barredBy 26 = .ok (.aload_n 0, 1) := by decide +kernel
theorem dX0_barredBy_27 : decode cX0_barredBy 27 = .ok (.getfield 101, 3) := by decide +kernel
theorem dX0_barredBy_30 : decode cX0_barredBy 30 = .ok (.invokevirtual 104, 3) := by decide +kernel
theorem dX0_barredBy_33 : decode cX0_barredBy 33 = .ok (.ifCond .eq 6, 3) := by decide +kernel
theorem dX0_barredBy_36 : decode cX0_barredBy 36 = .ok (.iinc 2 1, 3) := by decide +kernel
theorem dX0_barredBy_39 : decode cX0_barredBy 39 = .ok (.iinc 3 1, 3) := by decide +kernel
theorem dX0_barredBy_42 : decode cX0_barredBy 42 = .ok (.goto (-33), 3) := by decide +kernel
theorem dX0_barredBy_45 : decode cX0_barredBy 45 = .ok (.iload_n 2, 1) := by decide +kernel
theorem dX0_barredBy_46 : decode cX0_barredBy 46 = .ok (.ireturn, 1) := by decide +kernel
set_option maxRecDepth 20000 in
theorem ggX0_tradeOf_X0_requirePerson : GoodIn wsX0_tradeOf wsX0_requirePerson := goodIn_ca (goodIn_r _ [6, 7, 8, 9, 10, 11, 12, 13, 14, 15, 16, 17, 18, 19, 20, 21, 22, 23, 24, 25] (by decide +kernel) (by decide +kernel)) (goodIn_sub (fun _ h => List.mem_cons_of_mem _ (List.mem_append_right _ h)) (by decide +kernel))
set_option maxRecDepth 20000 in
theorem gX0_tradeOf_X0_requirePerson : GoodIn wsX0_tradeOf (wsV RX0 89 RX0 yX0_requirePerson wsX0_requirePerson) := goodIn_app (goodIn_of _ (by decide +kernel)) ggX0_tradeOf_X0_requirePerson
theorem dX0_tradeOf_0 : decode cX0_tradeOf 0 = .ok (.aload_n 0, 1) := by decide +kernel
theorem dX0_tradeOf_1 : decode cX0_tradeOf 1 = .ok (.iload_n 1, 1) := by decide +kernel
theorem dX0_tradeOf_2 : decode cX0_tradeOf 2 = .ok (.invokevirtual 89, 3) := by decide +kernel
theorem dX0_tradeOf_5 : decode cX0_tradeOf 5 = .ok (.aload_n 0, 1) := by decide +kernel
theorem dX0_tradeOf_6 : decode cX0_tradeOf 6 = .ok (.getfield 29, 3) := by decide +kernel
theorem dX0_tradeOf_9 : decode cX0_tradeOf 9 = .ok (.iload_n 1, 1) := by decide +kernel
theorem dX0_tradeOf_10 : decode cX0_tradeOf 10 = .ok (.iaload, 1) := by decide +kernel
theorem dX0_tradeOf_11 : decode cX0_tradeOf 11 = .ok (.ireturn, 1) := by decide +kernel
set_option maxRecDepth 20000 in
theorem ggX0_stampsOf_X0_requirePerson : GoodIn wsX0_stampsOf wsX0_requirePerson := goodIn_ca (goodIn_r _ [6, 7, 8, 9, 16, 17, 18, 19, 20, 21, 22, 23, 24, 25, 26, 27, 28, 29, 30, 31] (by decide +kernel) (by decide +kernel)) (goodIn_sub (fun _ h => List.mem_cons_of_mem _ (List.mem_append_right _ h)) (by decide +kernel))
set_option maxRecDepth 20000 in
theorem gX0_stampsOf_X0_requirePerson : GoodIn wsX0_stampsOf (wsV RX0 89 RX0 yX0_requirePerson wsX0_requirePerson) := goodIn_app (goodIn_of _ (by decide +kernel)) ggX0_stampsOf_X0_requirePerson
set_option maxRecDepth 20000 in
theorem ggX0_stampsOf_X0_requireColour : GoodIn wsX0_stampsOf wsX0_requireColour := goodIn_ca (goodIn_r _ [12, 7, 8] (by decide +kernel) (by decide +kernel)) (goodIn_sub (fun _ h => List.mem_cons_of_mem _ (List.mem_append_right _ h)) (by decide +kernel))
set_option maxRecDepth 20000 in
theorem gX0_stampsOf_X0_requireColour : GoodIn wsX0_stampsOf (va_wsS RX0 67 yX0_requireColour wsX0_requireColour) := goodIn_app (goodIn_of _ (by decide +kernel)) ggX0_stampsOf_X0_requireColour
set_option maxRecDepth 20000 in
theorem ggX0_stampsOf_X0_stampPlace : GoodIn wsX0_stampsOf wsX0_stampPlace := goodIn_r _ [15] (by decide +kernel) (by decide +kernel)
set_option maxRecDepth 20000 in
theorem gX0_stampsOf_X0_stampPlace : GoodIn wsX0_stampsOf (va_wsS RX0 92 yX0_stampPlace wsX0_stampPlace) := goodIn_app (goodIn_of _ (by decide +kernel)) ggX0_stampsOf_X0_stampPlace
theorem dX0_stampsOf_0 : decode cX0_stampsOf 0 = .ok (.aload_n 0, 1) := by decide +kernel
theorem dX0_stampsOf_1 : decode cX0_stampsOf 1 = .ok (.iload_n 1, 1) := by decide +kernel
theorem dX0_stampsOf_2 : decode cX0_stampsOf 2 = .ok (.invokevirtual 89, 3) := by decide +kernel
theorem dX0_stampsOf_5 : decode cX0_stampsOf 5 = .ok (.iload_n 2, 1) := by decide +kernel
theorem dX0_stampsOf_6 : decode cX0_stampsOf 6 = .ok (.invokestatic 67, 3) := by decide +kernel
theorem dX0_stampsOf_9 : decode cX0_stampsOf 9 = .ok (.aload_n 0, 1) := by decide +kernel
theorem dX0_stampsOf_10 : decode cX0_stampsOf 10 = .ok (.getfield 38, 3) := by decide +kernel
theorem dX0_stampsOf_13 : decode cX0_stampsOf 13 = .ok (.iload_n 1, 1) := by decide +kernel
theorem dX0_stampsOf_14 : decode cX0_stampsOf 14 = .ok (.iload_n 2, 1) := by decide +kernel
theorem dX0_stampsOf_15 : decode cX0_stampsOf 15 = .ok (.invokestatic 92, 3) := by decide +kernel
theorem dX0_stampsOf_18 : decode cX0_stampsOf 18 = .ok (.iaload, 1) := by decide +kernel
theorem dX0_stampsOf_19 : decode cX0_stampsOf 19 = .ok (.ireturn, 1) := by decide +kernel
set_option maxRecDepth 20000 in
theorem ggX0_owes_X0_requirePerson : GoodIn wsX0_owes wsX0_requirePerson := goodIn_ca (goodIn_r _ [6, 7, 8, 9, 10, 11, 12, 13, 14, 15, 16, 17, 18, 19, 20, 21, 22, 23, 24, 25] (by decide +kernel) (by decide +kernel)) (goodIn_sub (fun _ h => List.mem_cons_of_mem _ (List.mem_append_right _ h)) (by decide +kernel))
set_option maxRecDepth 20000 in
theorem gX0_owes_X0_requirePerson : GoodIn wsX0_owes (wsV RX0 89 RX0 yX0_requirePerson wsX0_requirePerson) := goodIn_app (goodIn_of _ (by decide +kernel)) ggX0_owes_X0_requirePerson
theorem dX0_owes_0 : decode cX0_owes 0 = .ok (.aload_n 0, 1) := by decide +kernel
theorem dX0_owes_1 : decode cX0_owes 1 = .ok (.iload_n 1, 1) := by decide +kernel
theorem dX0_owes_2 : decode cX0_owes 2 = .ok (.invokevirtual 89, 3) := by decide +kernel
theorem dX0_owes_5 : decode cX0_owes 5 = .ok (.aload_n 0, 1) := by decide +kernel
theorem dX0_owes_6 : decode cX0_owes 6 = .ok (.getfield 35, 3) := by decide +kernel
theorem dX0_owes_9 : decode cX0_owes 9 = .ok (.iload_n 1, 1) := by decide +kernel
theorem dX0_owes_10 : decode cX0_owes 10 = .ok (.iaload, 1) := by decide +kernel
theorem dX0_owes_11 : decode cX0_owes 11 = .ok (.ireturn, 1) := by decide +kernel
set_option maxRecDepth 20000 in
theorem ggX0_timesFined_X0_requirePerson : GoodIn wsX0_timesFined wsX0_requirePerson := goodIn_ca (goodIn_r _ [6, 7, 8, 9, 10, 11, 12, 13, 14, 15, 16, 17, 18, 19, 20, 21, 22, 23, 24, 25] (by decide +kernel) (by decide +kernel)) (goodIn_sub (fun _ h => List.mem_cons_of_mem _ (List.mem_append_right _ h)) (by decide +kernel))
set_option maxRecDepth 20000 in
theorem gX0_timesFined_X0_requirePerson : GoodIn wsX0_timesFined (wsV RX0 89 RX0 yX0_requirePerson wsX0_requirePerson) := goodIn_app (goodIn_of _ (by decide +kernel)) ggX0_timesFined_X0_requirePerson
theorem dX0_timesFined_0 : decode cX0_timesFined 0 = .ok (.aload_n 0, 1) := by decide +kernel
theorem dX0_timesFined_1 : decode cX0_timesFined 1 = .ok (.iload_n 1, 1) := by decide +kernel
theorem dX0_timesFined_2 : decode cX0_timesFined 2 = .ok (.invokevirtual 89, 3) := by decide +kernel
theorem dX0_timesFined_5 : decode cX0_timesFined 5 = .ok (.aload_n 0, 1) := by decide +kernel
theorem dX0_timesFined_6 : decode cX0_timesFined 6 = .ok (.getfield 32, 3) := by decide +kernel
theorem dX0_timesFined_9 : decode cX0_timesFined 9 = .ok (.iload_n 1, 1) := by decide +kernel
theorem dX0_timesFined_10 : decode cX0_timesFined 10 = .ok (.iaload, 1) := by decide +kernel
theorem dX0_timesFined_11 : decode cX0_timesFined 11 = .ok (.ireturn, 1) := by decide +kernel
set_option maxRecDepth 20000 in
theorem ggX0_ordersAgainst_X0_requirePerson : GoodIn wsX0_ordersAgainst wsX0_requirePerson := goodIn_ca (goodIn_r _ [7, 8, 9, 10, 45, 46, 47, 48, 49, 50, 51, 52, 53, 54, 55, 56, 57, 58, 59, 60] (by decide +kernel) (by decide +kernel)) (goodIn_sub (fun _ h => List.mem_cons_of_mem _ (List.mem_append_right _ h)) (by decide +kernel))
set_option maxRecDepth 20000 in
theorem gX0_ordersAgainst_X0_requirePerson : GoodIn wsX0_ordersAgainst (wsV RX0 89 RX0 yX0_requirePerson wsX0_requirePerson) := goodIn_app (goodIn_of _ (by decide +kernel)) ggX0_ordersAgainst_X0_requirePerson
set_option maxRecDepth 20000 in
theorem ggX0_ordersAgainst_X0_requireQuarter : GoodIn wsX0_ordersAgainst wsX0_requireQuarter := goodIn_ca (goodIn_r _ [14, 8, 9, 15, 45, 46, 47, 48, 49, 50, 51, 52, 53, 54, 55, 56, 57, 58, 59, 60] (by decide +kernel) (by decide +kernel)) (goodIn_sub (fun _ h => List.mem_cons_of_mem _ (List.mem_append_right _ h)) (by decide +kernel))
set_option maxRecDepth 20000 in
theorem gX0_ordersAgainst_X0_requireQuarter : GoodIn wsX0_ordersAgainst (wsV RX0 64 RX0 yX0_requireQuarter wsX0_requireQuarter) := goodIn_app (goodIn_of _ (by decide +kernel)) ggX0_ordersAgainst_X0_requireQuarter
set_option maxRecDepth 20000 in
theorem ggX0_ordersAgainst_X0_bars : GoodIn wsX0_ordersAgainst wsX0_bars := goodIn_r _ [19, 20, 21, 22, 23, 24, 25, 6, 26, 27, 28, 29, 30, 31, 32, 33, 34, 35, 36, 37, 38, 39, 40, 41, 42, 43, 44, 45, 46, 47, 48, 49, 50, 51, 52, 53, 54, 55, 56, 57, 58, 59, 60] (by decide +kernel) (by decide +kernel)
set_option maxRecDepth 20000 in
theorem gX0_ordersAgainst_X0_bars : GoodIn wsX0_ordersAgainst (wsV RX0 104 RX0 yX0_bars wsX0_bars) := goodIn_app (goodIn_of _ (by decide +kernel)) ggX0_ordersAgainst_X0_bars
theorem dX0_ordersAgainst_0 : decode cX0_ordersAgainst 0 = .ok (.aload_n 0, 1) := by decide +kernel
theorem dX0_ordersAgainst_1 : decode cX0_ordersAgainst 1 = .ok (.iload_n 1, 1) := by decide +kernel
theorem dX0_ordersAgainst_2 : decode cX0_ordersAgainst 2 = .ok (.invokevirtual 89, 3) := by decide +kernel
theorem dX0_ordersAgainst_5 : decode cX0_ordersAgainst 5 = .ok (.aload_n 0, 1) := by decide +kernel
theorem dX0_ordersAgainst_6 : decode cX0_ordersAgainst 6 = .ok (.iload_n 2, 1) := by decide +kernel
theorem dX0_ordersAgainst_7 : decode cX0_ordersAgainst 7 = .ok (.invokevirtual 64, 3) := by decide +kernel
theorem dX0_ordersAgainst_10 : decode cX0_ordersAgainst 10 = .ok (.iconst 0, 1) := by decide +kernel
theorem dX0_ordersAgainst_11 : decode cX0_ordersAgainst 11 = .ok (.istore_n 3, 1) := by decide +kernel
theorem dX0_ordersAgainst_12 : decode cX0_ordersAgainst 12 = .ok (.iconst 0, 1) := by decide +kernel
theorem dX0_ordersAgainst_13 : decode cX0_ordersAgainst 13 = .ok (.istore 4, 2) := by decide +kernel
theorem dX0_ordersAgainst_15 : decode cX0_ordersAgainst 15 = .ok (.iload 4, 2) := by decide +kernel
theorem dX0_ordersAgainst_17 : decode cX0_ordersAgainst 17 = .ok (.aload_n 0, 1) := by decide +kernel
theorem dX0_ordersAgainst_18 : decode cX0_ordersAgainst 18 = .ok (.getfield 74, 3) := by decide +kernel
theorem dX0_ordersAgainst_21 : decode cX0_ordersAgainst 21 = .ok (.if_icmp .ge 27, 3) := by decide +kernel
theorem dX0_ordersAgainst_24 : decode cX0_ordersAgainst 24 = .ok (.aload_n 0, 1) := by decide +kernel
theorem dX0_ordersAgainst_25 : decode cX0_ordersAgainst 25 = .ok (.iload 4, 2) := by decide +kernel
theorem dX0_ordersAgainst_27 : decode cX0_ordersAgainst 27 = .ok (.iload_n 1, 1) := by decide +kernel
theorem dX0_ordersAgainst_28 : decode cX0_ordersAgainst 28 = .ok (.iload_n 2, 1) := by decide +kernel
theorem dX0_ordersAgainst_29 : decode cX0_ordersAgainst 29 = .ok (.aload_n 0, 1) := by decide +kernel
theorem dX0_ordersAgainst_30 : decode cX0_ordersAgainst 30 = .ok (.getfield 101, 3) := by decide +kernel
theorem dX0_ordersAgainst_33 : decode cX0_ordersAgainst 33 = .ok (.invokevirtual 104, 3) := by decide +kernel
theorem dX0_ordersAgainst_36 : decode cX0_ordersAgainst 36 = .ok (.ifCond .eq 6, 3) := by decide +kernel
theorem dX0_ordersAgainst_39 : decode cX0_ordersAgainst 39 = .ok (.iinc 3 1, 3) := by decide +kernel
theorem dX0_ordersAgainst_42 : decode cX0_ordersAgainst 42 = .ok (.iinc 4 1, 3) := by decide +kernel
theorem dX0_ordersAgainst_45 : decode cX0_ordersAgainst 45 = .ok (.goto (-30), 3) := by decide +kernel
theorem dX0_ordersAgainst_48 : decode cX0_ordersAgainst 48 = .ok (.iload_n 3, 1) := by decide +kernel
theorem dX0_ordersAgainst_49 : decode cX0_ordersAgainst 49 = .ok (.ireturn, 1) := by decide +kernel
set_option maxRecDepth 20000 in
theorem ggX0_mayGo_X0_requirePerson : GoodIn wsX0_mayGo wsX0_requirePerson := goodIn_ca (goodIn_r _ [5, 6, 7, 8, 58, 59, 60, 61, 62, 63, 64, 65, 66, 67, 68, 69, 70, 71, 72, 73] (by decide +kernel) (by decide +kernel)) (goodIn_sub (fun _ h => List.mem_cons_of_mem _ (List.mem_append_right _ h)) (by decide +kernel))
set_option maxRecDepth 20000 in
theorem gX0_mayGo_X0_requirePerson : GoodIn wsX0_mayGo (wsV RX0 89 RX0 yX0_requirePerson wsX0_requirePerson) := goodIn_app (goodIn_of _ (by decide +kernel)) ggX0_mayGo_X0_requirePerson
set_option maxRecDepth 20000 in
theorem ggX0_mayGo_X0_requireQuarter : GoodIn wsX0_mayGo wsX0_requireQuarter := goodIn_ca (goodIn_r _ [12, 6, 7, 13, 58, 59, 60, 61, 62, 63, 64, 65, 66, 67, 68, 69, 70, 71, 72, 73] (by decide +kernel) (by decide +kernel)) (goodIn_sub (fun _ h => List.mem_cons_of_mem _ (List.mem_append_right _ h)) (by decide +kernel))
set_option maxRecDepth 20000 in
theorem gX0_mayGo_X0_requireQuarter : GoodIn wsX0_mayGo (wsV RX0 64 RX0 yX0_requireQuarter wsX0_requireQuarter) := goodIn_app (goodIn_of _ (by decide +kernel)) ggX0_mayGo_X0_requireQuarter
set_option maxRecDepth 20000 in
theorem ggX0_mayGo_X0_missing : GoodIn wsX0_mayGo wsX0_missing := goodIn_r _ [17, 18, 19, 20, 21, 22, 23, 24, 25, 26, 27, 28, 4, 29, 30, 31, 32, 33, 34, 35, 36, 37, 38, 39, 40, 41, 42, 43, 44, 45, 46, 47, 48, 49, 50, 51, 52, 53, 54, 55, 56, 57, 58, 59, 60, 61, 62, 63, 64, 65, 66, 67, 68, 69, 70, 71, 72, 73] (by decide +kernel) (by decide +kernel)
set_option maxRecDepth 20000 in
theorem gX0_mayGo_X0_missing : GoodIn wsX0_mayGo (wsV RX0 131 RX0 yX0_missing wsX0_missing) := goodIn_app (goodIn_of _ (by decide +kernel)) ggX0_mayGo_X0_missing
theorem dX0_mayGo_0 : decode cX0_mayGo 0 = .ok (.aload_n 0, 1) := by decide +kernel
theorem dX0_mayGo_1 : decode cX0_mayGo 1 = .ok (.iload_n 1, 1) := by decide +kernel
theorem dX0_mayGo_2 : decode cX0_mayGo 2 = .ok (.invokevirtual 89, 3) := by decide +kernel
theorem dX0_mayGo_5 : decode cX0_mayGo 5 = .ok (.aload_n 0, 1) := by decide +kernel
theorem dX0_mayGo_6 : decode cX0_mayGo 6 = .ok (.iload_n 2, 1) := by decide +kernel
theorem dX0_mayGo_7 : decode cX0_mayGo 7 = .ok (.invokevirtual 64, 3) := by decide +kernel
theorem dX0_mayGo_10 : decode cX0_mayGo 10 = .ok (.aload_n 0, 1) := by decide +kernel
theorem dX0_mayGo_11 : decode cX0_mayGo 11 = .ok (.iload_n 1, 1) := by decide +kernel
theorem dX0_mayGo_12 : decode cX0_mayGo 12 = .ok (.iload_n 2, 1) := by decide +kernel
theorem dX0_mayGo_13 : decode cX0_mayGo 13 = .ok (.iconst (-1), 1) := by decide +kernel
theorem dX0_mayGo_14 : decode cX0_mayGo 14 = .ok (.invokevirtual 131, 3) := by decide +kernel
theorem dX0_mayGo_17 : decode cX0_mayGo 17 = .ok (.ifCond .ne 7, 3) := by decide +kernel
theorem dX0_mayGo_20 : decode cX0_mayGo 20 = .ok (.iconst 1, 1) := by decide +kernel
theorem dX0_mayGo_21 : decode cX0_mayGo 21 = .ok (.goto 4, 3) := by decide +kernel
theorem dX0_mayGo_24 : decode cX0_mayGo 24 = .ok (.iconst 0, 1) := by decide +kernel
theorem dX0_mayGo_25 : decode cX0_mayGo 25 = .ok (.ireturn, 1) := by decide +kernel
set_option maxRecDepth 20000 in
theorem ggX0_stampsMissing_X0_requirePerson : GoodIn wsX0_stampsMissing wsX0_requirePerson := goodIn_ca (goodIn_r _ [5, 6, 7, 8, 58, 59, 60, 61, 62, 63, 64, 65, 66, 67, 68, 69, 70, 71, 72, 73] (by decide +kernel) (by decide +kernel)) (goodIn_sub (fun _ h => List.mem_cons_of_mem _ (List.mem_append_right _ h)) (by decide +kernel))
set_option maxRecDepth 20000 in
theorem gX0_stampsMissing_X0_requirePerson : GoodIn wsX0_stampsMissing (wsV RX0 89 RX0 yX0_requirePerson wsX0_requirePerson) := goodIn_app (goodIn_of _ (by decide +kernel)) ggX0_stampsMissing_X0_requirePerson
set_option maxRecDepth 20000 in
theorem ggX0_stampsMissing_X0_requireQuarter : GoodIn wsX0_stampsMissing wsX0_requireQuarter := goodIn_ca (goodIn_r _ [12, 6, 7, 13, 58, 59, 60, 61, 62, 63, 64, 65, 66, 67, 68, 69, 70, 71, 72, 73] (by decide +kernel) (by decide +kernel)) (goodIn_sub (fun _ h => List.mem_cons_of_mem _ (List.mem_append_right _ h)) (by decide +kernel))
set_option maxRecDepth 20000 in
theorem gX0_stampsMissing_X0_requireQuarter : GoodIn wsX0_stampsMissing (wsV RX0 64 RX0 yX0_requireQuarter wsX0_requireQuarter) := goodIn_app (goodIn_of _ (by decide +kernel)) ggX0_stampsMissing_X0_requireQuarter
set_option maxRecDepth 20000 in
theorem ggX0_stampsMissing_X0_missing : GoodIn wsX0_stampsMissing wsX0_missing := goodIn_r _ [17, 18, 19, 20, 21, 22, 23, 24, 25, 26, 27, 28, 4, 29, 30, 31, 32, 33, 34, 35, 36, 37, 38, 39, 40, 41, 42, 43, 44, 45, 46, 47, 48, 49, 50, 51, 52, 53, 54, 55, 56, 57, 58, 59, 60, 61, 62, 63, 64, 65, 66, 67, 68, 69, 70, 71, 72, 73] (by decide +kernel) (by decide +kernel)
set_option maxRecDepth 20000 in
theorem gX0_stampsMissing_X0_missing : GoodIn wsX0_stampsMissing (wsV RX0 131 RX0 yX0_missing wsX0_missing) := goodIn_app (goodIn_of _ (by decide +kernel)) ggX0_stampsMissing_X0_missing
theorem dX0_stampsMissing_0 : decode cX0_stampsMissing 0 = .ok (.aload_n 0, 1) := by decide +kernel
theorem dX0_stampsMissing_1 : decode cX0_stampsMissing 1 = .ok (.iload_n 1, 1) := by decide +kernel
theorem dX0_stampsMissing_2 : decode cX0_stampsMissing 2 = .ok (.invokevirtual 89, 3) := by decide +kernel
theorem dX0_stampsMissing_5 : decode cX0_stampsMissing 5 = .ok (.aload_n 0, 1) := by decide +kernel
theorem dX0_stampsMissing_6 : decode cX0_stampsMissing 6 = .ok (.iload_n 2, 1) := by decide +kernel
theorem dX0_stampsMissing_7 : decode cX0_stampsMissing 7 = .ok (.invokevirtual 64, 3) := by decide +kernel
theorem dX0_stampsMissing_10 : decode cX0_stampsMissing 10 = .ok (.aload_n 0, 1) := by decide +kernel
theorem dX0_stampsMissing_11 : decode cX0_stampsMissing 11 = .ok (.iload_n 1, 1) := by decide +kernel
theorem dX0_stampsMissing_12 : decode cX0_stampsMissing 12 = .ok (.iload_n 2, 1) := by decide +kernel
theorem dX0_stampsMissing_13 : decode cX0_stampsMissing 13 = .ok (.iconst (-1), 1) := by decide +kernel
theorem dX0_stampsMissing_14 : decode cX0_stampsMissing 14 = .ok (.invokevirtual 131, 3) := by decide +kernel
theorem dX0_stampsMissing_17 : decode cX0_stampsMissing 17 = .ok (.ireturn, 1) := by decide +kernel
theorem dX0_quarters_0 : decode cX0_quarters 0 = .ok (.aload_n 0, 1) := by decide +kernel
theorem dX0_quarters_1 : decode cX0_quarters 1 = .ok (.getfield 44, 3) := by decide +kernel
theorem dX0_quarters_4 : decode cX0_quarters 4 = .ok (.ireturn, 1) := by decide +kernel
theorem dX0_orders_0 : decode cX0_orders 0 = .ok (.aload_n 0, 1) := by decide +kernel
theorem dX0_orders_1 : decode cX0_orders 1 = .ok (.getfield 74, 3) := by decide +kernel
theorem dX0_orders_4 : decode cX0_orders 4 = .ok (.ireturn, 1) := by decide +kernel
theorem dX0_people_0 : decode cX0_people 0 = .ok (.aload_n 0, 1) := by decide +kernel
theorem dX0_people_1 : decode cX0_people 1 = .ok (.getfield 59, 3) := by decide +kernel
theorem dX0_people_4 : decode cX0_people 4 = .ok (.ireturn, 1) := by decide +kernel
set_option maxRecDepth 20000 in
theorem ggX0_ordersOn_X0_isOnAt : GoodIn wsX0_ordersOn wsX0_isOnAt := goodIn_r _ [7, 8, 9, 10, 11, 6, 12, 13, 14, 15, 16, 17, 18, 19, 20, 21, 22, 23, 24, 25, 26, 27, 28, 29, 30, 31, 32, 33, 34, 35, 36, 37, 38, 39, 40, 41] (by decide +kernel) (by decide +kernel)
set_option maxRecDepth 20000 in
theorem gX0_ordersOn_X0_isOnAt : GoodIn wsX0_ordersOn (wsV RX0 128 RX0 yX0_isOnAt wsX0_isOnAt) := goodIn_app (goodIn_of _ (by decide +kernel)) ggX0_ordersOn_X0_isOnAt
theorem dX0_ordersOn_0 : decode cX0_ordersOn 0 = .ok (.iconst 0, 1) := by decide +kernel
theorem dX0_ordersOn_1 : decode cX0_ordersOn 1 = .ok (.istore_n 1, 1) := by decide +kernel
theorem dX0_ordersOn_2 : decode cX0_ordersOn 2 = .ok (.iconst 0, 1) := by decide +kernel
theorem dX0_ordersOn_3 : decode cX0_ordersOn 3 = .ok (.istore_n 2, 1) := by decide +kernel
theorem dX0_ordersOn_4 : decode cX0_ordersOn 4 = .ok (.iload_n 2, 1) := by decide +kernel
theorem dX0_ordersOn_5 : decode cX0_ordersOn 5 = .ok (.aload_n 0, 1) := by decide +kernel
theorem dX0_ordersOn_6 : decode cX0_ordersOn 6 = .ok (.getfield 74, 3) := by decide +kernel
theorem dX0_ordersOn_9 : decode cX0_ordersOn 9 = .ok (.if_icmp .ge 24, 3) := by decide +kernel
theorem dX0_ordersOn_12 : decode cX0_ordersOn 12 = .ok (.aload_n 0, 1) := by decide +kernel
theorem dX0_ordersOn_13 : decode cX0_ordersOn 13 = .ok (.iload_n 2, 1) := by decide +kernel
theorem dX0_ordersOn_14 : decode cX0_ordersOn 14 = .ok (.aload_n 0, 1) := by decide +kernel
theorem dX0_ordersOn_15 : decode cX0_ordersOn 15 = .ok (.getfield 101, 3) := by decide +kernel
theorem dX0_ordersOn_18 : decode cX0_ordersOn 18 = .ok (.invokevirtual 128, 3) := by decide +kernel
theorem dX0_ordersOn_21 : decode cX0_ordersOn 21 = .ok (.ifCond .eq 6, 3) := by decide +kernel
theorem dX0_ordersOn_24 : decode cX0_ordersOn 24 = .ok (.iinc 1 1, 3) := by decide +kernel
theorem dX0_ordersOn_27 : decode cX0_ordersOn 27 = .ok (.iinc 2 1, 3) := by decide +kernel
theorem dX0_ordersOn_30 : decode cX0_ordersOn 30 = .ok (.goto (-26), 3) := by decide +kernel
theorem dX0_ordersOn_33 : decode cX0_ordersOn 33 = .ok (.iload_n 1, 1) := by decide +kernel
theorem dX0_ordersOn_34 : decode cX0_ordersOn 34 = .ok (.ireturn, 1) := by decide +kernel
theorem dX0_shift_0 : decode cX0_shift 0 = .ok (.aload_n 0, 1) := by decide +kernel
theorem dX0_shift_1 : decode cX0_shift 1 = .ok (.getfield 86, 3) := by decide +kernel
theorem dX0_shift_4 : decode cX0_shift 4 = .ok (.ireturn, 1) := by decide +kernel
theorem dX0_allOwe_0 : decode cX0_allOwe 0 = .ok (.iconst 0, 1) := by decide +kernel
theorem dX0_allOwe_1 : decode cX0_allOwe 1 = .ok (.istore_n 1, 1) := by decide +kernel
theorem dX0_allOwe_2 : decode cX0_allOwe 2 = .ok (.iconst 0, 1) := by decide +kernel
theorem dX0_allOwe_3 : decode cX0_allOwe 3 = .ok (.istore_n 2, 1) := by decide +kernel
theorem dX0_allOwe_4 : decode cX0_allOwe 4 = .ok (.iload_n 2, 1) := by decide +kernel
theorem dX0_allOwe_5 : decode cX0_allOwe 5 = .ok (.aload_n 0, 1) := by decide +kernel
theorem dX0_allOwe_6 : decode cX0_allOwe 6 = .ok (.getfield 59, 3) := by decide +kernel
theorem dX0_allOwe_9 : decode cX0_allOwe 9 = .ok (.if_icmp .ge 18, 3) := by decide +kernel
theorem dX0_allOwe_12 : decode cX0_allOwe 12 = .ok (.iload_n 1, 1) := by decide +kernel
theorem dX0_allOwe_13 : decode cX0_allOwe 13 = .ok (.aload_n 0, 1) := by decide +kernel
theorem dX0_allOwe_14 : decode cX0_allOwe 14 = .ok (.getfield 35, 3) := by decide +kernel
theorem dX0_allOwe_17 : decode cX0_allOwe 17 = .ok (.iload_n 2, 1) := by decide +kernel
theorem dX0_allOwe_18 : decode cX0_allOwe 18 = .ok (.iaload, 1) := by decide +kernel
theorem dX0_allOwe_19 : decode cX0_allOwe 19 = .ok (.iadd, 1) := by decide +kernel
theorem dX0_allOwe_20 : decode cX0_allOwe 20 = .ok (.istore_n 1, 1) := by decide +kernel
theorem dX0_allOwe_21 : decode cX0_allOwe 21 = .ok (.iinc 2 1, 3) := by decide +kernel
theorem dX0_allOwe_24 : decode cX0_allOwe 24 = .ok (.goto (-20), 3) := by decide +kernel
theorem dX0_allOwe_27 : decode cX0_allOwe 27 = .ok (.iload_n 1, 1) := by decide +kernel
theorem dX0_allOwe_28 : decode cX0_allOwe 28 = .ok (.ireturn, 1) := by decide +kernel
set_option maxRecDepth 20000 in
theorem ggX0_stampsUsed_X0_requireColour : GoodIn wsX0_stampsUsed wsX0_requireColour := goodIn_ca (goodIn_r _ [5, 6, 7] (by decide +kernel) (by decide +kernel)) (goodIn_sub (fun _ h => List.mem_cons_of_mem _ (List.mem_append_right _ h)) (by decide +kernel))
set_option maxRecDepth 20000 in
theorem gX0_stampsUsed_X0_requireColour : GoodIn wsX0_stampsUsed (va_wsS RX0 67 yX0_requireColour wsX0_requireColour) := goodIn_app (goodIn_of _ (by decide +kernel)) ggX0_stampsUsed_X0_requireColour
theorem dX0_stampsUsed_0 : decode cX0_stampsUsed 0 = .ok (.iload_n 1, 1) := by decide +kernel
theorem dX0_stampsUsed_1 : decode cX0_stampsUsed 1 = .ok (.invokestatic 67, 3) := by decide +kernel
theorem dX0_stampsUsed_4 : decode cX0_stampsUsed 4 = .ok (.aload_n 0, 1) := by decide +kernel
theorem dX0_stampsUsed_5 : decode cX0_stampsUsed 5 = .ok (.getfield 41, 3) := by decide +kernel
theorem dX0_stampsUsed_8 : decode cX0_stampsUsed 8 = .ok (.iload_n 1, 1) := by decide +kernel
theorem dX0_stampsUsed_9 : decode cX0_stampsUsed 9 = .ok (.iaload, 1) := by decide +kernel
theorem dX0_stampsUsed_10 : decode cX0_stampsUsed 10 = .ok (.ireturn, 1) := by decide +kernel
set_option maxRecDepth 20000 in
theorem ggX0_halfHoursUntilFree_X0_requirePerson : GoodIn wsX0_halfHoursUntilFree wsX0_requirePerson := goodIn_ca (goodIn_r _ [6, 7, 8, 9, 49, 50, 51, 52, 53, 54, 55, 56, 57, 58, 59, 60, 61, 62, 63, 64] (by decide +kernel) (by decide +kernel)) (goodIn_sub (fun _ h => List.mem_cons_of_mem _ (List.mem_append_right _ h)) (by decide +kernel))
set_option maxRecDepth 20000 in
theorem gX0_halfHoursUntilFree_X0_requirePerson : GoodIn wsX0_halfHoursUntilFree (wsV RX0 89 RX0 yX0_requirePerson wsX0_requirePerson) := goodIn_app (goodIn_of _ (by decide +kernel)) ggX0_halfHoursUntilFree_X0_requirePerson
set_option maxRecDepth 20000 in
theorem ggX0_halfHoursUntilFree_X0_requireQuarter : GoodIn wsX0_halfHoursUntilFree wsX0_requireQuarter := goodIn_ca (goodIn_r _ [13, 7, 8, 14, 49, 50, 51, 52, 53, 54, 55, 56, 57, 58, 59, 60, 61, 62, 63, 64] (by decide +kernel) (by decide +kernel)) (goodIn_sub (fun _ h => List.mem_cons_of_mem _ (List.mem_append_right _ h)) (by decide +kernel))
set_option maxRecDepth 20000 in
theorem gX0_halfHoursUntilFree_X0_requireQuarter : GoodIn wsX0_halfHoursUntilFree (wsV RX0 64 RX0 yX0_requireQuarter wsX0_requireQuarter) := goodIn_app (goodIn_of _ (by decide +kernel)) ggX0_halfHoursUntilFree_X0_requireQuarter
set_option maxRecDepth 20000 in
theorem ggX0_halfHoursUntilFree_X0_isFreeAt : GoodIn wsX0_halfHoursUntilFree wsX0_isFreeAt := goodIn_r _ [18, 19, 20, 21, 22, 5, 23, 24, 25, 26, 27, 28, 29, 30, 31, 32, 33, 34, 35, 36, 37, 38, 39, 40, 41, 42, 43, 44, 45, 46, 47, 48, 49, 50, 51, 52, 53, 54, 55, 56, 57, 58, 59, 60, 61, 62, 63, 64] (by decide +kernel) (by decide +kernel)
set_option maxRecDepth 20000 in
theorem gX0_halfHoursUntilFree_X0_isFreeAt : GoodIn wsX0_halfHoursUntilFree (wsV RX0 135 RX0 yX0_isFreeAt wsX0_isFreeAt) := goodIn_app (goodIn_of _ (by decide +kernel)) ggX0_halfHoursUntilFree_X0_isFreeAt
theorem dX0_halfHoursUntilFree_0 : decode cX0_halfHoursUntilFree 0 = .ok (.aload_n 0, 1) := by decide +kernel
theorem dX0_halfHoursUntilFree_1 : decode cX0_halfHoursUntilFree 1 = .ok (.iload_n 1, 1) := by decide +kernel
theorem dX0_halfHoursUntilFree_2 : decode cX0_halfHoursUntilFree 2 = .ok (.invokevirtual 89, 3) := by decide +kernel
theorem dX0_halfHoursUntilFree_5 : decode cX0_halfHoursUntilFree 5 = .ok (.aload_n 0, 1) := by decide +kernel
theorem dX0_halfHoursUntilFree_6 : decode cX0_halfHoursUntilFree 6 = .ok (.iload_n 2, 1) := by decide +kernel
theorem dX0_halfHoursUntilFree_7 : decode cX0_halfHoursUntilFree 7 = .ok (.invokevirtual 64, 3) := by decide +kernel
theorem dX0_halfHoursUntilFree_10 : decode cX0_halfHoursUntilFree 10 = .ok (.iconst 0, 1) := by decide +kernel
theorem dX0_halfHoursUntilFree_11 : decode cX0_halfHoursUntilFree 11 = .ok (.istore_n 3, 1) := by decide +kernel
theorem dX0_halfHoursUntilFree_12 : decode cX0_halfHoursUntilFree 12 = .ok (.iload_n 3, 1) := by decide +kernel
theorem dX0_halfHoursUntilFree_13 : decode cX0_halfHoursUntilFree 13 = .ok (.bipush 48, 2) := by decide +kernel
theorem dX0_halfHoursUntilFree_15 : decode cX0_halfHoursUntilFree 15 = .ok (.if_icmp .gt 26, 3) := by decide +kernel
theorem dX0_halfHoursUntilFree_18 : decode cX0_halfHoursUntilFree 18 = .ok (.aload_n 0, 1) := by decide +kernel
theorem dX0_halfHoursUntilFree_19 : decode cX0_halfHoursUntilFree 19 = .ok (.iload_n 1, 1) := by decide +kernel
theorem dX0_halfHoursUntilFree_20 : decode cX0_halfHoursUntilFree 20 = .ok (.iload_n 2, 1) := by decide +kernel
theorem dX0_halfHoursUntilFree_21 : decode cX0_halfHoursUntilFree 21 = .ok (.aload_n 0, 1) := by decide +kernel
theorem dX0_halfHoursUntilFree_22 : decode cX0_halfHoursUntilFree 22 = .ok (.getfield 101, 3) := by decide +kernel
theorem dX0_halfHoursUntilFree_25 : decode cX0_halfHoursUntilFree 25 = .ok (.iload_n 3, 1) := by decide +kernel
theorem dX0_halfHoursUntilFree_26 : decode cX0_halfHoursUntilFree 26 = .ok (.iadd, 1) := by decide +kernel
theorem dX0_halfHoursUntilFree_27 : decode cX0_halfHoursUntilFree 27 = .ok (.invokevirtual 135, 3) := by decide +kernel
theorem dX0_halfHoursUntilFree_30 : decode cX0_halfHoursUntilFree 30 = .ok (.ifCond .eq 5, 3) := by decide +kernel
theorem dX0_halfHoursUntilFree_33 : decode cX0_halfHoursUntilFree 33 = .ok (.iload_n 3, 1) := by decide +kernel
theorem dX0_halfHoursUntilFree_34 : decode cX0_halfHoursUntilFree 34 = .ok (.ireturn, 1) := by decide +kernel
theorem dX0_halfHoursUntilFree_35 : decode cX0_halfHoursUntilFree 35 = .ok (.iinc 3 1, 3) := by decide +kernel
theorem dX0_halfHoursUntilFree_38 : decode cX0_halfHoursUntilFree 38 = .ok (.goto (-26), 3) := by decide +kernel
theorem dX0_halfHoursUntilFree_41 : decode cX0_halfHoursUntilFree 41 = .ok (.iconst (-1), 1) := by decide +kernel
theorem dX0_halfHoursUntilFree_42 : decode cX0_halfHoursUntilFree 42 = .ok (.ireturn, 1) := by decide +kernel
set_option maxRecDepth 20000 in
theorem ggX0_halfHoursOn_X0_requireOrder : GoodIn wsX0_halfHoursOn wsX0_requireOrder := goodIn_ca (goodIn_r _ [6, 7, 8, 9, 27, 28, 29, 30, 31, 32, 33, 34, 35, 36, 37, 38, 39, 40, 41, 42] (by decide +kernel) (by decide +kernel)) (goodIn_sub (fun _ h => List.mem_cons_of_mem _ (List.mem_append_right _ h)) (by decide +kernel))
set_option maxRecDepth 20000 in
theorem gX0_halfHoursOn_X0_requireOrder : GoodIn wsX0_halfHoursOn (wsV RX0 79 RX0 yX0_requireOrder wsX0_requireOrder) := goodIn_app (goodIn_of _ (by decide +kernel)) ggX0_halfHoursOn_X0_requireOrder
set_option maxRecDepth 20000 in
theorem ggX0_halfHoursOn_X0_isInHours : GoodIn wsX0_halfHoursOn wsX0_isInHours := goodIn_r _ [13, 14, 15, 16, 17, 18, 5, 19, 20, 21, 22, 23, 24, 25, 26, 27, 28, 29, 30, 31, 32, 33, 34, 35, 36, 37, 38, 39, 40, 41, 42] (by decide +kernel) (by decide +kernel)
set_option maxRecDepth 20000 in
theorem gX0_halfHoursOn_X0_isInHours : GoodIn wsX0_halfHoursOn (wsV RX0 139 RX0 yX0_isInHours wsX0_isInHours) := goodIn_app (goodIn_of _ (by decide +kernel)) ggX0_halfHoursOn_X0_isInHours
theorem dX0_halfHoursOn_0 : decode cX0_halfHoursOn 0 = .ok (.aload_n 0, 1) := by decide +kernel
theorem dX0_halfHoursOn_1 : decode cX0_halfHoursOn 1 = .ok (.iload_n 1, 1) := by decide +kernel
theorem dX0_halfHoursOn_2 : decode cX0_halfHoursOn 2 = .ok (.invokevirtual 79, 3) := by decide +kernel
theorem dX0_halfHoursOn_5 : decode cX0_halfHoursOn 5 = .ok (.iconst 0, 1) := by decide +kernel
theorem dX0_halfHoursOn_6 : decode cX0_halfHoursOn 6 = .ok (.istore_n 2, 1) := by decide +kernel
theorem dX0_halfHoursOn_7 : decode cX0_halfHoursOn 7 = .ok (.iconst 0, 1) := by decide +kernel
theorem dX0_halfHoursOn_8 : decode cX0_halfHoursOn 8 = .ok (.istore_n 3, 1) := by decide +kernel
theorem dX0_halfHoursOn_9 : decode cX0_halfHoursOn 9 = .ok (.iload_n 3, 1) := by decide +kernel
theorem dX0_halfHoursOn_10 : decode cX0_halfHoursOn 10 = .ok (.bipush 48, 2) := by decide +kernel
theorem dX0_halfHoursOn_12 : decode cX0_halfHoursOn 12 = .ok (.if_icmp .ge 26, 3) := by decide +kernel
theorem dX0_halfHoursOn_15 : decode cX0_halfHoursOn 15 = .ok (.aload_n 0, 1) := by decide +kernel
theorem dX0_halfHoursOn_16 : decode cX0_halfHoursOn 16 = .ok (.iload_n 1, 1) := by decide +kernel
theorem dX0_halfHoursOn_17 : decode cX0_halfHoursOn 17 = .ok (.aload_n 0, 1) := by decide +kernel
theorem dX0_halfHoursOn_18 : decode cX0_halfHoursOn 18 = .ok (.getfield 101, 3) := by decide +kernel
theorem dX0_halfHoursOn_21 : decode cX0_halfHoursOn 21 = .ok (.iload_n 3, 1) := by decide +kernel
theorem dX0_halfHoursOn_22 : decode cX0_halfHoursOn 22 = .ok (.iadd, 1) := by decide +kernel
theorem dX0_halfHoursOn_23 : decode cX0_halfHoursOn 23 = .ok (.invokevirtual 139, 3) := by decide +kernel
theorem dX0_halfHoursOn_26 : decode cX0_halfHoursOn 26 = .ok (.ifCond .eq 6, 3) := by decide +kernel
theorem dX0_halfHoursOn_29 : decode cX0_halfHoursOn 29 = .ok (.iinc 2 1, 3) := by decide +kernel
theorem dX0_halfHoursOn_32 : decode cX0_halfHoursOn 32 = .ok (.iinc 3 1, 3) := by decide +kernel
theorem dX0_halfHoursOn_35 : decode cX0_halfHoursOn 35 = .ok (.goto (-26), 3) := by decide +kernel
theorem dX0_halfHoursOn_38 : decode cX0_halfHoursOn 38 = .ok (.iload_n 2, 1) := by decide +kernel
theorem dX0_halfHoursOn_39 : decode cX0_halfHoursOn 39 = .ok (.ireturn, 1) := by decide +kernel
set_option maxRecDepth 20000 in
theorem ggX0_bestLift_X0_pairsFreedBy : GoodIn wsX0_bestLift wsX0_pairsFreedBy := goodIn_r _ [6, 7, 8, 9, 10, 11, 5, 12, 1, 13, 14, 15, 16, 17, 18, 19, 20, 21, 22, 23, 24, 25, 26, 27, 28, 29, 30, 31, 32, 33, 34, 35, 36, 37, 38, 39, 40, 41, 42, 43, 44, 45, 46, 47, 48, 49, 50, 51, 52, 53, 54, 55, 56, 57, 58, 59, 60, 61, 62, 63, 64, 65, 66] (by decide +kernel) (by decide +kernel)
set_option maxRecDepth 20000 in
theorem gX0_bestLift_X0_pairsFreedBy : GoodIn wsX0_bestLift (wsV RX0 142 RX0 yX0_pairsFreedBy wsX0_pairsFreedBy) := goodIn_app (goodIn_of _ (by decide +kernel)) ggX0_bestLift_X0_pairsFreedBy
theorem dX0_bestLift_0 : decode cX0_bestLift 0 = .ok (.iconst (-1), 1) := by decide +kernel
theorem dX0_bestLift_1 : decode cX0_bestLift 1 = .ok (.istore_n 1, 1) := by decide +kernel
theorem dX0_bestLift_2 : decode cX0_bestLift 2 = .ok (.iconst 0, 1) := by decide +kernel
theorem dX0_bestLift_3 : decode cX0_bestLift 3 = .ok (.istore_n 2, 1) := by decide +kernel
theorem dX0_bestLift_4 : decode cX0_bestLift 4 = .ok (.iconst 0, 1) := by decide +kernel
theorem dX0_bestLift_5 : decode cX0_bestLift 5 = .ok (.istore_n 3, 1) := by decide +kernel
theorem dX0_bestLift_6 : decode cX0_bestLift 6 = .ok (.iload_n 3, 1) := by decide +kernel
theorem dX0_bestLift_7 : decode cX0_bestLift 7 = .ok (.aload_n 0, 1) := by decide +kernel
theorem dX0_bestLift_8 : decode cX0_bestLift 8 = .ok (.getfield 74, 3) := by decide +kernel
theorem dX0_bestLift_11 : decode cX0_bestLift 11 = .ok (.if_icmp .ge 27, 3) := by decide +kernel
theorem dX0_bestLift_14 : decode cX0_bestLift 14 = .ok (.aload_n 0, 1) := by decide +kernel
theorem dX0_bestLift_15 : decode cX0_bestLift 15 = .ok (.iload_n 3, 1) := by decide +kernel
theorem dX0_bestLift_16 : decode cX0_bestLift 16 = .ok (.invokevirtual 142, 3) := by decide +kernel
theorem dX0_bestLift_19 : decode cX0_bestLift 19 = .ok (.istore 4, 2) := by decide +kernel
theorem dX0_bestLift_21 : decode cX0_bestLift 21 = .ok (.iload 4, 2) := by decide +kernel
theorem dX0_bestLift_23 : decode cX0_bestLift 23 = .ok (.iload_n 2, 1) := by decide +kernel
theorem dX0_bestLift_24 : decode cX0_bestLift 24 = .ok (.if_icmp .le 8, 3) := by decide +kernel
theorem dX0_bestLift_27 : decode cX0_bestLift 27 = .ok (.iload 4, 2) := by decide +kernel
theorem dX0_bestLift_29 : decode cX0_bestLift 29 = .ok (.istore_n 2, 1) := by decide +kernel
theorem dX0_bestLift_30 : decode cX0_bestLift 30 = .ok (.iload_n 3, 1) := by decide +kernel
theorem dX0_bestLift_31 : decode cX0_bestLift 31 = .ok (.istore_n 1, 1) := by decide +kernel
theorem dX0_bestLift_32 : decode cX0_bestLift 32 = .ok (.iinc 3 1, 3) := by decide +kernel
theorem dX0_bestLift_35 : decode cX0_bestLift 35 = .ok (.goto (-29), 3) := by decide +kernel
theorem dX0_bestLift_38 : decode cX0_bestLift 38 = .ok (.iload_n 1, 1) := by decide +kernel
theorem dX0_bestLift_39 : decode cX0_bestLift 39 = .ok (.ireturn, 1) := by decide +kernel
set_option maxRecDepth 20000 in
theorem ggX0_meanDebt_X0_allOwe : GoodIn wsX0_meanDebt wsX0_allOwe := goodIn_r _ [6, 1, 7, 8, 9, 10, 11, 12, 13, 14, 15, 16, 17, 18, 19, 20, 21, 22, 23] (by decide +kernel) (by decide +kernel)
set_option maxRecDepth 20000 in
theorem gX0_meanDebt_X0_allOwe : GoodIn wsX0_meanDebt (wsV RX0 145 RX0 yX0_allOwe wsX0_allOwe) := goodIn_app (goodIn_of _ (by decide +kernel)) ggX0_meanDebt_X0_allOwe
theorem dX0_meanDebt_0 : decode cX0_meanDebt 0 = .ok (.aload_n 0, 1) := by decide +kernel
theorem dX0_meanDebt_1 : decode cX0_meanDebt 1 = .ok (.getfield 59, 3) := by decide +kernel
theorem dX0_meanDebt_4 : decode cX0_meanDebt 4 = .ok (.ifCond .ne 5, 3) := by decide +kernel
theorem dX0_meanDebt_7 : decode cX0_meanDebt 7 = .ok (.dconst 0, 1) := by decide +kernel
theorem dX0_meanDebt_8 : decode cX0_meanDebt 8 = .ok (.dreturn, 1) := by decide +kernel
theorem dX0_meanDebt_9 : decode cX0_meanDebt 9 = .ok (.aload_n 0, 1) := by decide +kernel
theorem dX0_meanDebt_10 : decode cX0_meanDebt 10 = .ok (.invokevirtual 145, 3) := by decide +kernel
theorem dX0_meanDebt_13 : decode cX0_meanDebt 13 = .ok (.i2d, 1) := by decide +kernel
theorem dX0_meanDebt_14 : decode cX0_meanDebt 14 = .ok (.aload_n 0, 1) := by decide +kernel
theorem dX0_meanDebt_15 : decode cX0_meanDebt 15 = .ok (.getfield 59, 3) := by decide +kernel
theorem dX0_meanDebt_18 : decode cX0_meanDebt 18 = .ok (.i2d, 1) := by decide +kernel
theorem dX0_meanDebt_19 : decode cX0_meanDebt 19 = .ok (.ddiv, 1) := by decide +kernel
theorem dX0_meanDebt_20 : decode cX0_meanDebt 20 = .ok (.dreturn, 1) := by decide +kernel
set_option maxRecDepth 20000 in
theorem ggX0_digest_X0_day : GoodIn wsX0_digest wsX0_day := goodIn_r _ [11, 12, 110, 111, 112, 113, 114, 115, 116, 117, 118, 119, 120, 121, 122, 123, 124, 125] (by decide +kernel) (by decide +kernel)
set_option maxRecDepth 20000 in
theorem gX0_digest_X0_day : GoodIn wsX0_digest (wsV RX0 118 RX0 yX0_day wsX0_day) := goodIn_app (goodIn_of _ (by decide +kernel)) ggX0_digest_X0_day
set_option maxRecDepth 20000 in
theorem ggX0_digest_X0_fold : GoodIn wsX0_digest wsX0_fold := goodIn_r _ [15, 16] (by decide +kernel) (by decide +kernel)
set_option maxRecDepth 20000 in
theorem gX0_digest_X0_fold : GoodIn wsX0_digest (va_wsS RX0 150 yX0_fold wsX0_fold) := goodIn_app (goodIn_of _ (by decide +kernel)) ggX0_digest_X0_fold
set_option maxRecDepth 20000 in
theorem ggX0_digest_X0_halfHour : GoodIn wsX0_digest wsX0_halfHour := goodIn_r _ [20, 12, 110, 111, 112, 113, 114, 115, 116, 117, 118, 119, 120, 121, 122, 123, 124, 125] (by decide +kernel) (by decide +kernel)
set_option maxRecDepth 20000 in
theorem gX0_digest_X0_halfHour : GoodIn wsX0_digest (wsV RX0 154 RX0 yX0_halfHour wsX0_halfHour) := goodIn_app (goodIn_of _ (by decide +kernel)) ggX0_digest_X0_halfHour
set_option maxRecDepth 20000 in
theorem ggX0_digest_X0_duskIn : GoodIn wsX0_digest wsX0_duskIn := goodIn_ca (goodIn_r _ [24, 25, 26, 10, 27, 28, 29, 7, 8, 9, 11, 12, 30, 31, 32, 33, 5, 34, 35, 36, 110, 111, 112, 113, 114, 115, 116, 117, 118, 119, 120, 121, 122, 123, 124, 125] (by decide +kernel) (by decide +kernel)) (goodIn_sub (fun _ h => List.mem_cons_of_mem _ (List.mem_append_left _ (List.mem_append_right _ h))) (by decide +kernel))
set_option maxRecDepth 20000 in
theorem gX0_digest_X0_duskIn : GoodIn wsX0_digest (wsV RX0 157 RX0 yX0_duskIn wsX0_duskIn) := goodIn_app (goodIn_of _ (by decide +kernel)) ggX0_digest_X0_duskIn
set_option maxRecDepth 20000 in
theorem ggX0_digest_X0_dawnIn : GoodIn wsX0_digest wsX0_dawnIn := goodIn_ca (goodIn_r _ [40, 25, 26, 10, 27, 28, 29, 7, 8, 9, 11, 12, 41, 42, 43, 34, 35, 36, 110, 111, 112, 113, 114, 115, 116, 117, 118, 119, 120, 121, 122, 123, 124, 125] (by decide +kernel) (by decide +kernel)) (goodIn_sub (fun _ h => List.mem_cons_of_mem _ (List.mem_append_left _ (List.mem_append_right _ h))) (by decide +kernel))
set_option maxRecDepth 20000 in
theorem gX0_digest_X0_dawnIn : GoodIn wsX0_digest (wsV RX0 160 RX0 yX0_dawnIn wsX0_dawnIn) := goodIn_app (goodIn_of _ (by decide +kernel)) ggX0_digest_X0_dawnIn
set_option maxRecDepth 20000 in
theorem ggX0_digest_X0_ordersOn : GoodIn wsX0_digest wsX0_ordersOn := goodIn_r _ [47, 3, 12, 48, 49, 50, 10, 51, 52, 53, 54, 55, 56, 57, 58, 30, 31, 32, 33, 5, 34, 35, 36, 41, 42, 43, 110, 111, 112, 113, 114, 115, 116, 117, 118, 119, 120, 121, 122, 123, 124, 125] (by decide +kernel) (by decide +kernel)
set_option maxRecDepth 20000 in
theorem gX0_digest_X0_ordersOn : GoodIn wsX0_digest (wsV RX0 163 RX0 yX0_ordersOn wsX0_ordersOn) := goodIn_app (goodIn_of _ (by decide +kernel)) ggX0_digest_X0_ordersOn
set_option maxRecDepth 20000 in
theorem ggX0_digest_X0_foldOrder : GoodIn wsX0_digest wsX0_foldOrder := goodIn_ca (goodIn_r _ [62, 63, 64, 52, 12, 13, 14, 10, 15, 16, 65, 66, 67, 48, 49, 50, 51, 53, 54, 55, 56, 57, 58, 30, 31, 32, 33, 5, 34, 35, 36, 41, 42, 43, 68, 69, 70, 71, 4, 72, 73, 74, 75, 76, 77, 3, 78, 79, 80, 81, 82, 83, 84, 85, 86, 87, 110, 111, 112, 113, 114, 115, 116, 117, 118, 119, 120, 121, 122, 123, 124, 125] (by decide +kernel) (by decide +kernel)) (goodIn_sub (fun _ h => List.mem_cons_of_mem _ (List.mem_append_right _ h)) (by decide +kernel))
set_option maxRecDepth 20000 in
theorem gX0_digest_X0_foldOrder : GoodIn wsX0_digest (wsV RX0 166 RX0 yX0_foldOrder wsX0_foldOrder) := goodIn_app (goodIn_of _ (by decide +kernel)) ggX0_digest_X0_foldOrder
set_option maxRecDepth 20000 in
theorem ggX0_digest_X0_foldPerson : GoodIn wsX0_digest wsX0_foldPerson := goodIn_ca (goodIn_r _ [91, 82, 92, 93, 94, 2, 13, 14, 10, 15, 16, 95, 96, 97, 98, 99, 100, 101, 3, 12, 102, 103, 104, 105, 76, 77, 4, 106, 107, 108, 109, 78, 79, 80, 81, 63, 52, 83, 84, 85, 86, 87, 53, 54, 55, 56, 57, 58, 30, 31, 32, 33, 5, 34, 35, 36, 41, 42, 43, 110, 111, 112, 113, 114, 115, 116, 117, 118, 119, 120, 121, 122, 123, 124, 125] (by decide +kernel) (by decide +kernel)) (goodIn_sub (fun _ h => List.mem_cons_of_mem _ (List.mem_append_right _ h)) (by decide +kernel))
set_option maxRecDepth 20000 in
theorem gX0_digest_X0_foldPerson : GoodIn wsX0_digest (wsV RX0 169 RX0 yX0_foldPerson wsX0_foldPerson) := goodIn_app (goodIn_of _ (by decide +kernel)) ggX0_digest_X0_foldPerson
theorem dX0_digest_0 : decode cX0_digest 0 = .ok (.ldc2_w 148, 3) := by decide +kernel
theorem dX0_digest_3 : decode cX0_digest 3 = .ok (.lstore_n 1, 1) := by decide +kernel
theorem dX0_digest_4 : decode cX0_digest 4 = .ok (.lload_n 1, 1) := by decide +kernel
theorem dX0_digest_5 : decode cX0_digest 5 = .ok (.aload_n 0, 1) := by decide +kernel
theorem dX0_digest_6 : decode cX0_digest 6 = .ok (.invokevirtual 118, 3) := by decide +kernel
theorem dX0_digest_9 : decode cX0_digest 9 = .ok (.invokestatic 150, 3) := by decide +kernel
theorem dX0_digest_12 : decode cX0_digest 12 = .ok (.lstore_n 1, 1) := by decide +kernel
theorem dX0_digest_13 : decode cX0_digest 13 = .ok (.lload_n 1, 1) := by decide +kernel
theorem dX0_digest_14 : decode cX0_digest 14 = .ok (.aload_n 0, 1) := by decide +kernel
theorem dX0_digest_15 : decode cX0_digest 15 = .ok (.invokevirtual 154, 3) := by decide +kernel
theorem dX0_digest_18 : decode cX0_digest 18 = .ok (.invokestatic 150, 3) := by decide +kernel
theorem dX0_digest_21 : decode cX0_digest 21 = .ok (.lstore_n 1, 1) := by decide +kernel
theorem dX0_digest_22 : decode cX0_digest 22 = .ok (.lload_n 1, 1) := by decide +kernel
theorem dX0_digest_23 : decode cX0_digest 23 = .ok (.aload_n 0, 1) := by decide +kernel
theorem dX0_digest_24 : decode cX0_digest 24 = .ok (.iconst 0, 1) := by decide +kernel
theorem dX0_digest_25 : decode cX0_digest 25 = .ok (.invokevirtual 157, 3) := by decide +kernel
theorem dX0_digest_28 : decode cX0_digest 28 = .ok (.invokestatic 150, 3) := by decide +kernel
theorem dX0_digest_31 : decode cX0_digest 31 = .ok (.lstore_n 1, 1) := by decide +kernel
theorem dX0_digest_32 : decode cX0_digest 32 = .ok (.lload_n 1, 1) := by decide +kernel
theorem dX0_digest_33 : decode cX0_digest 33 = .ok (.aload_n 0, 1) := by decide +kernel
theorem dX0_digest_34 : decode cX0_digest 34 = .ok (.iconst 0, 1) := by decide +kernel
theorem dX0_digest_35 : decode cX0_digest 35 = .ok (.invokevirtual 160, 3) := by decide +kernel
theorem dX0_digest_38 : decode cX0_digest 38 = .ok (.invokestatic 150, 3) := by decide +kernel
theorem dX0_digest_41 : decode cX0_digest 41 = .ok (.lstore_n 1, 1) := by decide +kernel
theorem dX0_digest_42 : decode cX0_digest 42 = .ok (.lload_n 1, 1) := by decide +kernel
theorem dX0_digest_43 : decode cX0_digest 43 = .ok (.aload_n 0, 1) := by decide +kernel
theorem dX0_digest_44 : decode cX0_digest 44 = .ok (.getfield 44, 3) := by decide +kernel
theorem dX0_digest_47 : decode cX0_digest 47 = .ok (.invokestatic 150, 3) := by decide +kernel
theorem dX0_digest_50 : decode cX0_digest 50 = .ok (.lstore_n 1, 1) := by decide +kernel
theorem dX0_digest_51 : decode cX0_digest 51 = .ok (.lload_n 1, 1) := by decide +kernel
theorem dX0_digest_52 : decode cX0_digest 52 = .ok (.aload_n 0, 1) := by decide +kernel
theorem dX0_digest_53 : decode cX0_digest 53 = .ok (.getfield 74, 3) := by decide +kernel
theorem dX0_digest_56 : decode cX0_digest 56 = .ok (.invokestatic 150, 3) := by decide +kernel
theorem dX0_digest_59 : decode cX0_digest 59 = .ok (.lstore_n 1, 1) := by decide +kernel
theorem dX0_digest_60 : decode cX0_digest 60 = .ok (.lload_n 1, 1) := by decide +kernel
theorem dX0_digest_61 : decode cX0_digest 61 = .ok (.aload_n 0, 1) := by decide +kernel
theorem dX0_digest_62 : decode cX0_digest 62 = .ok (.getfield 59, 3) := by decide +kernel
theorem dX0_digest_65 : decode cX0_digest 65 = .ok (.invokestatic 150, 3) := by decide +kernel
theorem dX0_digest_68 : decode cX0_digest 68 = .ok (.lstore_n 1, 1) := by decide +kernel
theorem dX0_digest_69 : decode cX0_digest 69 = .ok (.lload_n 1, 1) := by decide +kernel
theorem dX0_digest_70 : decode cX0_digest 70 = .ok (.aload_n 0, 1) := by decide +kernel
theorem dX0_digest_71 : decode cX0_digest 71 = .ok (.invokevirtual 163, 3) := by decide +kernel
theorem dX0_digest_74 : decode cX0_digest 74 = .ok (.invokestatic 150, 3) := by decide +kernel
theorem dX0_digest_77 : decode cX0_digest 77 = .ok (.lstore_n 1, 1) := by decide +kernel
theorem dX0_digest_78 : decode cX0_digest 78 = .ok (.lload_n 1, 1) := by decide +kernel
theorem dX0_digest_79 : decode cX0_digest 79 = .ok (.aload_n 0, 1) := by decide +kernel
theorem dX0_digest_80 : decode cX0_digest 80 = .ok (.getfield 86, 3) := by decide +kernel
theorem dX0_digest_83 : decode cX0_digest 83 = .ok (.invokestatic 150, 3) := by decide +kernel
theorem dX0_digest_86 : decode cX0_digest 86 = .ok (.lstore_n 1, 1) := by decide +kernel
theorem dX0_digest_87 : decode cX0_digest 87 = .ok (.iconst 0, 1) := by decide +kernel
theorem dX0_digest_88 : decode cX0_digest 88 = .ok (.istore_n 3, 1) := by decide +kernel
theorem dX0_digest_89 : decode cX0_digest 89 = .ok (.iload_n 3, 1) := by decide +kernel
theorem dX0_digest_90 : decode cX0_digest 90 = .ok (.iconst 4, 1) := by decide +kernel
theorem dX0_digest_91 : decode cX0_digest 91 = .ok (.if_icmp .ge 20, 3) := by decide +kernel
theorem dX0_digest_94 : decode cX0_digest 94 = .ok (.lload_n 1, 1) := by decide +kernel
theorem dX0_digest_95 : decode cX0_digest 95 = .ok (.aload_n 0, 1) := by decide +kernel
theorem dX0_digest_96 : decode cX0_digest 96 = .ok (.getfield 41, 3) := by decide +kernel
theorem dX0_digest_99 : decode cX0_digest 99 = .ok (.iload_n 3, 1) := by decide +kernel
theorem dX0_digest_100 : decode cX0_digest 100 = .ok (.iaload, 1) := by decide +kernel
theorem dX0_digest_101 : decode cX0_digest 101 = .ok (.invokestatic 150, 3) := by decide +kernel
theorem dX0_digest_104 : decode cX0_digest 104 = .ok (.lstore_n 1, 1) := by decide +kernel
theorem dX0_digest_105 : decode cX0_digest 105 = .ok (.iinc 3 1, 3) := by decide +kernel
theorem dX0_digest_108 : decode cX0_digest 108 = .ok (.goto (-19), 3) := by decide +kernel
theorem dX0_digest_111 : decode cX0_digest 111 = .ok (.iconst 0, 1) := by decide +kernel
theorem dX0_digest_112 : decode cX0_digest 112 = .ok (.istore_n 3, 1) := by decide +kernel
theorem dX0_digest_113 : decode cX0_digest 113 = .ok (.iload_n 3, 1) := by decide +kernel
theorem dX0_digest_114 : decode cX0_digest 114 = .ok (.aload_n 0, 1) := by decide +kernel
theorem dX0_digest_115 : decode cX0_digest 115 = .ok (.getfield 74, 3) := by decide +kernel
theorem dX0_digest_118 : decode cX0_digest 118 = .ok (.if_icmp .ge 16, 3) := by decide +kernel
theorem dX0_digest_121 : decode cX0_digest 121 = .ok (.aload_n 0, 1) := by decide +kernel
theorem dX0_digest_122 : decode cX0_digest 122 = .ok (.lload_n 1, 1) := by decide +kernel
theorem dX0_digest_123 : decode cX0_digest 123 = .ok (.iload_n 3, 1) := by decide +kernel
theorem dX0_digest_124 : decode cX0_digest 124 = .ok (.invokevirtual 166, 3) := by decide +kernel
theorem dX0_digest_127 : decode cX0_digest 127 = .ok (.lstore_n 1, 1) := by decide +kernel
theorem dX0_digest_128 : decode cX0_digest 128 = .ok (.iinc 3 1, 3) := by decide +kernel
theorem dX0_digest_131 : decode cX0_digest 131 = .ok (.goto (-18), 3) := by decide +kernel
theorem dX0_digest_134 : decode cX0_digest 134 = .ok (.iconst 0, 1) := by decide +kernel
theorem dX0_digest_135 : decode cX0_digest 135 = .ok (.istore_n 3, 1) := by decide +kernel
theorem dX0_digest_136 : decode cX0_digest 136 = .ok (.iload_n 3, 1) := by decide +kernel
theorem dX0_digest_137 : decode cX0_digest 137 = .ok (.aload_n 0, 1) := by decide +kernel
theorem dX0_digest_138 : decode cX0_digest 138 = .ok (.getfield 59, 3) := by decide +kernel
theorem dX0_digest_141 : decode cX0_digest 141 = .ok (.if_icmp .ge 16, 3) := by decide +kernel
theorem dX0_digest_144 : decode cX0_digest 144 = .ok (.aload_n 0, 1) := by decide +kernel
theorem dX0_digest_145 : decode cX0_digest 145 = .ok (.lload_n 1, 1) := by decide +kernel
theorem dX0_digest_146 : decode cX0_digest 146 = .ok (.iload_n 3, 1) := by decide +kernel
theorem dX0_digest_147 : decode cX0_digest 147 = .ok (.invokevirtual 169, 3) := by decide +kernel
theorem dX0_digest_150 : decode cX0_digest 150 = .ok (.lstore_n 1, 1) := by decide +kernel
theorem dX0_digest_151 : decode cX0_digest 151 = .ok (.iinc 3 1, 3) := by decide +kernel
theorem dX0_digest_154 : decode cX0_digest 154 = .ok (.goto (-18), 3) := by decide +kernel
theorem dX0_digest_157 : decode cX0_digest 157 = .ok (.lload_n 1, 1) := by decide +kernel
theorem dX0_digest_158 : decode cX0_digest 158 = .ok (.lreturn, 1) := by decide +kernel
set_option maxRecDepth 20000 in
theorem ggX0_foldOrder_X0_fold : GoodIn wsX0_foldOrder wsX0_fold := goodIn_r _ [8, 9] (by decide +kernel) (by decide +kernel)
set_option maxRecDepth 20000 in
theorem gX0_foldOrder_X0_fold : GoodIn wsX0_foldOrder (va_wsS RX0 150 yX0_fold wsX0_fold) := goodIn_app (goodIn_of _ (by decide +kernel)) ggX0_foldOrder_X0_fold
set_option maxRecDepth 20000 in
theorem ggX0_foldOrder_X0_oneIf : GoodIn wsX0_foldOrder wsX0_oneIf := goodIn_r _ [12] (by decide +kernel) (by decide +kernel)
set_option maxRecDepth 20000 in
theorem gX0_foldOrder_X0_oneIf : GoodIn wsX0_foldOrder (va_wsS RX0 172 yX0_oneIf wsX0_oneIf) := goodIn_app (goodIn_of _ (by decide +kernel)) ggX0_foldOrder_X0_oneIf
set_option maxRecDepth 20000 in
theorem ggX0_foldOrder_X0_isOnAt : GoodIn wsX0_foldOrder wsX0_isOnAt := goodIn_r _ [16, 3, 17, 18, 19, 7, 20, 21, 22, 23, 24, 25, 26, 27, 28, 29, 30, 31, 32, 33, 56, 57, 58, 59, 60, 61, 62, 63, 64, 65, 66, 67, 68, 69, 70, 71] (by decide +kernel) (by decide +kernel)
set_option maxRecDepth 20000 in
theorem gX0_foldOrder_X0_isOnAt : GoodIn wsX0_foldOrder (wsV RX0 128 RX0 yX0_isOnAt wsX0_isOnAt) := goodIn_app (goodIn_of _ (by decide +kernel)) ggX0_foldOrder_X0_isOnAt
set_option maxRecDepth 20000 in
theorem ggX0_foldOrder_X0_barredBy : GoodIn wsX0_foldOrder wsX0_barredBy := goodIn_ca (goodIn_r _ [37, 38, 1, 4, 39, 40, 41, 7, 42, 43, 44, 45, 46, 47, 48, 49, 50, 3, 51, 52, 53, 54, 55, 17, 18, 19, 20, 21, 22, 23, 24, 25, 26, 27, 28, 29, 30, 31, 32, 33, 56, 57, 58, 59, 60, 61, 62, 63, 64, 65, 66, 67, 68, 69, 70, 71] (by decide +kernel) (by decide +kernel)) (goodIn_sub (fun _ h => List.mem_cons_of_mem _ (List.mem_append_right _ h)) (by decide +kernel))
set_option maxRecDepth 20000 in
theorem gX0_foldOrder_X0_barredBy : GoodIn wsX0_foldOrder (wsV RX0 176 RX0 yX0_barredBy wsX0_barredBy) := goodIn_app (goodIn_of _ (by decide +kernel)) ggX0_foldOrder_X0_barredBy
set_option maxRecDepth 20000 in
theorem ggX0_foldOrder_X0_exempts : GoodIn wsX0_foldOrder wsX0_exempts := goodIn_r _ [54, 55, 56, 57, 58, 59, 60, 61, 62, 63, 64, 65, 66, 67, 68, 69, 70, 71] (by decide +kernel) (by decide +kernel)
set_option maxRecDepth 20000 in
theorem gX0_foldOrder_X0_exempts : GoodIn wsX0_foldOrder (wsV RX0 82 RX0 yX0_exempts wsX0_exempts) := goodIn_app (goodIn_of _ (by decide +kernel)) ggX0_foldOrder_X0_exempts
theorem dX0_foldOrder_0 : decode cX0_foldOrder 0 = .ok (.lload_n 1, 1) := by decide +kernel
theorem dX0_foldOrder_1 : decode cX0_foldOrder 1 = .ok (.lstore 4, 2) := by decide +kernel
theorem dX0_foldOrder_3 : decode cX0_foldOrder 3 = .ok (.lload 4, 2) := by decide +kernel
theorem dX0_foldOrder_5 : decode cX0_foldOrder 5 = .ok (.aload_n 0, 1) := by decide +kernel
theorem dX0_foldOrder_6 : decode cX0_foldOrder 6 = .ok (.getfield 9, 3) := by decide +kernel
theorem dX0_foldOrder_9 : decode cX0_foldOrder 9 = .ok (.iload_n 3, 1) := by decide +kernel
theorem dX0_foldOrder_10 : decode cX0_foldOrder 10 = .ok (.iaload, 1) := by decide +kernel
theorem dX0_foldOrder_11 : decode cX0_foldOrder 11 = .ok (.invokestatic 150, 3) := by decide +kernel
theorem dX0_foldOrder_14 : decode cX0_foldOrder 14 = .ok (.lstore 4, 2) := by decide +kernel
theorem dX0_foldOrder_16 : decode cX0_foldOrder 16 = .ok (.lload 4, 2) := by decide +kernel
theorem dX0_foldOrder_18 : decode cX0_foldOrder 18 = .ok (.aload_n 0, 1) := by decide +kernel
theorem dX0_foldOrder_19 : decode cX0_foldOrder 19 = .ok (.getfield 19, 3) := by decide +kernel
theorem dX0_foldOrder_22 : decode cX0_foldOrder 22 = .ok (.iload_n 3, 1) := by decide +kernel
theorem dX0_foldOrder_23 : decode cX0_foldOrder 23 = .ok (.iaload, 1) := by decide +kernel
theorem dX0_foldOrder_24 : decode cX0_foldOrder 24 = .ok (.invokestatic 150, 3) := by decide +kernel
theorem dX0_foldOrder_27 : decode cX0_foldOrder 27 = .ok (.lstore 4, 2) := by decide +kernel
theorem dX0_foldOrder_29 : decode cX0_foldOrder 29 = .ok (.lload 4, 2) := by decide +kernel
theorem dX0_foldOrder_31 : decode cX0_foldOrder 31 = .ok (.aload_n 0, 1) := by decide +kernel
theorem dX0_foldOrder_32 : decode cX0_foldOrder 32 = .ok (.getfield 22, 3) := by decide +kernel
theorem dX0_foldOrder_35 : decode cX0_foldOrder 35 = .ok (.iload_n 3, 1) := by decide +kernel
theorem dX0_foldOrder_36 : decode cX0_foldOrder 36 = .ok (.baload, 1) := by decide +kernel
theorem dX0_foldOrder_37 : decode cX0_foldOrder 37 = .ok (.invokestatic 172, 3) := by decide +kernel
theorem dX0_foldOrder_40 : decode cX0_foldOrder 40 = .ok (.invokestatic 150, 3) := by decide +kernel
theorem dX0_foldOrder_43 : decode cX0_foldOrder 43 = .ok (.lstore 4, 2) := by decide +kernel
theorem dX0_foldOrder_45 : decode cX0_foldOrder 45 = .ok (.lload 4, 2) := by decide +kernel
theorem dX0_foldOrder_47 : decode cX0_foldOrder 47 = .ok (.aload_n 0, 1) := by decide +kernel
theorem dX0_foldOrder_48 : decode cX0_foldOrder 48 = .ok (.iload_n 3, 1) := by decide +kernel
theorem dX0_foldOrder_49 : decode cX0_foldOrder 49 = .ok (.aload_n 0, 1) := by decide +kernel
theorem dX0_foldOrder_50 : decode cX0_foldOrder 50 = .ok (.getfield 101, 3) := by decide +kernel
theorem dX0_foldOrder_53 : decode cX0_foldOrder 53 = .ok (.invokevirtual 128, 3) := by decide +kernel
theorem dX0_foldOrder_56 : decode cX0_foldOrder 56 = .ok (.invokestatic 172, 3) := by decide +kernel
theorem dX0_foldOrder_59 : decode cX0_foldOrder 59 = .ok (.invokestatic 150, 3) := by decide +kernel
theorem dX0_foldOrder_62 : decode cX0_foldOrder 62 = .ok (.lstore 4, 2) := by decide +kernel
theorem dX0_foldOrder_64 : decode cX0_foldOrder 64 = .ok (.lload 4, 2) := by decide +kernel
theorem dX0_foldOrder_66 : decode cX0_foldOrder 66 = .ok (.aload_n 0, 1) := by decide +kernel
theorem dX0_foldOrder_67 : decode cX0_foldOrder 67 = .ok (.iload_n 3, 1) := by decide +kernel
theorem dX0_foldOrder_68 : decode cX0_foldOrder 68 = .ok (.invokevirtual 176, 3) := by decide +kernel
theorem dX0_foldOrder_71 : decode cX0_foldOrder 71 = .ok (.invokestatic 150, 3) := by decide +kernel
theorem dX0_foldOrder_74 : decode cX0_foldOrder 74 = .ok (.lstore 4, 2) := by decide +kernel
theorem dX0_foldOrder_76 : decode cX0_foldOrder 76 = .ok (.iconst 0, 1) := by decide +kernel
theorem dX0_foldOrder_77 : decode cX0_foldOrder 77 = .ok (.istore 6, 2) := by decide +kernel
theorem dX0_foldOrder_79 : decode cX0_foldOrder 79 = .ok (.iload 6, 2) := by decide +kernel
theorem dX0_foldOrder_81 : decode cX0_foldOrder 81 = .ok (.bipush 8, 2) := by decide +kernel
theorem dX0_foldOrder_83 : decode cX0_foldOrder 83 = .ok (.if_icmp .ge 26, 3) := by decide +kernel
theorem dX0_foldOrder_86 : decode cX0_foldOrder 86 = .ok (.lload 4, 2) := by decide +kernel
theorem dX0_foldOrder_88 : decode cX0_foldOrder 88 = .ok (.aload_n 0, 1) := by decide +kernel
theorem dX0_foldOrder_89 : decode cX0_foldOrder 89 = .ok (.iload_n 3, 1) := by decide +kernel
theorem dX0_foldOrder_90 : decode cX0_foldOrder 90 = .ok (.iload 6, 2) := by decide +kernel
theorem dX0_foldOrder_92 : decode cX0_foldOrder 92 = .ok (.invokevirtual 82, 3) := by decide +kernel
theorem dX0_foldOrder_95 : decode cX0_foldOrder 95 = .ok (.invokestatic 172, 3) := by decide +kernel
theorem dX0_foldOrder_98 : decode cX0_foldOrder 98 = .ok (.invokestatic 150, 3) := by decide +kernel
theorem dX0_foldOrder_101 : decode cX0_foldOrder 101 = .ok (.lstore 4, 2) := by decide +kernel
theorem dX0_foldOrder_103 : decode cX0_foldOrder 103 = .ok (.iinc 6 1, 3) := by decide +kernel
theorem dX0_foldOrder_106 : decode cX0_foldOrder 106 = .ok (.goto (-27), 3) := by decide +kernel
theorem dX0_foldOrder_109 : decode cX0_foldOrder 109 = .ok (.lload 4, 2) := by decide +kernel
theorem dX0_foldOrder_111 : decode cX0_foldOrder 111 = .ok (.lreturn, 1) := by decide +kernel
set_option maxRecDepth 20000 in
theorem ggX0_foldPerson_X0_fold : GoodIn wsX0_foldPerson wsX0_fold := goodIn_r _ [9, 10] (by decide +kernel) (by decide +kernel)
set_option maxRecDepth 20000 in
theorem gX0_foldPerson_X0_fold : GoodIn wsX0_foldPerson (va_wsS RX0 150 yX0_fold wsX0_fold) := goodIn_app (goodIn_of _ (by decide +kernel)) ggX0_foldPerson_X0_fold
set_option maxRecDepth 20000 in
theorem ggX0_foldPerson_X0_stampPlace : GoodIn wsX0_foldPerson wsX0_stampPlace := goodIn_r _ [13] (by decide +kernel) (by decide +kernel)
set_option maxRecDepth 20000 in
theorem gX0_foldPerson_X0_stampPlace : GoodIn wsX0_foldPerson (va_wsS RX0 92 yX0_stampPlace wsX0_stampPlace) := goodIn_app (goodIn_of _ (by decide +kernel)) ggX0_foldPerson_X0_stampPlace
set_option maxRecDepth 20000 in
theorem ggX0_foldPerson_X0_ordersAgainst : GoodIn wsX0_foldPerson wsX0_ordersAgainst := goodIn_ca (goodIn_r _ [17, 18, 19, 20, 21, 22, 8, 23, 24, 25, 26, 27, 28, 29, 30, 5, 31, 32, 33, 34, 35, 1, 36, 37, 38, 39, 40, 41, 42, 43, 44, 45, 46, 47, 48, 49, 50, 51, 52, 53, 54, 55, 56, 57, 58, 59, 60, 61, 62, 63, 64, 65, 66, 67, 68, 69, 70, 71, 72, 73, 74] (by decide +kernel) (by decide +kernel)) (goodIn_sub (fun _ h => List.mem_cons_of_mem _ (List.mem_append_right _ h)) (by decide +kernel))
set_option maxRecDepth 20000 in
theorem gX0_foldPerson_X0_ordersAgainst : GoodIn wsX0_foldPerson (wsV RX0 179 RX0 yX0_ordersAgainst wsX0_ordersAgainst) := goodIn_app (goodIn_of _ (by decide +kernel)) ggX0_foldPerson_X0_ordersAgainst
theorem dX0_foldPerson_0 : decode cX0_foldPerson 0 = .ok (.lload_n 1, 1) := by decide +kernel
theorem dX0_foldPerson_1 : decode cX0_foldPerson 1 = .ok (.lstore 4, 2) := by decide +kernel
theorem dX0_foldPerson_3 : decode cX0_foldPerson 3 = .ok (.lload 4, 2) := by decide +kernel
theorem dX0_foldPerson_5 : decode cX0_foldPerson 5 = .ok (.aload_n 0, 1) := by decide +kernel
theorem dX0_foldPerson_6 : decode cX0_foldPerson 6 = .ok (.getfield 29, 3) := by decide +kernel
theorem dX0_foldPerson_9 : decode cX0_foldPerson 9 = .ok (.iload_n 3, 1) := by decide +kernel
theorem dX0_foldPerson_10 : decode cX0_foldPerson 10 = .ok (.iaload, 1) := by decide +kernel
theorem dX0_foldPerson_11 : decode cX0_foldPerson 11 = .ok (.invokestatic 150, 3) := by decide +kernel
theorem dX0_foldPerson_14 : decode cX0_foldPerson 14 = .ok (.lstore 4, 2) := by decide +kernel
theorem dX0_foldPerson_16 : decode cX0_foldPerson 16 = .ok (.lload 4, 2) := by decide +kernel
theorem dX0_foldPerson_18 : decode cX0_foldPerson 18 = .ok (.aload_n 0, 1) := by decide +kernel
theorem dX0_foldPerson_19 : decode cX0_foldPerson 19 = .ok (.getfield 35, 3) := by decide +kernel
theorem dX0_foldPerson_22 : decode cX0_foldPerson 22 = .ok (.iload_n 3, 1) := by decide +kernel
theorem dX0_foldPerson_23 : decode cX0_foldPerson 23 = .ok (.iaload, 1) := by decide +kernel
theorem dX0_foldPerson_24 : decode cX0_foldPerson 24 = .ok (.invokestatic 150, 3) := by decide +kernel
theorem dX0_foldPerson_27 : decode cX0_foldPerson 27 = .ok (.lstore 4, 2) := by decide +kernel
theorem dX0_foldPerson_29 : decode cX0_foldPerson 29 = .ok (.lload 4, 2) := by decide +kernel
theorem dX0_foldPerson_31 : decode cX0_foldPerson 31 = .ok (.aload_n 0, 1) := by decide +kernel
theorem dX0_foldPerson_32 : decode cX0_foldPerson 32 = .ok (.getfield 32, 3) := by decide +kernel
theorem dX0_foldPerson_35 : decode cX0_foldPerson 35 = .ok (.iload_n 3, 1) := by decide +kernel
theorem dX0_foldPerson_36 : decode cX0_foldPerson 36 = .ok (.iaload, 1) := by decide +kernel
theorem dX0_foldPerson_37 : decode cX0_foldPerson 37 = .ok (.invokestatic 150, 3) := by decide +kernel
theorem dX0_foldPerson_40 : decode cX0_foldPerson 40 = .ok (.lstore 4, 2) := by decide +kernel
theorem dX0_foldPerson_42 : decode cX0_foldPerson 42 = .ok (.iconst 0, 1) := by decide +kernel
theorem dX0_foldPerson_43 : decode cX0_foldPerson 43 = .ok (.istore 6, 2) := by decide +kernel
theorem dX0_foldPerson_45 : decode cX0_foldPerson 45 = .ok (.iload 6, 2) := by decide +kernel
theorem dX0_foldPerson_47 : decode cX0_foldPerson 47 = .ok (.iconst 4, 1) := by decide +kernel
theorem dX0_foldPerson_48 : decode cX0_foldPerson 48 = .ok (.if_icmp .ge 27, 3) := by decide +kernel
theorem dX0_foldPerson_51 : decode cX0_foldPerson 51 = .ok (.lload 4, 2) := by decide +kernel
theorem dX0_foldPerson_53 : decode cX0_foldPerson 53 = .ok (.aload_n 0, 1) := by decide +kernel
theorem dX0_foldPerson_54 : decode cX0_foldPerson 54 = .ok (.getfield 38, 3) := by decide +kernel
theorem dX0_foldPerson_57 : decode cX0_foldPerson 57 = .ok (.iload_n 3, 1) := by decide +kernel
theorem dX0_foldPerson_58 : decode cX0_foldPerson 58 = .ok (.iload 6, 2) := by decide +kernel
theorem dX0_foldPerson_60 : decode cX0_foldPerson 60 = .ok (.invokestatic 92, 3) := by decide +kernel
theorem dX0_foldPerson_63 : decode cX0_foldPerson 63 = .ok (.iaload, 1) := by decide +kernel
theorem dX0_foldPerson_64 : decode cX0_foldPerson 64 = .ok (.invokestatic 150, 3) := by decide +kernel
theorem dX0_foldPerson_67 : decode cX0_foldPerson 67 = .ok (.lstore 4, 2) := by decide +kernel
theorem dX0_foldPerson_69 : decode cX0_foldPerson 69 = .ok (.iinc 6 1, 3) := by decide +kernel
theorem dX0_foldPerson_72 : decode cX0_foldPerson 72 = .ok (.goto (-27), 3) := by decide +kernel
theorem dX0_foldPerson_75 : decode cX0_foldPerson 75 = .ok (.iconst 0, 1) := by decide +kernel
theorem dX0_foldPerson_76 : decode cX0_foldPerson 76 = .ok (.istore 6, 2) := by decide +kernel
theorem dX0_foldPerson_78 : decode cX0_foldPerson 78 = .ok (.iload 6, 2) := by decide +kernel
theorem dX0_foldPerson_80 : decode cX0_foldPerson 80 = .ok (.aload_n 0, 1) := by decide +kernel
theorem dX0_foldPerson_81 : decode cX0_foldPerson 81 = .ok (.getfield 44, 3) := by decide +kernel
theorem dX0_foldPerson_84 : decode cX0_foldPerson 84 = .ok (.if_icmp .ge 23, 3) := by decide +kernel
theorem dX0_foldPerson_87 : decode cX0_foldPerson 87 = .ok (.lload 4, 2) := by decide +kernel
theorem dX0_foldPerson_89 : decode cX0_foldPerson 89 = .ok (.aload_n 0, 1) := by decide +kernel
theorem dX0_foldPerson_90 : decode cX0_foldPerson 90 = .ok (.iload_n 3, 1) := by decide +kernel
theorem dX0_foldPerson_91 : decode cX0_foldPerson 91 = .ok (.iload 6, 2) := by decide +kernel
theorem dX0_foldPerson_93 : decode cX0_foldPerson 93 = .ok (.invokevirtual 179, 3) := by decide +kernel
theorem dX0_foldPerson_96 : decode cX0_foldPerson 96 = .ok (.invokestatic 150, 3) := by decide +kernel
theorem dX0_foldPerson_99 : decode cX0_foldPerson 99 = .ok (.lstore 4, 2) := by decide +kernel
theorem dX0_foldPerson_101 : decode cX0_foldPerson 101 = .ok (.iinc 6 1, 3) := by decide +kernel
theorem dX0_foldPerson_104 : decode cX0_foldPerson 104 = .ok (.goto (-26), 3) := by decide +kernel
theorem dX0_foldPerson_107 : decode cX0_foldPerson 107 = .ok (.lload 4, 2) := by decide +kernel
theorem dX0_foldPerson_109 : decode cX0_foldPerson 109 = .ok (.lreturn, 1) := by decide +kernel
theorem dX0_fold_0 : decode cX0_fold 0 = .ok (.lload_n 0, 1) := by decide +kernel
theorem dX0_fold_1 : decode cX0_fold 1 = .ok (.ldc2_w 182, 3) := by decide +kernel
theorem dX0_fold_4 : decode cX0_fold 4 = .ok (.lmul, 1) := by decide +kernel
theorem dX0_fold_5 : decode cX0_fold 5 = .ok (.iload_n 2, 1) := by decide +kernel
theorem dX0_fold_6 : decode cX0_fold 6 = .ok (.i2l, 1) := by decide +kernel
theorem dX0_fold_7 : decode cX0_fold 7 = .ok (.ladd, 1) := by decide +kernel
theorem dX0_fold_8 : decode cX0_fold 8 = .ok (.lreturn, 1) := by decide +kernel
theorem dX0_oneIf_0 : decode cX0_oneIf 0 = .ok (.iload_n 0, 1) := by decide +kernel
theorem dX0_oneIf_1 : decode cX0_oneIf 1 = .ok (.ifCond .eq 7, 3) := by decide +kernel
theorem dX0_oneIf_4 : decode cX0_oneIf 4 = .ok (.iconst 1, 1) := by decide +kernel
theorem dX0_oneIf_5 : decode cX0_oneIf 5 = .ok (.goto 4, 3) := by decide +kernel
theorem dX0_oneIf_8 : decode cX0_oneIf 8 = .ok (.iconst 0, 1) := by decide +kernel
theorem dX0_oneIf_9 : decode cX0_oneIf 9 = .ok (.ireturn, 1) := by decide +kernel
theorem dX0_tideOf_0 : decode cX0_tideOf 0 = .ok (.iload_n 0, 1) := by decide +kernel
theorem dX0_tideOf_1 : decode cX0_tideOf 1 = .ok (.bipush 40, 2) := by decide +kernel
theorem dX0_tideOf_3 : decode cX0_tideOf 3 = .ok (.irem, 1) := by decide +kernel
theorem dX0_tideOf_4 : decode cX0_tideOf 4 = .ok (.istore_n 1, 1) := by decide +kernel
theorem dX0_tideOf_5 : decode cX0_tideOf 5 = .ok (.iload_n 1, 1) := by decide +kernel
theorem dX0_tideOf_6 : decode cX0_tideOf 6 = .ok (.bipush 20, 2) := by decide +kernel
theorem dX0_tideOf_8 : decode cX0_tideOf 8 = .ok (.if_icmp .ge 7, 3) := by decide +kernel
theorem dX0_tideOf_11 : decode cX0_tideOf 11 = .ok (.iload_n 1, 1) := by decide +kernel
theorem dX0_tideOf_12 : decode cX0_tideOf 12 = .ok (.iconst 4, 1) := by decide +kernel
theorem dX0_tideOf_13 : decode cX0_tideOf 13 = .ok (.idiv, 1) := by decide +kernel
theorem dX0_tideOf_14 : decode cX0_tideOf 14 = .ok (.ireturn, 1) := by decide +kernel
theorem dX0_tideOf_15 : decode cX0_tideOf 15 = .ok (.bipush 39, 2) := by decide +kernel
theorem dX0_tideOf_17 : decode cX0_tideOf 17 = .ok (.iload_n 1, 1) := by decide +kernel
theorem dX0_tideOf_18 : decode cX0_tideOf 18 = .ok (.isub, 1) := by decide +kernel
theorem dX0_tideOf_19 : decode cX0_tideOf 19 = .ok (.iconst 4, 1) := by decide +kernel
theorem dX0_tideOf_20 : decode cX0_tideOf 20 = .ok (.idiv, 1) := by decide +kernel
theorem dX0_tideOf_21 : decode cX0_tideOf 21 = .ok (.ireturn, 1) := by decide +kernel
set_option maxRecDepth 20000 in
theorem ggX0_duskOf_X0_tideOf : GoodIn wsX0_duskOf wsX0_tideOf := goodIn_r _ [5] (by decide +kernel) (by decide +kernel)
set_option maxRecDepth 20000 in
theorem gX0_duskOf_X0_tideOf : GoodIn wsX0_duskOf (va_wsS RX0 184 yX0_tideOf wsX0_tideOf) := goodIn_app (goodIn_of _ (by decide +kernel)) ggX0_duskOf_X0_tideOf
theorem dX0_duskOf_0 : decode cX0_duskOf 0 = .ok (.bipush 34, 2) := by decide +kernel
theorem dX0_duskOf_2 : decode cX0_duskOf 2 = .ok (.iload_n 1, 1) := by decide +kernel
theorem dX0_duskOf_3 : decode cX0_duskOf 3 = .ok (.invokestatic 184, 3) := by decide +kernel
theorem dX0_duskOf_6 : decode cX0_duskOf 6 = .ok (.iadd, 1) := by decide +kernel
theorem dX0_duskOf_7 : decode cX0_duskOf 7 = .ok (.aload_n 0, 1) := by decide +kernel
theorem dX0_duskOf_8 : decode cX0_duskOf 8 = .ok (.getfield 86, 3) := by decide +kernel
theorem dX0_duskOf_11 : decode cX0_duskOf 11 = .ok (.iadd, 1) := by decide +kernel
theorem dX0_duskOf_12 : decode cX0_duskOf 12 = .ok (.ireturn, 1) := by decide +kernel
set_option maxRecDepth 20000 in
theorem ggX0_dawnOf_X0_tideOf : GoodIn wsX0_dawnOf wsX0_tideOf := goodIn_r _ [4] (by decide +kernel) (by decide +kernel)
set_option maxRecDepth 20000 in
theorem gX0_dawnOf_X0_tideOf : GoodIn wsX0_dawnOf (va_wsS RX0 184 yX0_tideOf wsX0_tideOf) := goodIn_app (goodIn_of _ (by decide +kernel)) ggX0_dawnOf_X0_tideOf
theorem dX0_dawnOf_0 : decode cX0_dawnOf 0 = .ok (.bipush 14, 2) := by decide +kernel
theorem dX0_dawnOf_2 : decode cX0_dawnOf 2 = .ok (.iload_n 0, 1) := by decide +kernel
theorem dX0_dawnOf_3 : decode cX0_dawnOf 3 = .ok (.invokestatic 184, 3) := by decide +kernel
theorem dX0_dawnOf_6 : decode cX0_dawnOf 6 = .ok (.isub, 1) := by decide +kernel
theorem dX0_dawnOf_7 : decode cX0_dawnOf 7 = .ok (.ireturn, 1) := by decide +kernel
set_option maxRecDepth 20000 in
theorem ggX0_isInHours_X0_duskOf : GoodIn wsX0_isInHours wsX0_duskOf := goodIn_r _ [7, 8, 9, 10, 6, 11, 15, 16, 17, 18, 19, 20, 21, 22, 23, 24, 25, 26, 27, 28, 29, 30] (by decide +kernel) (by decide +kernel)
set_option maxRecDepth 20000 in
theorem gX0_isInHours_X0_duskOf : GoodIn wsX0_isInHours (wsV RX0 122 RX0 yX0_duskOf wsX0_duskOf) := goodIn_app (goodIn_of _ (by decide +kernel)) ggX0_isInHours_X0_duskOf
set_option maxRecDepth 20000 in
theorem ggX0_isInHours_X0_dawnOf : GoodIn wsX0_isInHours wsX0_dawnOf := goodIn_r _ [14, 9, 10, 6, 11] (by decide +kernel) (by decide +kernel)
set_option maxRecDepth 20000 in
theorem gX0_isInHours_X0_dawnOf : GoodIn wsX0_isInHours (va_wsS RX0 125 yX0_dawnOf wsX0_dawnOf) := goodIn_app (goodIn_of _ (by decide +kernel)) ggX0_isInHours_X0_dawnOf
theorem dX0_isInHours_0 : decode cX0_isInHours 0 = .ok (.iload_n 2, 1) := by decide +kernel
theorem dX0_isInHours_1 : decode cX0_isInHours 1 = .ok (.bipush 48, 2) := by decide +kernel
theorem dX0_isInHours_3 : decode cX0_isInHours 3 = .ok (.idiv, 1) := by decide +kernel
theorem dX0_isInHours_4 : decode cX0_isInHours 4 = .ok (.istore_n 3, 1) := by decide +kernel
theorem dX0_isInHours_5 : decode cX0_isInHours 5 = .ok (.iload_n 2, 1) := by decide +kernel
theorem dX0_isInHours_6 : decode cX0_isInHours 6 = .ok (.bipush 48, 2) := by decide +kernel
theorem dX0_isInHours_8 : decode cX0_isInHours 8 = .ok (.irem, 1) := by decide +kernel
theorem dX0_isInHours_9 : decode cX0_isInHours 9 = .ok (.istore 4, 2) := by decide +kernel
theorem dX0_isInHours_11 : decode cX0_isInHours 11 = .ok (.iload 4, 2) := by decide +kernel
theorem dX0_isInHours_13 : decode cX0_isInHours 13 = .ok (.aload_n 0, 1) := by decide +kernel
theorem dX0_isInHours_14 : decode cX0_isInHours 14 = .ok (.iload_n 3, 1) := by decide +kernel
theorem dX0_isInHours_15 : decode cX0_isInHours 15 = .ok (.invokevirtual 122, 3) := by decide +kernel
theorem dX0_isInHours_18 : decode cX0_isInHours 18 = .ok (.aload_n 0, 1) := by decide +kernel
theorem dX0_isInHours_19 : decode cX0_isInHours 19 = .ok (.getfield 13, 3) := by decide +kernel
theorem dX0_isInHours_22 : decode cX0_isInHours 22 = .ok (.iload_n 1, 1) := by decide +kernel
theorem dX0_isInHours_23 : decode cX0_isInHours 23 = .ok (.iaload, 1) := by decide +kernel
theorem dX0_isInHours_24 : decode cX0_isInHours 24 = .ok (.isub, 1) := by decide +kernel
theorem dX0_isInHours_25 : decode cX0_isInHours 25 = .ok (.if_icmp .ge 19, 3) := by decide +kernel
theorem dX0_isInHours_28 : decode cX0_isInHours 28 = .ok (.iload 4, 2) := by decide +kernel
theorem dX0_isInHours_30 : decode cX0_isInHours 30 = .ok (.iload_n 3, 1) := by decide +kernel
theorem dX0_isInHours_31 : decode cX0_isInHours 31 = .ok (.invokestatic 125, 3) := by decide +kernel
theorem dX0_isInHours_34 : decode cX0_isInHours 34 = .ok (.aload_n 0, 1) := by decide +kernel
theorem dX0_isInHours_35 : decode cX0_isInHours 35 = .ok (.getfield 16, 3) := by decide +kernel
theorem dX0_isInHours_38 : decode cX0_isInHours 38 = .ok (.iload_n 1, 1) := by decide +kernel
theorem dX0_isInHours_39 : decode cX0_isInHours 39 = .ok (.iaload, 1) := by decide +kernel
theorem dX0_isInHours_40 : decode cX0_isInHours 40 = .ok (.iadd, 1) := by decide +kernel
theorem dX0_isInHours_41 : decode cX0_isInHours 41 = .ok (.if_icmp .ge 7, 3) := by decide +kernel
theorem dX0_isInHours_44 : decode cX0_isInHours 44 = .ok (.iconst 1, 1) := by decide +kernel
theorem dX0_isInHours_45 : decode cX0_isInHours 45 = .ok (.goto 4, 3) := by decide +kernel
theorem dX0_isInHours_48 : decode cX0_isInHours 48 = .ok (.iconst 0, 1) := by decide +kernel
theorem dX0_isInHours_49 : decode cX0_isInHours 49 = .ok (.ireturn, 1) := by decide +kernel
set_option maxRecDepth 20000 in
theorem ggX0_isOnAt_X0_isInHours : GoodIn wsX0_isOnAt wsX0_isInHours := goodIn_r _ [6, 7, 8, 9, 10, 11, 5, 12, 13, 14, 15, 16, 17, 18, 19, 20, 21, 22, 23, 24, 25, 26, 27, 28, 29, 30, 31, 32, 33, 34, 35] (by decide +kernel) (by decide +kernel)
set_option maxRecDepth 20000 in
theorem gX0_isOnAt_X0_isInHours : GoodIn wsX0_isOnAt (wsV RX0 139 RX0 yX0_isInHours wsX0_isInHours) := goodIn_app (goodIn_of _ (by decide +kernel)) ggX0_isOnAt_X0_isInHours
theorem dX0_isOnAt_0 : decode cX0_isOnAt 0 = .ok (.aload_n 0, 1) := by decide +kernel
theorem dX0_isOnAt_1 : decode cX0_isOnAt 1 = .ok (.getfield 22, 3) := by decide +kernel
theorem dX0_isOnAt_4 : decode cX0_isOnAt 4 = .ok (.iload_n 1, 1) := by decide +kernel
theorem dX0_isOnAt_5 : decode cX0_isOnAt 5 = .ok (.baload, 1) := by decide +kernel
theorem dX0_isOnAt_6 : decode cX0_isOnAt 6 = .ok (.ifCond .eq 16, 3) := by decide +kernel
theorem dX0_isOnAt_9 : decode cX0_isOnAt 9 = .ok (.aload_n 0, 1) := by decide +kernel
theorem dX0_isOnAt_10 : decode cX0_isOnAt 10 = .ok (.iload_n 1, 1) := by decide +kernel
theorem dX0_isOnAt_11 : decode cX0_isOnAt 11 = .ok (.iload_n 2, 1) := by decide +kernel
theorem dX0_isOnAt_12 : decode cX0_isOnAt 12 = .ok (.invokevirtual 139, 3) := by decide +kernel
theorem dX0_isOnAt_15 : decode cX0_isOnAt 15 = .ok (.ifCond .eq 7, 3) := by decide +kernel
theorem dX0_isOnAt_18 : decode cX0_isOnAt 18 = .ok (.iconst 1, 1) := by decide +kernel
theorem dX0_isOnAt_19 : decode cX0_isOnAt 19 = .ok (.goto 4, 3) := by decide +kernel
theorem dX0_isOnAt_22 : decode cX0_isOnAt 22 = .ok (.iconst 0, 1) := by decide +kernel
theorem dX0_isOnAt_23 : decode cX0_isOnAt 23 = .ok (.ireturn, 1) := by decide +kernel
theorem dX0_exempts_0 : decode cX0_exempts 0 = .ok (.aload_n 0, 1) := by decide +kernel
theorem dX0_exempts_1 : decode cX0_exempts 1 = .ok (.getfield 26, 3) := by decide +kernel
theorem dX0_exempts_4 : decode cX0_exempts 4 = .ok (.iload_n 1, 1) := by decide +kernel
theorem dX0_exempts_5 : decode cX0_exempts 5 = .ok (.iaload, 1) := by decide +kernel
theorem dX0_exempts_6 : decode cX0_exempts 6 = .ok (.iload_n 2, 1) := by decide +kernel
theorem dX0_exempts_7 : decode cX0_exempts 7 = .ok (.ishr, 1) := by decide +kernel
theorem dX0_exempts_8 : decode cX0_exempts 8 = .ok (.iconst 1, 1) := by decide +kernel
theorem dX0_exempts_9 : decode cX0_exempts 9 = .ok (.iand, 1) := by decide +kernel
theorem dX0_exempts_10 : decode cX0_exempts 10 = .ok (.ifCond .eq 7, 3) := by decide +kernel
theorem dX0_exempts_13 : decode cX0_exempts 13 = .ok (.iconst 1, 1) := by decide +kernel
theorem dX0_exempts_14 : decode cX0_exempts 14 = .ok (.goto 4, 3) := by decide +kernel
theorem dX0_exempts_17 : decode cX0_exempts 17 = .ok (.iconst 0, 1) := by decide +kernel
theorem dX0_exempts_18 : decode cX0_exempts 18 = .ok (.ireturn, 1) := by decide +kernel
set_option maxRecDepth 20000 in
theorem ggX0_bars_X0_exempts : GoodIn wsX0_bars wsX0_exempts := goodIn_r _ [8, 9, 27, 28, 29, 30, 31, 32, 33, 34, 35, 36, 37, 38, 39, 40, 41, 42] (by decide +kernel) (by decide +kernel)
set_option maxRecDepth 20000 in
theorem gX0_bars_X0_exempts : GoodIn wsX0_bars (wsV RX0 82 RX0 yX0_exempts wsX0_exempts) := goodIn_app (goodIn_of _ (by decide +kernel)) ggX0_bars_X0_exempts
set_option maxRecDepth 20000 in
theorem ggX0_bars_X0_isInHours : GoodIn wsX0_bars wsX0_isInHours := goodIn_r _ [13, 14, 15, 16, 17, 18, 7, 19, 20, 21, 22, 23, 24, 25, 26, 27, 28, 29, 30, 31, 32, 33, 34, 35, 36, 37, 38, 39, 40, 41, 42] (by decide +kernel) (by decide +kernel)
set_option maxRecDepth 20000 in
theorem gX0_bars_X0_isInHours : GoodIn wsX0_bars (wsV RX0 139 RX0 yX0_isInHours wsX0_isInHours) := goodIn_app (goodIn_of _ (by decide +kernel)) ggX0_bars_X0_isInHours
theorem dX0_bars_0 : decode cX0_bars 0 = .ok (.aload_n 0, 1) := by decide +kernel
theorem dX0_bars_1 : decode cX0_bars 1 = .ok (.getfield 9, 3) := by decide +kernel
theorem dX0_bars_4 : decode cX0_bars 4 = .ok (.iload_n 1, 1) := by decide +kernel
theorem dX0_bars_5 : decode cX0_bars 5 = .ok (.iaload, 1) := by decide +kernel
theorem dX0_bars_6 : decode cX0_bars 6 = .ok (.iload_n 3, 1) := by decide +kernel
theorem dX0_bars_7 : decode cX0_bars 7 = .ok (.if_icmp .ne 40, 3) := by decide +kernel
theorem dX0_bars_10 : decode cX0_bars 10 = .ok (.aload_n 0, 1) := by decide +kernel
theorem dX0_bars_11 : decode cX0_bars 11 = .ok (.iload_n 1, 1) := by decide +kernel
theorem dX0_bars_12 : decode cX0_bars 12 = .ok (.aload_n 0, 1) := by decide +kernel
theorem dX0_bars_13 : decode cX0_bars 13 = .ok (.getfield 29, 3) := by decide +kernel
theorem dX0_bars_16 : decode cX0_bars 16 = .ok (.iload_n 2, 1) := by decide +kernel
theorem dX0_bars_17 : decode cX0_bars 17 = .ok (.iaload, 1) := by decide +kernel
theorem dX0_bars_18 : decode cX0_bars 18 = .ok (.invokevirtual 82, 3) := by decide +kernel
theorem dX0_bars_21 : decode cX0_bars 21 = .ok (.ifCond .ne 26, 3) := by decide +kernel
theorem dX0_bars_24 : decode cX0_bars 24 = .ok (.aload_n 0, 1) := by decide +kernel
theorem dX0_bars_25 : decode cX0_bars 25 = .ok (.getfield 22, 3) := by decide +kernel
theorem dX0_bars_28 : decode cX0_bars 28 = .ok (.iload_n 1, 1) := by decide +kernel
theorem dX0_bars_29 : decode cX0_bars 29 = .ok (.baload, 1) := by decide +kernel
theorem dX0_bars_30 : decode cX0_bars 30 = .ok (.ifCond .eq 17, 3) := by decide +kernel
theorem dX0_bars_33 : decode cX0_bars 33 = .ok (.aload_n 0, 1) := by decide +kernel
theorem dX0_bars_34 : decode cX0_bars 34 = .ok (.iload_n 1, 1) := by decide +kernel
theorem dX0_bars_35 : decode cX0_bars 35 = .ok (.iload 4, 2) := by decide +kernel
theorem dX0_bars_37 : decode cX0_bars 37 = .ok (.invokevirtual 139, 3) := by decide +kernel
theorem dX0_bars_40 : decode cX0_bars 40 = .ok (.ifCond .eq 7, 3) := by decide +kernel
theorem dX0_bars_43 : decode cX0_bars 43 = .ok (.iconst 1, 1) := by decide +kernel
theorem dX0_bars_44 : decode cX0_bars 44 = .ok (.goto 4, 3) := by decide +kernel
theorem dX0_bars_47 : decode cX0_bars 47 = .ok (.iconst 0, 1) := by decide +kernel
theorem dX0_bars_48 : decode cX0_bars 48 = .ok (.ireturn, 1) := by decide +kernel
set_option maxRecDepth 20000 in
theorem ggX0_isFreeAt_X0_bars : GoodIn wsX0_isFreeAt wsX0_bars := goodIn_r _ [6, 7, 8, 9, 10, 11, 12, 5, 13, 14, 15, 16, 17, 18, 19, 20, 21, 22, 23, 24, 25, 26, 27, 28, 29, 30, 31, 32, 33, 34, 35, 36, 37, 38, 39, 40, 41, 42, 43, 44, 45, 46, 47] (by decide +kernel) (by decide +kernel)
set_option maxRecDepth 20000 in
theorem gX0_isFreeAt_X0_bars : GoodIn wsX0_isFreeAt (wsV RX0 104 RX0 yX0_bars wsX0_bars) := goodIn_app (goodIn_of _ (by decide +kernel)) ggX0_isFreeAt_X0_bars
theorem dX0_isFreeAt_0 : decode cX0_isFreeAt 0 = .ok (.iconst 0, 1) := by decide +kernel
theorem dX0_isFreeAt_1 : decode cX0_isFreeAt 1 = .ok (.istore 4, 2) := by decide +kernel
theorem dX0_isFreeAt_3 : decode cX0_isFreeAt 3 = .ok (.iload 4, 2) := by decide +kernel
theorem dX0_isFreeAt_5 : decode cX0_isFreeAt 5 = .ok (.aload_n 0, 1) := by decide +kernel
theorem dX0_isFreeAt_6 : decode cX0_isFreeAt 6 = .ok (.getfield 74, 3) := by decide +kernel
theorem dX0_isFreeAt_9 : decode cX0_isFreeAt 9 = .ok (.if_icmp .ge 23, 3) := by decide +kernel
theorem dX0_isFreeAt_12 : decode cX0_isFreeAt 12 = .ok (.aload_n 0, 1) := by decide +kernel
theorem dX0_isFreeAt_13 : decode cX0_isFreeAt 13 = .ok (.iload 4, 2) := by decide +kernel
theorem dX0_isFreeAt_15 : decode cX0_isFreeAt 15 = .ok (.iload_n 1, 1) := by decide +kernel
theorem dX0_isFreeAt_16 : decode cX0_isFreeAt 16 = .ok (.iload_n 2, 1) := by decide +kernel
theorem dX0_isFreeAt_17 : decode cX0_isFreeAt 17 = .ok (.iload_n 3, 1) := by decide +kernel
theorem dX0_isFreeAt_18 : decode cX0_isFreeAt 18 = .ok (.invokevirtual 104, 3) := by decide +kernel
theorem dX0_isFreeAt_21 : decode cX0_isFreeAt 21 = .ok (.ifCond .eq 5, 3) := by decide +kernel
theorem dX0_isFreeAt_24 : decode cX0_isFreeAt 24 = .ok (.iconst 0, 1) := by decide +kernel
theorem dX0_isFreeAt_25 : decode cX0_isFreeAt 25 = .ok (.ireturn, 1) := by decide +kernel
theorem dX0_isFreeAt_26 : decode cX0_isFreeAt 26 = .ok (.iinc 4 1, 3) := by decide +kernel
theorem dX0_isFreeAt_29 : decode cX0_isFreeAt 29 = .ok (.goto (-26), 3) := by decide +kernel
theorem dX0_isFreeAt_32 : decode cX0_isFreeAt 32 = .ok (.iconst 1, 1) := by decide +kernel
theorem dX0_isFreeAt_33 : decode cX0_isFreeAt 33 = .ok (.ireturn, 1) := by decide +kernel
set_option maxRecDepth 20000 in
theorem ggX0_timesBegun_X0_isOnAt : GoodIn wsX0_timesBegun wsX0_isOnAt := goodIn_r _ [6, 7, 8, 9, 10, 5, 11, 12, 13, 14, 15, 16, 17, 18, 19, 20, 21, 22, 23, 24, 25, 26, 27, 28, 29, 30, 31, 32, 33, 34, 35, 36, 37, 38, 39, 40] (by decide +kernel) (by decide +kernel)
set_option maxRecDepth 20000 in
theorem gX0_timesBegun_X0_isOnAt : GoodIn wsX0_timesBegun (wsV RX0 128 RX0 yX0_isOnAt wsX0_isOnAt) := goodIn_app (goodIn_of _ (by decide +kernel)) ggX0_timesBegun_X0_isOnAt
theorem dX0_timesBegun_0 : decode cX0_timesBegun 0 = .ok (.iconst 0, 1) := by decide +kernel
theorem dX0_timesBegun_1 : decode cX0_timesBegun 1 = .ok (.istore_n 3, 1) := by decide +kernel
theorem dX0_timesBegun_2 : decode cX0_timesBegun 2 = .ok (.aload_n 0, 1) := by decide +kernel
theorem dX0_timesBegun_3 : decode cX0_timesBegun 3 = .ok (.iload_n 1, 1) := by decide +kernel
theorem dX0_timesBegun_4 : decode cX0_timesBegun 4 = .ok (.aload_n 0, 1) := by decide +kernel
theorem dX0_timesBegun_5 : decode cX0_timesBegun 5 = .ok (.getfield 101, 3) := by decide +kernel
theorem dX0_timesBegun_8 : decode cX0_timesBegun 8 = .ok (.invokevirtual 128, 3) := by decide +kernel
theorem dX0_timesBegun_11 : decode cX0_timesBegun 11 = .ok (.istore 4, 2) := by decide +kernel
theorem dX0_timesBegun_13 : decode cX0_timesBegun 13 = .ok (.iconst 1, 1) := by decide +kernel
theorem dX0_timesBegun_14 : decode cX0_timesBegun 14 = .ok (.istore 5, 2) := by decide +kernel
theorem dX0_timesBegun_16 : decode cX0_timesBegun 16 = .ok (.iload 5, 2) := by decide +kernel
theorem dX0_timesBegun_18 : decode cX0_timesBegun 18 = .ok (.iload_n 2, 1) := by decide +kernel
theorem dX0_timesBegun_19 : decode cX0_timesBegun 19 = .ok (.if_icmp .gt 40, 3) := by decide +kernel
theorem dX0_timesBegun_22 : decode cX0_timesBegun 22 = .ok (.aload_n 0, 1) := by decide +kernel
theorem dX0_timesBegun_23 : decode cX0_timesBegun 23 = .ok (.iload_n 1, 1) := by decide +kernel
theorem dX0_timesBegun_24 : decode cX0_timesBegun 24 = .ok (.aload_n 0, 1) := by decide +kernel
theorem dX0_timesBegun_25 : decode cX0_timesBegun 25 = .ok (.getfield 101, 3) := by decide +kernel
theorem dX0_timesBegun_28 : decode cX0_timesBegun 28 = .ok (.iload 5, 2) := by decide +kernel
theorem dX0_timesBegun_30 : decode cX0_timesBegun 30 = .ok (.iadd, 1) := by decide +kernel
theorem dX0_timesBegun_31 : decode cX0_timesBegun 31 = .ok (.invokevirtual 128, 3) := by decide +kernel
theorem dX0_timesBegun_34 : decode cX0_timesBegun 34 = .ok (.istore 6, 2) := by decide +kernel
theorem dX0_timesBegun_36 : decode cX0_timesBegun 36 = .ok (.iload 6, 2) := by decide +kernel
theorem dX0_timesBegun_38 : decode cX0_timesBegun 38 = .ok (.ifCond .eq 11, 3) := by decide +kernel
theorem dX0_timesBegun_41 : decode cX0_timesBegun 41 = .ok (.iload 4, 2) := by decide +kernel
theorem dX0_timesBegun_43 : decode cX0_timesBegun 43 = .ok (.ifCond .ne 6, 3) := by decide +kernel
theorem dX0_timesBegun_46 : decode cX0_timesBegun 46 = .ok (.iinc 3 1, 3) := by decide +kernel
theorem dX0_timesBegun_49 : decode cX0_timesBegun 49 = .ok (.iload 6, 2) := by decide +kernel
theorem dX0_timesBegun_51 : decode cX0_timesBegun 51 = .ok (.istore 4, 2) := by decide +kernel
theorem dX0_timesBegun_53 : decode cX0_timesBegun 53 = .ok (.iinc 5 1, 3) := by decide +kernel
theorem dX0_timesBegun_56 : decode cX0_timesBegun 56 = .ok (.goto (-40), 3) := by decide +kernel
theorem dX0_timesBegun_59 : decode cX0_timesBegun 59 = .ok (.iload_n 3, 1) := by decide +kernel
theorem dX0_timesBegun_60 : decode cX0_timesBegun 60 = .ok (.ireturn, 1) := by decide +kernel
set_option maxRecDepth 20000 in
theorem ggX0_pairsFreedBy_X0_missing : GoodIn wsX0_pairsFreedBy wsX0_missing := goodIn_r _ [7, 8, 9, 10, 11, 12, 13, 14, 15, 16, 17, 18, 6, 19, 1, 20, 21, 22, 23, 24, 25, 26, 27, 28, 29, 30, 31, 32, 33, 34, 35, 36, 37, 38, 39, 40, 41, 42, 43, 44, 45, 46, 47, 48, 49, 50, 51, 52, 53, 54, 55, 56, 57, 58, 59, 60, 61, 62] (by decide +kernel) (by decide +kernel)
set_option maxRecDepth 20000 in
theorem gX0_pairsFreedBy_X0_missing : GoodIn wsX0_pairsFreedBy (wsV RX0 131 RX0 yX0_missing wsX0_missing) := goodIn_app (goodIn_of _ (by decide +kernel)) ggX0_pairsFreedBy_X0_missing
theorem dX0_pairsFreedBy_0 : decode cX0_pairsFreedBy 0 = .ok (.aload_n 0, 1) := by decide +kernel
theorem dX0_pairsFreedBy_1 : decode cX0_pairsFreedBy 1 = .ok (.getfield 9, 3) := by decide +kernel
theorem dX0_pairsFreedBy_4 : decode cX0_pairsFreedBy 4 = .ok (.iload_n 1, 1) := by decide +kernel
theorem dX0_pairsFreedBy_5 : decode cX0_pairsFreedBy 5 = .ok (.iaload, 1) := by decide +kernel
theorem dX0_pairsFreedBy_6 : decode cX0_pairsFreedBy 6 = .ok (.istore_n 2, 1) := by decide +kernel
theorem dX0_pairsFreedBy_7 : decode cX0_pairsFreedBy 7 = .ok (.iconst 0, 1) := by decide +kernel
theorem dX0_pairsFreedBy_8 : decode cX0_pairsFreedBy 8 = .ok (.istore_n 3, 1) := by decide +kernel
theorem dX0_pairsFreedBy_9 : decode cX0_pairsFreedBy 9 = .ok (.iconst 0, 1) := by decide +kernel
theorem dX0_pairsFreedBy_10 : decode cX0_pairsFreedBy 10 = .ok (.istore 4, 2) := by decide +kernel
theorem dX0_pairsFreedBy_12 : decode cX0_pairsFreedBy 12 = .ok (.iload 4, 2) := by decide +kernel
theorem dX0_pairsFreedBy_14 : decode cX0_pairsFreedBy 14 = .ok (.aload_n 0, 1) := by decide +kernel
theorem dX0_pairsFreedBy_15 : decode cX0_pairsFreedBy 15 = .ok (.getfield 59, 3) := by decide +kernel
theorem dX0_pairsFreedBy_18 : decode cX0_pairsFreedBy 18 = .ok (.if_icmp .ge 34, 3) := by decide +kernel
theorem dX0_pairsFreedBy_21 : decode cX0_pairsFreedBy 21 = .ok (.aload_n 0, 1) := by decide +kernel
theorem dX0_pairsFreedBy_22 : decode cX0_pairsFreedBy 22 = .ok (.iload 4, 2) := by decide +kernel
theorem dX0_pairsFreedBy_24 : decode cX0_pairsFreedBy 24 = .ok (.iload_n 2, 1) := by decide +kernel
theorem dX0_pairsFreedBy_25 : decode cX0_pairsFreedBy 25 = .ok (.iconst (-1), 1) := by decide +kernel
theorem dX0_pairsFreedBy_26 : decode cX0_pairsFreedBy 26 = .ok (.invokevirtual 131, 3) := by decide +kernel
theorem dX0_pairsFreedBy_29 : decode cX0_pairsFreedBy 29 = .ok (.ifCond .le 17, 3) := by decide +kernel
theorem dX0_pairsFreedBy_32 : decode cX0_pairsFreedBy 32 = .ok (.aload_n 0, 1) := by decide +kernel
theorem dX0_pairsFreedBy_33 : decode cX0_pairsFreedBy 33 = .ok (.iload 4, 2) := by decide +kernel
theorem dX0_pairsFreedBy_35 : decode cX0_pairsFreedBy 35 = .ok (.iload_n 2, 1) := by decide +kernel
theorem dX0_pairsFreedBy_36 : decode cX0_pairsFreedBy 36 = .ok (.iload_n 1, 1) := by decide +kernel
theorem dX0_pairsFreedBy_37 : decode cX0_pairsFreedBy 37 = .ok (.invokevirtual 131, 3) := by decide +kernel
theorem dX0_pairsFreedBy_40 : decode cX0_pairsFreedBy 40 = .ok (.ifCond .ne 6, 3) := by decide +kernel
theorem dX0_pairsFreedBy_43 : decode cX0_pairsFreedBy 43 = .ok (.iinc 3 1, 3) := by decide +kernel
theorem dX0_pairsFreedBy_46 : decode cX0_pairsFreedBy 46 = .ok (.iinc 4 1, 3) := by decide +kernel
theorem dX0_pairsFreedBy_49 : decode cX0_pairsFreedBy 49 = .ok (.goto (-37), 3) := by decide +kernel
theorem dX0_pairsFreedBy_52 : decode cX0_pairsFreedBy 52 = .ok (.iload_n 3, 1) := by decide +kernel
theorem dX0_pairsFreedBy_53 : decode cX0_pairsFreedBy 53 = .ok (.ireturn, 1) := by decide +kernel
theorem dX0_stampPlace_0 : decode cX0_stampPlace 0 = .ok (.iload_n 0, 1) := by decide +kernel
theorem dX0_stampPlace_1 : decode cX0_stampPlace 1 = .ok (.iconst 4, 1) := by decide +kernel
theorem dX0_stampPlace_2 : decode cX0_stampPlace 2 = .ok (.imul, 1) := by decide +kernel
theorem dX0_stampPlace_3 : decode cX0_stampPlace 3 = .ok (.iload_n 1, 1) := by decide +kernel
theorem dX0_stampPlace_4 : decode cX0_stampPlace 4 = .ok (.iadd, 1) := by decide +kernel
theorem dX0_stampPlace_5 : decode cX0_stampPlace 5 = .ok (.ireturn, 1) := by decide +kernel
set_option maxRecDepth 20000 in
theorem ggX0_useStamp_X0_stampPlace : GoodIn wsX0_useStamp wsX0_stampPlace := goodIn_r _ [6] (by decide +kernel) (by decide +kernel)
set_option maxRecDepth 20000 in
theorem gX0_useStamp_X0_stampPlace : GoodIn wsX0_useStamp (va_wsS RX0 92 yX0_stampPlace wsX0_stampPlace) := goodIn_app (goodIn_of _ (by decide +kernel)) ggX0_useStamp_X0_stampPlace
theorem dX0_useStamp_0 : decode cX0_useStamp 0 = .ok (.iload_n 1, 1) := by decide +kernel
theorem dX0_useStamp_1 : decode cX0_useStamp 1 = .ok (.iload_n 2, 1) := by decide +kernel
theorem dX0_useStamp_2 : decode cX0_useStamp 2 = .ok (.invokestatic 92, 3) := by decide +kernel
theorem dX0_useStamp_5 : decode cX0_useStamp 5 = .ok (.istore_n 3, 1) := by decide +kernel
theorem dX0_useStamp_6 : decode cX0_useStamp 6 = .ok (.aload_n 0, 1) := by decide +kernel
theorem dX0_useStamp_7 : decode cX0_useStamp 7 = .ok (.getfield 38, 3) := by decide +kernel
theorem dX0_useStamp_10 : decode cX0_useStamp 10 = .ok (.iload_n 3, 1) := by decide +kernel
theorem dX0_useStamp_11 : decode cX0_useStamp 11 = .ok (.iaload, 1) := by decide +kernel
theorem dX0_useStamp_12 : decode cX0_useStamp 12 = .ok (.ifCond .ne 5, 3) := by decide +kernel
theorem dX0_useStamp_15 : decode cX0_useStamp 15 = .ok (.iconst 0, 1) := by decide +kernel
theorem dX0_useStamp_16 : decode cX0_useStamp 16 = .ok (.ireturn, 1) := by decide +kernel
theorem dX0_useStamp_17 : decode cX0_useStamp 17 = .ok (.aload_n 0, 1) := by decide +kernel
theorem dX0_useStamp_18 : decode cX0_useStamp 18 = .ok (.getfield 38, 3) := by decide +kernel
theorem dX0_useStamp_21 : decode cX0_useStamp 21 = .ok (.iload_n 3, 1) := by decide +kernel
theorem dX0_useStamp_22 : decode cX0_useStamp 22 = .ok (.dup2, 1) := by decide +kernel
theorem dX0_useStamp_23 : decode cX0_useStamp 23 = .ok (.iaload, 1) := by decide +kernel
theorem dX0_useStamp_24 : decode cX0_useStamp 24 = .ok (.iconst 1, 1) := by decide +kernel
theorem dX0_useStamp_25 : decode cX0_useStamp 25 = .ok (.isub, 1) := by decide +kernel
theorem dX0_useStamp_26 : decode cX0_useStamp 26 = .ok (.iastore, 1) := by decide +kernel
theorem dX0_useStamp_27 : decode cX0_useStamp 27 = .ok (.aload_n 0, 1) := by decide +kernel
theorem dX0_useStamp_28 : decode cX0_useStamp 28 = .ok (.getfield 41, 3) := by decide +kernel
theorem dX0_useStamp_31 : decode cX0_useStamp 31 = .ok (.iload_n 2, 1) := by decide +kernel
theorem dX0_useStamp_32 : decode cX0_useStamp 32 = .ok (.dup2, 1) := by decide +kernel
theorem dX0_useStamp_33 : decode cX0_useStamp 33 = .ok (.iaload, 1) := by decide +kernel
theorem dX0_useStamp_34 : decode cX0_useStamp 34 = .ok (.iconst 1, 1) := by decide +kernel
theorem dX0_useStamp_35 : decode cX0_useStamp 35 = .ok (.iadd, 1) := by decide +kernel
theorem dX0_useStamp_36 : decode cX0_useStamp 36 = .ok (.iastore, 1) := by decide +kernel
theorem dX0_useStamp_37 : decode cX0_useStamp 37 = .ok (.iconst 1, 1) := by decide +kernel
theorem dX0_useStamp_38 : decode cX0_useStamp 38 = .ok (.ireturn, 1) := by decide +kernel
theorem dX0_fineOnce_0 : decode cX0_fineOnce 0 = .ok (.aload_n 0, 1) := by decide +kernel
theorem dX0_fineOnce_1 : decode cX0_fineOnce 1 = .ok (.getfield 32, 3) := by decide +kernel
theorem dX0_fineOnce_4 : decode cX0_fineOnce 4 = .ok (.iload_n 1, 1) := by decide +kernel
theorem dX0_fineOnce_5 : decode cX0_fineOnce 5 = .ok (.dup2, 1) := by decide +kernel
theorem dX0_fineOnce_6 : decode cX0_fineOnce 6 = .ok (.iaload, 1) := by decide +kernel
theorem dX0_fineOnce_7 : decode cX0_fineOnce 7 = .ok (.iconst 1, 1) := by decide +kernel
theorem dX0_fineOnce_8 : decode cX0_fineOnce 8 = .ok (.iadd, 1) := by decide +kernel
theorem dX0_fineOnce_9 : decode cX0_fineOnce 9 = .ok (.iastore, 1) := by decide +kernel
theorem dX0_fineOnce_10 : decode cX0_fineOnce 10 = .ok (.bipush 10, 2) := by decide +kernel
theorem dX0_fineOnce_12 : decode cX0_fineOnce 12 = .ok (.aload_n 0, 1) := by decide +kernel
theorem dX0_fineOnce_13 : decode cX0_fineOnce 13 = .ok (.getfield 32, 3) := by decide +kernel
theorem dX0_fineOnce_16 : decode cX0_fineOnce 16 = .ok (.iload_n 1, 1) := by decide +kernel
theorem dX0_fineOnce_17 : decode cX0_fineOnce 17 = .ok (.iaload, 1) := by decide +kernel
theorem dX0_fineOnce_18 : decode cX0_fineOnce 18 = .ok (.imul, 1) := by decide +kernel
theorem dX0_fineOnce_19 : decode cX0_fineOnce 19 = .ok (.istore_n 2, 1) := by decide +kernel
theorem dX0_fineOnce_20 : decode cX0_fineOnce 20 = .ok (.aload_n 0, 1) := by decide +kernel
theorem dX0_fineOnce_21 : decode cX0_fineOnce 21 = .ok (.getfield 35, 3) := by decide +kernel
theorem dX0_fineOnce_24 : decode cX0_fineOnce 24 = .ok (.iload_n 1, 1) := by decide +kernel
theorem dX0_fineOnce_25 : decode cX0_fineOnce 25 = .ok (.dup2, 1) := by decide +kernel
theorem dX0_fineOnce_26 : decode cX0_fineOnce 26 = .ok (.iaload, 1) := by decide +kernel
theorem dX0_fineOnce_27 : decode cX0_fineOnce 27 = .ok (.iload_n 2, 1) := by decide +kernel
theorem dX0_fineOnce_28 : decode cX0_fineOnce 28 = .ok (.iadd, 1) := by decide +kernel
theorem dX0_fineOnce_29 : decode cX0_fineOnce 29 = .ok (.iastore, 1) := by decide +kernel
theorem dX0_fineOnce_30 : decode cX0_fineOnce 30 = .ok (.iload_n 2, 1) := by decide +kernel
theorem dX0_fineOnce_31 : decode cX0_fineOnce 31 = .ok (.ireturn, 1) := by decide +kernel
set_option maxRecDepth 20000 in
theorem ggX0_missing_X0_bars : GoodIn wsX0_missing wsX0_bars := goodIn_r _ [13, 14, 15, 16, 17, 18, 19, 12, 20, 21, 22, 23, 24, 25, 26, 27, 28, 29, 30, 31, 32, 33, 34, 35, 36, 37, 38, 42, 43, 44, 45, 46, 47, 48, 49, 50, 51, 52, 53, 54, 55, 56, 57] (by decide +kernel) (by decide +kernel)
set_option maxRecDepth 20000 in
theorem gX0_missing_X0_bars : GoodIn wsX0_missing (wsV RX0 104 RX0 yX0_bars wsX0_bars) := goodIn_app (goodIn_of _ (by decide +kernel)) ggX0_missing_X0_bars
set_option maxRecDepth 20000 in
theorem ggX0_missing_X0_stampPlace : GoodIn wsX0_missing wsX0_stampPlace := goodIn_r _ [41] (by decide +kernel) (by decide +kernel)
set_option maxRecDepth 20000 in
theorem gX0_missing_X0_stampPlace : GoodIn wsX0_missing (va_wsS RX0 92 yX0_stampPlace wsX0_stampPlace) := goodIn_app (goodIn_of _ (by decide +kernel)) ggX0_missing_X0_stampPlace
theorem dX0_missing_0 : decode cX0_missing 0 = .ok (.iconst 0, 1) := by decide +kernel
theorem dX0_missing_1 : decode cX0_missing 1 = .ok (.istore 4, 2) := by decide +kernel
theorem dX0_missing_3 : decode cX0_missing 3 = .ok (.iconst 0, 1) := by decide +kernel
theorem dX0_missing_4 : decode cX0_missing 4 = .ok (.istore 5, 2) := by decide +kernel
theorem dX0_missing_6 : decode cX0_missing 6 = .ok (.iload 5, 2) := by decide +kernel
theorem dX0_missing_8 : decode cX0_missing 8 = .ok (.iconst 4, 1) := by decide +kernel
theorem dX0_missing_9 : decode cX0_missing 9 = .ok (.if_icmp .ge 89, 3) := by decide +kernel
theorem dX0_missing_12 : decode cX0_missing 12 = .ok (.iconst 0, 1) := by decide +kernel
theorem dX0_missing_13 : decode cX0_missing 13 = .ok (.istore 6, 2) := by decide +kernel
theorem dX0_missing_15 : decode cX0_missing 15 = .ok (.iconst 0, 1) := by decide +kernel
theorem dX0_missing_16 : decode cX0_missing 16 = .ok (.istore 7, 2) := by decide +kernel
theorem dX0_missing_18 : decode cX0_missing 18 = .ok (.iload 7, 2) := by decide +kernel
theorem dX0_missing_20 : decode cX0_missing 20 = .ok (.aload_n 0, 1) := by decide +kernel
theorem dX0_missing_21 : decode cX0_missing 21 = .ok (.getfield 74, 3) := by decide +kernel
theorem dX0_missing_24 : decode cX0_missing 24 = .ok (.if_icmp .ge 45, 3) := by decide +kernel
theorem dX0_missing_27 : decode cX0_missing 27 = .ok (.iload 7, 2) := by decide +kernel
theorem dX0_missing_29 : decode cX0_missing 29 = .ok (.iload_n 3, 1) := by decide +kernel
theorem dX0_missing_30 : decode cX0_missing 30 = .ok (.if_icmp .eq 33, 3) := by decide +kernel
theorem dX0_missing_33 : decode cX0_missing 33 = .ok (.aload_n 0, 1) := by decide +kernel
theorem dX0_missing_34 : decode cX0_missing 34 = .ok (.getfield 19, 3) := by decide +kernel
theorem dX0_missing_37 : decode cX0_missing 37 = .ok (.iload 7, 2) := by decide +kernel
theorem dX0_missing_39 : decode cX0_missing 39 = .ok (.iaload, 1) := by decide +kernel
theorem dX0_missing_40 : decode cX0_missing 40 = .ok (.iload 5, 2) := by decide +kernel
theorem dX0_missing_42 : decode cX0_missing 42 = .ok (.if_icmp .ne 21, 3) := by decide +kernel
theorem dX0_missing_45 : decode cX0_missing 45 = .ok (.aload_n 0, 1) := by decide +kernel
theorem dX0_missing_46 : decode cX0_missing 46 = .ok (.iload 7, 2) := by decide +kernel
theorem dX0_missing_48 : decode cX0_missing 48 = .ok (.iload_n 1, 1) := by decide +kernel
theorem dX0_missing_49 : decode cX0_missing 49 = .ok (.iload_n 2, 1) := by decide +kernel
theorem dX0_missing_50 : decode cX0_missing 50 = .ok (.aload_n 0, 1) := by decide +kernel
theorem dX0_missing_51 : decode cX0_missing 51 = .ok (.getfield 101, 3) := by decide +kernel
theorem dX0_missing_54 : decode cX0_missing 54 = .ok (.invokevirtual 104, 3) := by decide +kernel
theorem dX0_missing_57 : decode cX0_missing 57 = .ok (.ifCond .eq 6, 3) := by decide +kernel
theorem dX0_missing_60 : decode cX0_missing 60 = .ok (.iinc 6 1, 3) := by decide +kernel
theorem dX0_missing_63 : decode cX0_missing 63 = .ok (.iinc 7 1, 3) := by decide +kernel
theorem dX0_missing_66 : decode cX0_missing 66 = .ok (.goto (-48), 3) := by decide +kernel
theorem dX0_missing_69 : decode cX0_missing 69 = .ok (.iload 4, 2) := by decide +kernel
theorem dX0_missing_71 : decode cX0_missing 71 = .ok (.iconst 0, 1) := by decide +kernel
theorem dX0_missing_72 : decode cX0_missing 72 = .ok (.iload 6, 2) := by decide +kernel
theorem dX0_missing_74 : decode cX0_missing 74 = .ok (.aload_n 0, 1) := by decide +kernel
theorem dX0_missing_75 : decode cX0_missing 75 = .ok (.getfield 38, 3) := by decide +kernel
theorem dX0_missing_78 : decode cX0_missing 78 = .ok (.iload_n 1, 1) := by decide +kernel
theorem dX0_missing_79 : decode cX0_missing 79 = .ok (.iload 5, 2) := by decide +kernel
theorem dX0_missing_81 : decode cX0_missing 81 = .ok (.invokestatic 92, 3) := by decide +kernel
theorem dX0_missing_84 : decode cX0_missing 84 = .ok (.iaload, 1) := by decide +kernel
theorem dX0_missing_85 : decode cX0_missing 85 = .ok (.isub, 1) := by decide +kernel
theorem dX0_missing_86 : decode cX0_missing 86 = .ok (.invokestatic 187, 3) := by decide +kernel
theorem dX0_missing_89 : decode cX0_missing 89 = .ok (.iadd, 1) := by decide +kernel
theorem dX0_missing_90 : decode cX0_missing 90 = .ok (.istore 4, 2) := by decide +kernel
theorem dX0_missing_92 : decode cX0_missing 92 = .ok (.iinc 5 1, 3) := by decide +kernel
theorem dX0_missing_95 : decode cX0_missing 95 = .ok (.goto (-89), 3) := by decide +kernel
theorem dX0_missing_98 : decode cX0_missing 98 = .ok (.iload 4, 2) := by decide +kernel
theorem dX0_missing_100 : decode cX0_missing 100 = .ok (.ireturn, 1) := by decide +kernel
theorem dX0_requireQuarter_0 : decode cX0_requireQuarter 0 = .ok (.iload_n 1, 1) := by decide +kernel
theorem dX0_requireQuarter_1 : decode cX0_requireQuarter 1 = .ok (.ifCond .lt 11, 3) := by decide +kernel
theorem dX0_requireQuarter_4 : decode cX0_requireQuarter 4 = .ok (.iload_n 1, 1) := by decide +kernel
theorem dX0_requireQuarter_5 : decode cX0_requireQuarter 5 = .ok (.aload_n 0, 1) := by decide +kernel
theorem dX0_requireQuarter_6 : decode cX0_requireQuarter 6 = .ok (.getfield 44, 3) := by decide +kernel
theorem dX0_requireQuarter_9 : decode cX0_requireQuarter 9 = .ok (.if_icmp .lt 13, 3) := by decide +kernel
theorem dX0_requireQuarter_12 : decode cX0_requireQuarter 12 = .ok (.new 190, 3) := by decide +kernel
theorem dX0_requireQuarter_15 : decode cX0_requireQuarter 15 = .ok (.dup, 1) := by decide +kernel
theorem dX0_requireQuarter_16 : decode cX0_requireQuarter 16 = .ok (.ldc 192, 2) := by decide +kernel
theorem dX0_requireQuarter_18 : decode cX0_requireQuarter 18 = .ok (.invokespecial 194, 3) := by decide +kernel
theorem dX0_requireQuarter_21 : decode cX0_requireQuarter 21 = .ok (.athrow, 1) := by decide +kernel
theorem dX0_requireQuarter_22 : decode cX0_requireQuarter 22 = .ok (.return_, 1) := by decide +kernel
theorem dX0_requireOrder_0 : decode cX0_requireOrder 0 = .ok (.iload_n 1, 1) := by decide +kernel
theorem dX0_requireOrder_1 : decode cX0_requireOrder 1 = .ok (.ifCond .lt 11, 3) := by decide +kernel
theorem dX0_requireOrder_4 : decode cX0_requireOrder 4 = .ok (.iload_n 1, 1) := by decide +kernel
theorem dX0_requireOrder_5 : decode cX0_requireOrder 5 = .ok (.aload_n 0, 1) := by decide +kernel
theorem dX0_requireOrder_6 : decode cX0_requireOrder 6 = .ok (.getfield 74, 3) := by decide +kernel
theorem dX0_requireOrder_9 : decode cX0_requireOrder 9 = .ok (.if_icmp .lt 13, 3) := by decide +kernel
theorem dX0_requireOrder_12 : decode cX0_requireOrder 12 = .ok (.new 190, 3) := by decide +kernel
theorem dX0_requireOrder_15 : decode cX0_requireOrder 15 = .ok (.dup, 1) := by decide +kernel
theorem dX0_requireOrder_16 : decode cX0_requireOrder 16 = .ok (.ldc 195, 2) := by decide +kernel
theorem dX0_requireOrder_18 : decode cX0_requireOrder 18 = .ok (.invokespecial 194, 3) := by decide +kernel
theorem dX0_requireOrder_21 : decode cX0_requireOrder 21 = .ok (.athrow, 1) := by decide +kernel
theorem dX0_requireOrder_22 : decode cX0_requireOrder 22 = .ok (.return_, 1) := by decide +kernel
theorem dX0_requirePerson_0 : decode cX0_requirePerson 0 = .ok (.iload_n 1, 1) := by decide +kernel
theorem dX0_requirePerson_1 : decode cX0_requirePerson 1 = .ok (.ifCond .lt 11, 3) := by decide +kernel
theorem dX0_requirePerson_4 : decode cX0_requirePerson 4 = .ok (.iload_n 1, 1) := by decide +kernel
theorem dX0_requirePerson_5 : decode cX0_requirePerson 5 = .ok (.aload_n 0, 1) := by decide +kernel
theorem dX0_requirePerson_6 : decode cX0_requirePerson 6 = .ok (.getfield 59, 3) := by decide +kernel
theorem dX0_requirePerson_9 : decode cX0_requirePerson 9 = .ok (.if_icmp .lt 13, 3) := by decide +kernel
theorem dX0_requirePerson_12 : decode cX0_requirePerson 12 = .ok (.new 190, 3) := by decide +kernel
theorem dX0_requirePerson_15 : decode cX0_requirePerson 15 = .ok (.dup, 1) := by decide +kernel
theorem dX0_requirePerson_16 : decode cX0_requirePerson 16 = .ok (.ldc 197, 2) := by decide +kernel
theorem dX0_requirePerson_18 : decode cX0_requirePerson 18 = .ok (.invokespecial 194, 3) := by decide +kernel
theorem dX0_requirePerson_21 : decode cX0_requirePerson 21 = .ok (.athrow, 1) := by decide +kernel
theorem dX0_requirePerson_22 : decode cX0_requirePerson 22 = .ok (.return_, 1) := by decide +kernel
theorem dX0_requireTrade_0 : decode cX0_requireTrade 0 = .ok (.iload_n 0, 1) := by decide +kernel
theorem dX0_requireTrade_1 : decode cX0_requireTrade 1 = .ok (.ifCond .lt 9, 3) := by decide +kernel
theorem dX0_requireTrade_4 : decode cX0_requireTrade 4 = .ok (.iload_n 0, 1) := by decide +kernel
theorem dX0_requireTrade_5 : decode cX0_requireTrade 5 = .ok (.bipush 8, 2) := by decide +kernel
theorem dX0_requireTrade_7 : decode cX0_requireTrade 7 = .ok (.if_icmp .lt 13, 3) := by decide +kernel
theorem dX0_requireTrade_10 : decode cX0_requireTrade 10 = .ok (.new 190, 3) := by decide +kernel
theorem dX0_requireTrade_13 : decode cX0_requireTrade 13 = .ok (.dup, 1) := by decide +kernel
theorem dX0_requireTrade_14 : decode cX0_requireTrade 14 = .ok (.ldc 199, 2) := by decide +kernel
theorem dX0_requireTrade_16 : decode cX0_requireTrade 16 = .ok (.invokespecial 194, 3) := by decide +kernel
theorem dX0_requireTrade_19 : decode cX0_requireTrade 19 = .ok (.athrow, 1) := by decide +kernel
theorem dX0_requireTrade_20 : decode cX0_requireTrade 20 = .ok (.return_, 1) := by decide +kernel
theorem dX0_requireColour_0 : decode cX0_requireColour 0 = .ok (.iload_n 0, 1) := by decide +kernel
theorem dX0_requireColour_1 : decode cX0_requireColour 1 = .ok (.ifCond .lt 8, 3) := by decide +kernel
theorem dX0_requireColour_4 : decode cX0_requireColour 4 = .ok (.iload_n 0, 1) := by decide +kernel
theorem dX0_requireColour_5 : decode cX0_requireColour 5 = .ok (.iconst 4, 1) := by decide +kernel
theorem dX0_requireColour_6 : decode cX0_requireColour 6 = .ok (.if_icmp .lt 13, 3) := by decide +kernel
theorem dX0_requireColour_9 : decode cX0_requireColour 9 = .ok (.new 190, 3) := by decide +kernel
theorem dX0_requireColour_12 : decode cX0_requireColour 12 = .ok (.dup, 1) := by decide +kernel
theorem dX0_requireColour_13 : decode cX0_requireColour 13 = .ok (.ldc 201, 2) := by decide +kernel
theorem dX0_requireColour_15 : decode cX0_requireColour 15 = .ok (.invokespecial 194, 3) := by decide +kernel
theorem dX0_requireColour_18 : decode cX0_requireColour 18 = .ok (.athrow, 1) := by decide +kernel
theorem dX0_requireColour_19 : decode cX0_requireColour 19 = .ok (.return_, 1) := by decide +kernel
theorem dX0_requireWithin_0 : decode cX0_requireWithin 0 = .ok (.iload_n 0, 1) := by decide +kernel
theorem dX0_requireWithin_1 : decode cX0_requireWithin 1 = .ok (.iload_n 1, 1) := by decide +kernel
theorem dX0_requireWithin_2 : decode cX0_requireWithin 2 = .ok (.if_icmp .lt 8, 3) := by decide +kernel
theorem dX0_requireWithin_5 : decode cX0_requireWithin 5 = .ok (.iload_n 0, 1) := by decide +kernel
theorem dX0_requireWithin_6 : decode cX0_requireWithin 6 = .ok (.iload_n 2, 1) := by decide +kernel
theorem dX0_requireWithin_7 : decode cX0_requireWithin 7 = .ok (.if_icmp .le 13, 3) := by decide +kernel
theorem dX0_requireWithin_10 : decode cX0_requireWithin 10 = .ok (.new 203, 3) := by decide +kernel
theorem dX0_requireWithin_13 : decode cX0_requireWithin 13 = .ok (.dup, 1) := by decide +kernel
theorem dX0_requireWithin_14 : decode cX0_requireWithin 14 = .ok (.ldc 205, 2) := by decide +kernel
theorem dX0_requireWithin_16 : decode cX0_requireWithin 16 = .ok (.invokespecial 207, 3) := by decide +kernel
theorem dX0_requireWithin_19 : decode cX0_requireWithin 19 = .ok (.athrow, 1) := by decide +kernel
theorem dX0_requireWithin_20 : decode cX0_requireWithin 20 = .ok (.return_, 1) := by decide +kernel
end
section
theorem dX1_init_0 : decode cX1_init 0 = .ok (.aload_n 0, 1) := by decide +kernel
theorem dX1_init_1 : decode cX1_init 1 = .ok (.invokespecial 1, 3) := by decide +kernel
theorem dX1_init_4 : decode cX1_init 4 = .ok (.aload_n 0, 1) := by decide +kernel
theorem dX1_init_5 : decode cX1_init 5 = .ok (.bipush 10, 2) := by decide +kernel
theorem dX1_init_7 : decode cX1_init 7 = .ok (.newarray .int, 2) := by decide +kernel
theorem dX1_init_9 : decode cX1_init 9 = .ok (.putfield 9, 3) := by decide +kernel
theorem dX1_init_12 : decode cX1_init 12 = .ok (.aload_n 0, 1) := by decide +kernel
theorem dX1_init_13 : decode cX1_init 13 = .ok (.bipush 10, 2) := by decide +kernel
theorem dX1_init_15 : decode cX1_init 15 = .ok (.newarray .int, 2) := by decide +kernel
theorem dX1_init_17 : decode cX1_init 17 = .ok (.putfield 13, 3) := by decide +kernel
theorem dX1_init_20 : decode cX1_init 20 = .ok (.aload_n 0, 1) := by decide +kernel
theorem dX1_init_21 : decode cX1_init 21 = .ok (.bipush 10, 2) := by decide +kernel
theorem dX1_init_23 : decode cX1_init 23 = .ok (.newarray .int, 2) := by decide +kernel
theorem dX1_init_25 : decode cX1_init 25 = .ok (.putfield 16, 3) := by decide +kernel
theorem dX1_init_28 : decode cX1_init 28 = .ok (.aload_n 0, 1) := by decide +kernel
theorem dX1_init_29 : decode cX1_init 29 = .ok (.bipush 10, 2) := by decide +kernel
theorem dX1_init_31 : decode cX1_init 31 = .ok (.newarray .int, 2) := by decide +kernel
theorem dX1_init_33 : decode cX1_init 33 = .ok (.putfield 19, 3) := by decide +kernel
theorem dX1_init_36 : decode cX1_init 36 = .ok (.aload_n 0, 1) := by decide +kernel
theorem dX1_init_37 : decode cX1_init 37 = .ok (.bipush 10, 2) := by decide +kernel
theorem dX1_init_39 : decode cX1_init 39 = .ok (.newarray .int, 2) := by decide +kernel
theorem dX1_init_41 : decode cX1_init 41 = .ok (.putfield 22, 3) := by decide +kernel
theorem dX1_init_44 : decode cX1_init 44 = .ok (.aload_n 0, 1) := by decide +kernel
theorem dX1_init_45 : decode cX1_init 45 = .ok (.bipush 10, 2) := by decide +kernel
theorem dX1_init_47 : decode cX1_init 47 = .ok (.newarray .boolean, 2) := by decide +kernel
theorem dX1_init_49 : decode cX1_init 49 = .ok (.putfield 25, 3) := by decide +kernel
theorem dX1_init_52 : decode cX1_init 52 = .ok (.aload_n 0, 1) := by decide +kernel
theorem dX1_init_53 : decode cX1_init 53 = .ok (.bipush 20, 2) := by decide +kernel
theorem dX1_init_55 : decode cX1_init 55 = .ok (.newarray .int, 2) := by decide +kernel
theorem dX1_init_57 : decode cX1_init 57 = .ok (.putfield 29, 3) := by decide +kernel
theorem dX1_init_60 : decode cX1_init 60 = .ok (.aload_n 0, 1) := by decide +kernel
theorem dX1_init_61 : decode cX1_init 61 = .ok (.bipush 20, 2) := by decide +kernel
theorem dX1_init_63 : decode cX1_init 63 = .ok (.newarray .int, 2) := by decide +kernel
theorem dX1_init_65 : decode cX1_init 65 = .ok (.putfield 32, 3) := by decide +kernel
theorem dX1_init_68 : decode cX1_init 68 = .ok (.aload_n 0, 1) := by decide +kernel
theorem dX1_init_69 : decode cX1_init 69 = .ok (.bipush 20, 2) := by decide +kernel
theorem dX1_init_71 : decode cX1_init 71 = .ok (.newarray .int, 2) := by decide +kernel
theorem dX1_init_73 : decode cX1_init 73 = .ok (.putfield 35, 3) := by decide +kernel
theorem dX1_init_76 : decode cX1_init 76 = .ok (.aload_n 0, 1) := by decide +kernel
theorem dX1_init_77 : decode cX1_init 77 = .ok (.bipush 80, 2) := by decide +kernel
theorem dX1_init_79 : decode cX1_init 79 = .ok (.newarray .int, 2) := by decide +kernel
theorem dX1_init_81 : decode cX1_init 81 = .ok (.putfield 38, 3) := by decide +kernel
theorem dX1_init_84 : decode cX1_init 84 = .ok (.aload_n 0, 1) := by decide +kernel
theorem dX1_init_85 : decode cX1_init 85 = .ok (.iconst 4, 1) := by decide +kernel
theorem dX1_init_86 : decode cX1_init 86 = .ok (.newarray .int, 2) := by decide +kernel
theorem dX1_init_88 : decode cX1_init 88 = .ok (.putfield 41, 3) := by decide +kernel
theorem dX1_init_91 : decode cX1_init 91 = .ok (.aload_n 0, 1) := by decide +kernel
theorem dX1_init_92 : decode cX1_init 92 = .ok (.iconst 4, 1) := by decide +kernel
theorem dX1_init_93 : decode cX1_init 93 = .ok (.newarray .int, 2) := by decide +kernel
theorem dX1_init_95 : decode cX1_init 95 = .ok (.putfield 44, 3) := by decide +kernel
theorem dX1_init_98 : decode cX1_init 98 = .ok (.return_, 1) := by decide +kernel
theorem dX1_thrown_0 : decode cX1_thrown 0 = .ok (.aload_n 0, 1) := by decide +kernel
theorem dX1_thrown_1 : decode cX1_thrown 1 = .ok (.getfield 47, 3) := by decide +kernel
theorem dX1_thrown_4 : decode cX1_thrown 4 = .ok (.ireturn, 1) := by decide +kernel
theorem dX1_fail_0 : decode cX1_fail 0 = .ok (.aload_n 0, 1) := by decide +kernel
theorem dX1_fail_1 : decode cX1_fail 1 = .ok (.iload_n 1, 1) := by decide +kernel
theorem dX1_fail_2 : decode cX1_fail 2 = .ok (.putfield 47, 3) := by decide +kernel
theorem dX1_fail_5 : decode cX1_fail 5 = .ok (.iconst 0, 1) := by decide +kernel
theorem dX1_fail_6 : decode cX1_fail 6 = .ok (.ireturn, 1) := by decide +kernel
theorem dX1_failed_0 : decode cX1_failed 0 = .ok (.aload_n 0, 1) := by decide +kernel
theorem dX1_failed_1 : decode cX1_failed 1 = .ok (.iload_n 1, 1) := by decide +kernel
theorem dX1_failed_2 : decode cX1_failed 2 = .ok (.putfield 47, 3) := by decide +kernel
theorem dX1_failed_5 : decode cX1_failed 5 = .ok (.iconst 0, 1) := by decide +kernel
theorem dX1_failed_6 : decode cX1_failed 6 = .ok (.ireturn, 1) := by decide +kernel
theorem dX1_isIn_0 : decode cX1_isIn 0 = .ok (.iload_n 0, 1) := by decide +kernel
theorem dX1_isIn_1 : decode cX1_isIn 1 = .ok (.iload_n 1, 1) := by decide +kernel
theorem dX1_isIn_2 : decode cX1_isIn 2 = .ok (.if_icmp .lt 12, 3) := by decide +kernel
theorem dX1_isIn_5 : decode cX1_isIn 5 = .ok (.iload_n 0, 1) := by decide +kernel
theorem dX1_isIn_6 : decode cX1_isIn 6 = .ok (.iload_n 2, 1) := by decide +kernel
theorem dX1_isIn_7 : decode cX1_isIn 7 = .ok (.if_icmp .gt 7, 3) := by decide +kernel
theorem dX1_isIn_10 : decode cX1_isIn 10 = .ok (.iconst 1, 1) := by decide +kernel
theorem dX1_isIn_11 : decode cX1_isIn 11 = .ok (.goto 4, 3) := by decide +kernel
theorem dX1_isIn_14 : decode cX1_isIn 14 = .ok (.iconst 0, 1) := by decide +kernel
theorem dX1_isIn_15 : decode cX1_isIn 15 = .ok (.ireturn, 1) := by decide +kernel
set_option maxRecDepth 20000 in
theorem ggX1_isQuarter_X1_isIn : GoodIn wsX1_isQuarter wsX1_isIn := goodIn_r _ [5] (by decide +kernel) (by decide +kernel)
set_option maxRecDepth 20000 in
theorem gX1_isQuarter_X1_isIn : GoodIn wsX1_isQuarter (va_wsS RX1 54 yX1_isIn wsX1_isIn) := goodIn_app (goodIn_of _ (by decide +kernel)) ggX1_isQuarter_X1_isIn
theorem dX1_isQuarter_0 : decode cX1_isQuarter 0 = .ok (.iload_n 1, 1) := by decide +kernel
theorem dX1_isQuarter_1 : decode cX1_isQuarter 1 = .ok (.iconst 0, 1) := by decide +kernel
theorem dX1_isQuarter_2 : decode cX1_isQuarter 2 = .ok (.aload_n 0, 1) := by decide +kernel
theorem dX1_isQuarter_3 : decode cX1_isQuarter 3 = .ok (.getfield 51, 3) := by decide +kernel
theorem dX1_isQuarter_6 : decode cX1_isQuarter 6 = .ok (.iconst 1, 1) := by decide +kernel
theorem dX1_isQuarter_7 : decode cX1_isQuarter 7 = .ok (.isub, 1) := by decide +kernel
theorem dX1_isQuarter_8 : decode cX1_isQuarter 8 = .ok (.invokestatic 54, 3) := by decide +kernel
theorem dX1_isQuarter_11 : decode cX1_isQuarter 11 = .ok (.ireturn, 1) := by decide +kernel
set_option maxRecDepth 20000 in
theorem ggX1_isOrder_X1_isIn : GoodIn wsX1_isOrder wsX1_isIn := goodIn_r _ [5] (by decide +kernel) (by decide +kernel)
set_option maxRecDepth 20000 in
theorem gX1_isOrder_X1_isIn : GoodIn wsX1_isOrder (va_wsS RX1 54 yX1_isIn wsX1_isIn) := goodIn_app (goodIn_of _ (by decide +kernel)) ggX1_isOrder_X1_isIn
theorem dX1_isOrder_0 : decode cX1_isOrder 0 = .ok (.iload_n 1, 1) := by decide +kernel
theorem dX1_isOrder_1 : decode cX1_isOrder 1 = .ok (.iconst 0, 1) := by decide +kernel
theorem dX1_isOrder_2 : decode cX1_isOrder 2 = .ok (.aload_n 0, 1) := by decide +kernel
theorem dX1_isOrder_3 : decode cX1_isOrder 3 = .ok (.getfield 58, 3) := by decide +kernel
theorem dX1_isOrder_6 : decode cX1_isOrder 6 = .ok (.iconst 1, 1) := by decide +kernel
theorem dX1_isOrder_7 : decode cX1_isOrder 7 = .ok (.isub, 1) := by decide +kernel
theorem dX1_isOrder_8 : decode cX1_isOrder 8 = .ok (.invokestatic 54, 3) := by decide +kernel
theorem dX1_isOrder_11 : decode cX1_isOrder 11 = .ok (.ireturn, 1) := by decide +kernel
set_option maxRecDepth 20000 in
theorem ggX1_isPerson_X1_isIn : GoodIn wsX1_isPerson wsX1_isIn := goodIn_r _ [5] (by decide +kernel) (by decide +kernel)
set_option maxRecDepth 20000 in
theorem gX1_isPerson_X1_isIn : GoodIn wsX1_isPerson (va_wsS RX1 54 yX1_isIn wsX1_isIn) := goodIn_app (goodIn_of _ (by decide +kernel)) ggX1_isPerson_X1_isIn
theorem dX1_isPerson_0 : decode cX1_isPerson 0 = .ok (.iload_n 1, 1) := by decide +kernel
theorem dX1_isPerson_1 : decode cX1_isPerson 1 = .ok (.iconst 0, 1) := by decide +kernel
theorem dX1_isPerson_2 : decode cX1_isPerson 2 = .ok (.aload_n 0, 1) := by decide +kernel
theorem dX1_isPerson_3 : decode cX1_isPerson 3 = .ok (.getfield 61, 3) := by decide +kernel
theorem dX1_isPerson_6 : decode cX1_isPerson 6 = .ok (.iconst 1, 1) := by decide +kernel
theorem dX1_isPerson_7 : decode cX1_isPerson 7 = .ok (.isub, 1) := by decide +kernel
theorem dX1_isPerson_8 : decode cX1_isPerson 8 = .ok (.invokestatic 54, 3) := by decide +kernel
theorem dX1_isPerson_11 : decode cX1_isPerson 11 = .ok (.ireturn, 1) := by decide +kernel
set_option maxRecDepth 20000 in
theorem ggX1_isTrade_X1_isIn : GoodIn wsX1_isTrade wsX1_isIn := goodIn_r _ [4] (by decide +kernel) (by decide +kernel)
set_option maxRecDepth 20000 in
theorem gX1_isTrade_X1_isIn : GoodIn wsX1_isTrade (va_wsS RX1 54 yX1_isIn wsX1_isIn) := goodIn_app (goodIn_of _ (by decide +kernel)) ggX1_isTrade_X1_isIn
theorem dX1_isTrade_0 : decode cX1_isTrade 0 = .ok (.iload_n 0, 1) := by decide +kernel
theorem dX1_isTrade_1 : decode cX1_isTrade 1 = .ok (.iconst 0, 1) := by decide +kernel
theorem dX1_isTrade_2 : decode cX1_isTrade 2 = .ok (.bipush 7, 2) := by decide +kernel
theorem dX1_isTrade_4 : decode cX1_isTrade 4 = .ok (.invokestatic 54, 3) := by decide +kernel
theorem dX1_isTrade_7 : decode cX1_isTrade 7 = .ok (.ireturn, 1) := by decide +kernel
set_option maxRecDepth 20000 in
theorem ggX1_isColour_X1_isIn : GoodIn wsX1_isColour wsX1_isIn := goodIn_r _ [4] (by decide +kernel) (by decide +kernel)
set_option maxRecDepth 20000 in
theorem gX1_isColour_X1_isIn : GoodIn wsX1_isColour (va_wsS RX1 54 yX1_isIn wsX1_isIn) := goodIn_app (goodIn_of _ (by decide +kernel)) ggX1_isColour_X1_isIn
theorem dX1_isColour_0 : decode cX1_isColour 0 = .ok (.iload_n 0, 1) := by decide +kernel
theorem dX1_isColour_1 : decode cX1_isColour 1 = .ok (.iconst 0, 1) := by decide +kernel
theorem dX1_isColour_2 : decode cX1_isColour 2 = .ok (.iconst 3, 1) := by decide +kernel
theorem dX1_isColour_3 : decode cX1_isColour 3 = .ok (.invokestatic 54, 3) := by decide +kernel
theorem dX1_isColour_6 : decode cX1_isColour 6 = .ok (.ireturn, 1) := by decide +kernel
theorem dX1_tide_0 : decode cX1_tide 0 = .ok (.iload_n 0, 1) := by decide +kernel
theorem dX1_tide_1 : decode cX1_tide 1 = .ok (.bipush 40, 2) := by decide +kernel
theorem dX1_tide_3 : decode cX1_tide 3 = .ok (.irem, 1) := by decide +kernel
theorem dX1_tide_4 : decode cX1_tide 4 = .ok (.istore_n 1, 1) := by decide +kernel
theorem dX1_tide_5 : decode cX1_tide 5 = .ok (.iload_n 1, 1) := by decide +kernel
theorem dX1_tide_6 : decode cX1_tide 6 = .ok (.bipush 20, 2) := by decide +kernel
theorem dX1_tide_8 : decode cX1_tide 8 = .ok (.if_icmp .ge 7, 3) := by decide +kernel
theorem dX1_tide_11 : decode cX1_tide 11 = .ok (.iload_n 1, 1) := by decide +kernel
theorem dX1_tide_12 : decode cX1_tide 12 = .ok (.goto 7, 3) := by decide +kernel
theorem dX1_tide_15 : decode cX1_tide 15 = .ok (.bipush 39, 2) := by decide +kernel
theorem dX1_tide_17 : decode cX1_tide 17 = .ok (.iload_n 1, 1) := by decide +kernel
theorem dX1_tide_18 : decode cX1_tide 18 = .ok (.isub, 1) := by decide +kernel
theorem dX1_tide_19 : decode cX1_tide 19 = .ok (.iconst 4, 1) := by decide +kernel
theorem dX1_tide_20 : decode cX1_tide 20 = .ok (.idiv, 1) := by decide +kernel
theorem dX1_tide_21 : decode cX1_tide 21 = .ok (.ireturn, 1) := by decide +kernel
set_option maxRecDepth 20000 in
theorem ggX1_dusk_X1_tide : GoodIn wsX1_dusk wsX1_tide := goodIn_r _ [5] (by decide +kernel) (by decide +kernel)
set_option maxRecDepth 20000 in
theorem gX1_dusk_X1_tide : GoodIn wsX1_dusk (va_wsS RX1 64 yX1_tide wsX1_tide) := goodIn_app (goodIn_of _ (by decide +kernel)) ggX1_dusk_X1_tide
theorem dX1_dusk_0 : decode cX1_dusk 0 = .ok (.bipush 34, 2) := by decide +kernel
theorem dX1_dusk_2 : decode cX1_dusk 2 = .ok (.iload_n 1, 1) := by decide +kernel
theorem dX1_dusk_3 : decode cX1_dusk 3 = .ok (.invokestatic 64, 3) := by decide +kernel
theorem dX1_dusk_6 : decode cX1_dusk 6 = .ok (.iadd, 1) := by decide +kernel
theorem dX1_dusk_7 : decode cX1_dusk 7 = .ok (.aload_n 0, 1) := by decide +kernel
theorem dX1_dusk_8 : decode cX1_dusk 8 = .ok (.getfield 68, 3) := by decide +kernel
theorem dX1_dusk_11 : decode cX1_dusk 11 = .ok (.iadd, 1) := by decide +kernel
theorem dX1_dusk_12 : decode cX1_dusk 12 = .ok (.ireturn, 1) := by decide +kernel
set_option maxRecDepth 20000 in
theorem ggX1_dawn_X1_tide : GoodIn wsX1_dawn wsX1_tide := goodIn_r _ [4] (by decide +kernel) (by decide +kernel)
set_option maxRecDepth 20000 in
theorem gX1_dawn_X1_tide : GoodIn wsX1_dawn (va_wsS RX1 64 yX1_tide wsX1_tide) := goodIn_app (goodIn_of _ (by decide +kernel)) ggX1_dawn_X1_tide
theorem dX1_dawn_0 : decode cX1_dawn 0 = .ok (.bipush 14, 2) := by decide +kernel
theorem dX1_dawn_2 : decode cX1_dawn 2 = .ok (.iload_n 0, 1) := by decide +kernel
theorem dX1_dawn_3 : decode cX1_dawn 3 = .ok (.invokestatic 64, 3) := by decide +kernel
theorem dX1_dawn_6 : decode cX1_dawn 6 = .ok (.isub, 1) := by decide +kernel
theorem dX1_dawn_7 : decode cX1_dawn 7 = .ok (.ireturn, 1) := by decide +kernel
set_option maxRecDepth 20000 in
theorem ggX1_isAt_X1_dusk : GoodIn wsX1_isAt wsX1_dusk := goodIn_r _ [7, 8, 9, 10, 6, 11, 15, 16, 17, 18, 19, 20, 21, 22, 23, 24, 25, 26, 27, 28, 29, 30, 31, 32] (by decide +kernel) (by decide +kernel)
set_option maxRecDepth 20000 in
theorem gX1_isAt_X1_dusk : GoodIn wsX1_isAt (wsV RX1 71 RX1 yX1_dusk wsX1_dusk) := goodIn_app (goodIn_of _ (by decide +kernel)) ggX1_isAt_X1_dusk
set_option maxRecDepth 20000 in
theorem ggX1_isAt_X1_dawn : GoodIn wsX1_isAt wsX1_dawn := goodIn_r _ [14, 9, 10, 6, 11] (by decide +kernel) (by decide +kernel)
set_option maxRecDepth 20000 in
theorem gX1_isAt_X1_dawn : GoodIn wsX1_isAt (va_wsS RX1 74 yX1_dawn wsX1_dawn) := goodIn_app (goodIn_of _ (by decide +kernel)) ggX1_isAt_X1_dawn
theorem dX1_isAt_0 : decode cX1_isAt 0 = .ok (.iload_n 2, 1) := by decide +kernel
theorem dX1_isAt_1 : decode cX1_isAt 1 = .ok (.bipush 48, 2) := by decide +kernel
theorem dX1_isAt_3 : decode cX1_isAt 3 = .ok (.idiv, 1) := by decide +kernel
theorem dX1_isAt_4 : decode cX1_isAt 4 = .ok (.istore_n 3, 1) := by decide +kernel
theorem dX1_isAt_5 : decode cX1_isAt 5 = .ok (.iload_n 2, 1) := by decide +kernel
theorem dX1_isAt_6 : decode cX1_isAt 6 = .ok (.bipush 48, 2) := by decide +kernel
theorem dX1_isAt_8 : decode cX1_isAt 8 = .ok (.irem, 1) := by decide +kernel
theorem dX1_isAt_9 : decode cX1_isAt 9 = .ok (.istore 4, 2) := by decide +kernel
theorem dX1_isAt_11 : decode cX1_isAt 11 = .ok (.iload 4, 2) := by decide +kernel
theorem dX1_isAt_13 : decode cX1_isAt 13 = .ok (.aload_n 0, 1) := by decide +kernel
theorem dX1_isAt_14 : decode cX1_isAt 14 = .ok (.iload_n 3, 1) := by decide +kernel
theorem dX1_isAt_15 : decode cX1_isAt 15 = .ok (.invokevirtual 71, 3) := by decide +kernel
theorem dX1_isAt_18 : decode cX1_isAt 18 = .ok (.aload_n 0, 1) := by decide +kernel
theorem dX1_isAt_19 : decode cX1_isAt 19 = .ok (.getfield 13, 3) := by decide +kernel
theorem dX1_isAt_22 : decode cX1_isAt 22 = .ok (.iload_n 1, 1) := by decide +kernel
theorem dX1_isAt_23 : decode cX1_isAt 23 = .ok (.iaload, 1) := by decide +kernel
theorem dX1_isAt_24 : decode cX1_isAt 24 = .ok (.isub, 1) := by decide +kernel
theorem dX1_isAt_25 : decode cX1_isAt 25 = .ok (.if_icmp .ge 19, 3) := by decide +kernel
theorem dX1_isAt_28 : decode cX1_isAt 28 = .ok (.iload 4, 2) := by decide +kernel
theorem dX1_isAt_30 : decode cX1_isAt 30 = .ok (.iload_n 3, 1) := by decide +kernel
theorem dX1_isAt_31 : decode cX1_isAt 31 = .ok (.invokestatic 74, 3) := by decide +kernel
theorem dX1_isAt_34 : decode cX1_isAt 34 = .ok (.aload_n 0, 1) := by decide +kernel
theorem dX1_isAt_35 : decode cX1_isAt 35 = .ok (.getfield 16, 3) := by decide +kernel
theorem dX1_isAt_38 : decode cX1_isAt 38 = .ok (.iload_n 1, 1) := by decide +kernel
theorem dX1_isAt_39 : decode cX1_isAt 39 = .ok (.iaload, 1) := by decide +kernel
theorem dX1_isAt_40 : decode cX1_isAt 40 = .ok (.iadd, 1) := by decide +kernel
theorem dX1_isAt_41 : decode cX1_isAt 41 = .ok (.if_icmp .ge 7, 3) := by decide +kernel
theorem dX1_isAt_44 : decode cX1_isAt 44 = .ok (.iconst 1, 1) := by decide +kernel
theorem dX1_isAt_45 : decode cX1_isAt 45 = .ok (.goto 4, 3) := by decide +kernel
theorem dX1_isAt_48 : decode cX1_isAt 48 = .ok (.iconst 0, 1) := by decide +kernel
theorem dX1_isAt_49 : decode cX1_isAt 49 = .ok (.ireturn, 1) := by decide +kernel
set_option maxRecDepth 20000 in
theorem ggX1_onAt_X1_isAt : GoodIn wsX1_onAt wsX1_isAt := goodIn_r _ [6, 7, 8, 9, 10, 11, 5, 12, 13, 14, 15, 16, 17, 18, 19, 20, 21, 22, 23, 24, 25, 26, 27, 28, 29, 30, 31, 32, 33, 34, 35, 36, 37] (by decide +kernel) (by decide +kernel)
set_option maxRecDepth 20000 in
theorem gX1_onAt_X1_isAt : GoodIn wsX1_onAt (wsV RX1 77 RX1 yX1_isAt wsX1_isAt) := goodIn_app (goodIn_of _ (by decide +kernel)) ggX1_onAt_X1_isAt
theorem dX1_onAt_0 : decode cX1_onAt 0 = .ok (.aload_n 0, 1) := by decide +kernel
theorem dX1_onAt_1 : decode cX1_onAt 1 = .ok (.getfield 25, 3) := by decide +kernel
theorem dX1_onAt_4 : decode cX1_onAt 4 = .ok (.iload_n 1, 1) := by decide +kernel
theorem dX1_onAt_5 : decode cX1_onAt 5 = .ok (.baload, 1) := by decide +kernel
theorem dX1_onAt_6 : decode cX1_onAt 6 = .ok (.ifCond .eq 16, 3) := by decide +kernel
theorem dX1_onAt_9 : decode cX1_onAt 9 = .ok (.aload_n 0, 1) := by decide +kernel
theorem dX1_onAt_10 : decode cX1_onAt 10 = .ok (.iload_n 1, 1) := by decide +kernel
theorem dX1_onAt_11 : decode cX1_onAt 11 = .ok (.iload_n 2, 1) := by decide +kernel
theorem dX1_onAt_12 : decode cX1_onAt 12 = .ok (.invokevirtual 77, 3) := by decide +kernel
theorem dX1_onAt_15 : decode cX1_onAt 15 = .ok (.ifCond .eq 7, 3) := by decide +kernel
theorem dX1_onAt_18 : decode cX1_onAt 18 = .ok (.iconst 1, 1) := by decide +kernel
theorem dX1_onAt_19 : decode cX1_onAt 19 = .ok (.goto 4, 3) := by decide +kernel
theorem dX1_onAt_22 : decode cX1_onAt 22 = .ok (.iconst 0, 1) := by decide +kernel
theorem dX1_onAt_23 : decode cX1_onAt 23 = .ok (.ireturn, 1) := by decide +kernel
set_option maxRecDepth 20000 in
theorem ggX1_barsAt_X1_onAt : GoodIn wsX1_barsAt wsX1_onAt := goodIn_r _ [8, 9, 10, 11, 12, 7, 13, 14, 15, 16, 17, 18, 19, 20, 21, 22, 23, 24, 25, 26, 27, 28, 29, 30, 31, 32, 33, 34, 35, 36, 37, 38, 39, 40, 41, 42, 43, 44] (by decide +kernel) (by decide +kernel)
set_option maxRecDepth 20000 in
theorem gX1_barsAt_X1_onAt : GoodIn wsX1_barsAt (wsV RX1 81 RX1 yX1_onAt wsX1_onAt) := goodIn_app (goodIn_of _ (by decide +kernel)) ggX1_barsAt_X1_onAt
theorem dX1_barsAt_0 : decode cX1_barsAt 0 = .ok (.aload_n 0, 1) := by decide +kernel
theorem dX1_barsAt_1 : decode cX1_barsAt 1 = .ok (.getfield 9, 3) := by decide +kernel
theorem dX1_barsAt_4 : decode cX1_barsAt 4 = .ok (.iload_n 1, 1) := by decide +kernel
theorem dX1_barsAt_5 : decode cX1_barsAt 5 = .ok (.iaload, 1) := by decide +kernel
theorem dX1_barsAt_6 : decode cX1_barsAt 6 = .ok (.iload_n 3, 1) := by decide +kernel
theorem dX1_barsAt_7 : decode cX1_barsAt 7 = .ok (.if_icmp .ne 35, 3) := by decide +kernel
theorem dX1_barsAt_10 : decode cX1_barsAt 10 = .ok (.aload_n 0, 1) := by decide +kernel
theorem dX1_barsAt_11 : decode cX1_barsAt 11 = .ok (.getfield 22, 3) := by decide +kernel
theorem dX1_barsAt_14 : decode cX1_barsAt 14 = .ok (.iload_n 1, 1) := by decide +kernel
theorem dX1_barsAt_15 : decode cX1_barsAt 15 = .ok (.iaload, 1) := by decide +kernel
theorem dX1_barsAt_16 : decode cX1_barsAt 16 = .ok (.aload_n 0, 1) := by decide +kernel
theorem dX1_barsAt_17 : decode cX1_barsAt 17 = .ok (.getfield 29, 3) := by decide +kernel
theorem dX1_barsAt_20 : decode cX1_barsAt 20 = .ok (.iload_n 2, 1) := by decide +kernel
theorem dX1_barsAt_21 : decode cX1_barsAt 21 = .ok (.iaload, 1) := by decide +kernel
theorem dX1_barsAt_22 : decode cX1_barsAt 22 = .ok (.ishr, 1) := by decide +kernel
theorem dX1_barsAt_23 : decode cX1_barsAt 23 = .ok (.iconst 1, 1) := by decide +kernel
theorem dX1_barsAt_24 : decode cX1_barsAt 24 = .ok (.iand, 1) := by decide +kernel
theorem dX1_barsAt_25 : decode cX1_barsAt 25 = .ok (.ifCond .ne 17, 3) := by decide +kernel
theorem dX1_barsAt_28 : decode cX1_barsAt 28 = .ok (.aload_n 0, 1) := by decide +kernel
theorem dX1_barsAt_29 : decode cX1_barsAt 29 = .ok (.iload_n 1, 1) := by decide +kernel
theorem dX1_barsAt_30 : decode cX1_barsAt 30 = .ok (.iload 4, 2) := by decide +kernel
theorem dX1_barsAt_32 : decode cX1_barsAt 32 = .ok (.invokevirtual 81, 3) := by decide +kernel
theorem dX1_barsAt_35 : decode cX1_barsAt 35 = .ok (.ifCond .eq 7, 3) := by decide +kernel
theorem dX1_barsAt_38 : decode cX1_barsAt 38 = .ok (.iconst 1, 1) := by decide +kernel
theorem dX1_barsAt_39 : decode cX1_barsAt 39 = .ok (.goto 4, 3) := by decide +kernel
theorem dX1_barsAt_42 : decode cX1_barsAt 42 = .ok (.iconst 0, 1) := by decide +kernel
theorem dX1_barsAt_43 : decode cX1_barsAt 43 = .ok (.ireturn, 1) := by decide +kernel
set_option maxRecDepth 20000 in
theorem ggX1_against_X1_barsAt : GoodIn wsX1_against wsX1_barsAt := goodIn_r _ [6, 7, 8, 9, 10, 11, 12, 5, 13, 14, 15, 16, 17, 18, 19, 20, 21, 22, 23, 24, 25, 26, 27, 28, 29, 30, 31, 32, 33, 34, 35, 36, 37, 38, 39, 40, 41, 42, 43, 44, 45, 46, 47, 48, 49] (by decide +kernel) (by decide +kernel)
set_option maxRecDepth 20000 in
theorem gX1_against_X1_barsAt : GoodIn wsX1_against (wsV RX1 84 RX1 yX1_barsAt wsX1_barsAt) := goodIn_app (goodIn_of _ (by decide +kernel)) ggX1_against_X1_barsAt
theorem dX1_against_0 : decode cX1_against 0 = .ok (.iconst 0, 1) := by decide +kernel
theorem dX1_against_1 : decode cX1_against 1 = .ok (.istore 4, 2) := by decide +kernel
theorem dX1_against_3 : decode cX1_against 3 = .ok (.iconst 0, 1) := by decide +kernel
theorem dX1_against_4 : decode cX1_against 4 = .ok (.istore 5, 2) := by decide +kernel
theorem dX1_against_6 : decode cX1_against 6 = .ok (.iload 5, 2) := by decide +kernel
theorem dX1_against_8 : decode cX1_against 8 = .ok (.aload_n 0, 1) := by decide +kernel
theorem dX1_against_9 : decode cX1_against 9 = .ok (.getfield 58, 3) := by decide +kernel
theorem dX1_against_12 : decode cX1_against 12 = .ok (.if_icmp .ge 31, 3) := by decide +kernel
theorem dX1_against_15 : decode cX1_against 15 = .ok (.iload 4, 2) := by decide +kernel
theorem dX1_against_17 : decode cX1_against 17 = .ok (.aload_n 0, 1) := by decide +kernel
theorem dX1_against_18 : decode cX1_against 18 = .ok (.iload 5, 2) := by decide +kernel
theorem dX1_against_20 : decode cX1_against 20 = .ok (.iload_n 1, 1) := by decide +kernel
theorem dX1_against_21 : decode cX1_against 21 = .ok (.iload_n 2, 1) := by decide +kernel
theorem dX1_against_22 : decode cX1_against 22 = .ok (.iload_n 3, 1) := by decide +kernel
theorem dX1_against_23 : decode cX1_against 23 = .ok (.invokevirtual 84, 3) := by decide +kernel
theorem dX1_against_26 : decode cX1_against 26 = .ok (.ifCond .eq 7, 3) := by decide +kernel
theorem dX1_against_29 : decode cX1_against 29 = .ok (.iconst 1, 1) := by decide +kernel
theorem dX1_against_30 : decode cX1_against 30 = .ok (.goto 4, 3) := by decide +kernel
theorem dX1_against_33 : decode cX1_against 33 = .ok (.iconst 0, 1) := by decide +kernel
theorem dX1_against_34 : decode cX1_against 34 = .ok (.iadd, 1) := by decide +kernel
theorem dX1_against_35 : decode cX1_against 35 = .ok (.istore 4, 2) := by decide +kernel
theorem dX1_against_37 : decode cX1_against 37 = .ok (.iinc 5 1, 3) := by decide +kernel
theorem dX1_against_40 : decode cX1_against 40 = .ok (.goto (-34), 3) := by decide +kernel
theorem dX1_against_43 : decode cX1_against 43 = .ok (.iload 4, 2) := by decide +kernel
theorem dX1_against_45 : decode cX1_against 45 = .ok (.ireturn, 1) := by decide +kernel
set_option maxRecDepth 20000 in
theorem ggX1_addQuarter_X1_fail : GoodIn wsX1_addQuarter wsX1_fail := goodIn_r _ [7, 1, 8, 9, 10, 11, 12, 13, 14, 15, 16, 17, 18, 19, 20, 21, 22, 23, 24, 25] (by decide +kernel) (by decide +kernel)
set_option maxRecDepth 20000 in
theorem gX1_addQuarter_X1_fail : GoodIn wsX1_addQuarter (wsV RX1 88 RX1 yX1_fail wsX1_fail) := goodIn_app (goodIn_of _ (by decide +kernel)) ggX1_addQuarter_X1_fail
theorem dX1_addQuarter_0 : decode cX1_addQuarter 0 = .ok (.aload_n 0, 1) := by decide +kernel
theorem dX1_addQuarter_1 : decode cX1_addQuarter 1 = .ok (.iconst 0, 1) := by decide +kernel
theorem dX1_addQuarter_2 : decode cX1_addQuarter 2 = .ok (.putfield 47, 3) := by decide +kernel
theorem dX1_addQuarter_5 : decode cX1_addQuarter 5 = .ok (.aload_n 0, 1) := by decide +kernel
theorem dX1_addQuarter_6 : decode cX1_addQuarter 6 = .ok (.getfield 51, 3) := by decide +kernel
theorem dX1_addQuarter_9 : decode cX1_addQuarter 9 = .ok (.bipush 6, 2) := by decide +kernel
theorem dX1_addQuarter_11 : decode cX1_addQuarter 11 = .ok (.if_icmp .ne 9, 3) := by decide +kernel
theorem dX1_addQuarter_14 : decode cX1_addQuarter 14 = .ok (.aload_n 0, 1) := by decide +kernel
theorem dX1_addQuarter_15 : decode cX1_addQuarter 15 = .ok (.iconst 1, 1) := by decide +kernel
theorem dX1_addQuarter_16 : decode cX1_addQuarter 16 = .ok (.invokevirtual 88, 3) := by decide +kernel
theorem dX1_addQuarter_19 : decode cX1_addQuarter 19 = .ok (.ireturn, 1) := by decide +kernel
theorem dX1_addQuarter_20 : decode cX1_addQuarter 20 = .ok (.aload_n 0, 1) := by decide +kernel
theorem dX1_addQuarter_21 : decode cX1_addQuarter 21 = .ok (.dup, 1) := by decide +kernel
theorem dX1_addQuarter_22 : decode cX1_addQuarter 22 = .ok (.getfield 51, 3) := by decide +kernel
theorem dX1_addQuarter_25 : decode cX1_addQuarter 25 = .ok (.iconst 1, 1) := by decide +kernel
theorem dX1_addQuarter_26 : decode cX1_addQuarter 26 = .ok (.iadd, 1) := by decide +kernel
theorem dX1_addQuarter_27 : decode cX1_addQuarter 27 = .ok (.putfield 51, 3) := by decide +kernel
theorem dX1_addQuarter_30 : decode cX1_addQuarter 30 = .ok (.aload_n 0, 1) := by decide +kernel
theorem dX1_addQuarter_31 : decode cX1_addQuarter 31 = .ok (.getfield 51, 3) := by decide +kernel
theorem dX1_addQuarter_34 : decode cX1_addQuarter 34 = .ok (.iconst 1, 1) := by decide +kernel
theorem dX1_addQuarter_35 : decode cX1_addQuarter 35 = .ok (.isub, 1) := by decide +kernel
theorem dX1_addQuarter_36 : decode cX1_addQuarter 36 = .ok (.ireturn, 1) := by decide +kernel
set_option maxRecDepth 20000 in
theorem ggX1_addPerson_X1_isTrade : GoodIn wsX1_addPerson wsX1_isTrade := goodIn_r _ [7, 8, 9, 6, 10] (by decide +kernel) (by decide +kernel)
set_option maxRecDepth 20000 in
theorem gX1_addPerson_X1_isTrade : GoodIn wsX1_addPerson (va_wsS RX1 91 yX1_isTrade wsX1_isTrade) := goodIn_app (goodIn_of _ (by decide +kernel)) ggX1_addPerson_X1_isTrade
set_option maxRecDepth 20000 in
theorem ggX1_addPerson_X1_fail : GoodIn wsX1_addPerson wsX1_fail := goodIn_r _ [14, 1, 15, 16, 17, 18, 19, 20, 21, 22, 23, 24, 25, 26, 27, 28, 29, 30, 31, 32] (by decide +kernel) (by decide +kernel)
set_option maxRecDepth 20000 in
theorem gX1_addPerson_X1_fail : GoodIn wsX1_addPerson (wsV RX1 88 RX1 yX1_fail wsX1_fail) := goodIn_app (goodIn_of _ (by decide +kernel)) ggX1_addPerson_X1_fail
theorem dX1_addPerson_0 : decode cX1_addPerson 0 = .ok (.aload_n 0, 1) := by decide +kernel
theorem dX1_addPerson_1 : decode cX1_addPerson 1 = .ok (.iconst 0, 1) := by decide +kernel
theorem dX1_addPerson_2 : decode cX1_addPerson 2 = .ok (.putfield 47, 3) := by decide +kernel
theorem dX1_addPerson_5 : decode cX1_addPerson 5 = .ok (.iload_n 1, 1) := by decide +kernel
theorem dX1_addPerson_6 : decode cX1_addPerson 6 = .ok (.invokestatic 91, 3) := by decide +kernel
theorem dX1_addPerson_9 : decode cX1_addPerson 9 = .ok (.ifCond .ne 9, 3) := by decide +kernel
theorem dX1_addPerson_12 : decode cX1_addPerson 12 = .ok (.aload_n 0, 1) := by decide +kernel
theorem dX1_addPerson_13 : decode cX1_addPerson 13 = .ok (.iconst 1, 1) := by decide +kernel
theorem dX1_addPerson_14 : decode cX1_addPerson 14 = .ok (.invokevirtual 88, 3) := by decide +kernel
theorem dX1_addPerson_17 : decode cX1_addPerson 17 = .ok (.ireturn, 1) := by decide +kernel
theorem dX1_addPerson_18 : decode cX1_addPerson 18 = .ok (.aload_n 0, 1) := by decide +kernel
theorem dX1_addPerson_19 : decode cX1_addPerson 19 = .ok (.getfield 61, 3) := by decide +kernel
theorem dX1_addPerson_22 : decode cX1_addPerson 22 = .ok (.bipush 20, 2) := by decide +kernel
theorem dX1_addPerson_24 : decode cX1_addPerson 24 = .ok (.if_icmp .ne 9, 3) := by decide +kernel
theorem dX1_addPerson_27 : decode cX1_addPerson 27 = .ok (.aload_n 0, 1) := by decide +kernel
theorem dX1_addPerson_28 : decode cX1_addPerson 28 = .ok (.iconst 2, 1) := by decide +kernel
theorem dX1_addPerson_29 : decode cX1_addPerson 29 = .ok (.invokevirtual 88, 3) := by decide +kernel
theorem dX1_addPerson_32 : decode cX1_addPerson 32 = .ok (.ireturn, 1) := by decide +kernel
theorem dX1_addPerson_33 : decode cX1_addPerson 33 = .ok (.aload_n 0, 1) := by decide +kernel
theorem dX1_addPerson_34 : decode cX1_addPerson 34 = .ok (.getfield 29, 3) := by decide +kernel
theorem dX1_addPerson_37 : decode cX1_addPerson 37 = .ok (.aload_n 0, 1) := by decide +kernel
theorem dX1_addPerson_38 : decode cX1_addPerson 38 = .ok (.getfield 61, 3) := by decide +kernel
theorem dX1_addPerson_41 : decode cX1_addPerson 41 = .ok (.iload_n 1, 1) := by decide +kernel
theorem dX1_addPerson_42 : decode cX1_addPerson 42 = .ok (.iastore, 1) := by decide +kernel
theorem dX1_addPerson_43 : decode cX1_addPerson 43 = .ok (.aload_n 0, 1) := by decide +kernel
theorem dX1_addPerson_44 : decode cX1_addPerson 44 = .ok (.dup, 1) := by decide +kernel
theorem dX1_addPerson_45 : decode cX1_addPerson 45 = .ok (.getfield 61, 3) := by decide +kernel
theorem dX1_addPerson_48 : decode cX1_addPerson 48 = .ok (.iconst 1, 1) := by decide +kernel
theorem dX1_addPerson_49 : decode cX1_addPerson 49 = .ok (.iadd, 1) := by decide +kernel
theorem dX1_addPerson_50 : decode cX1_addPerson 50 = .ok (.putfield 61, 3) := by decide +kernel
theorem dX1_addPerson_53 : decode cX1_addPerson 53 = .ok (.aload_n 0, 1) := by decide +kernel
theorem dX1_addPerson_54 : decode cX1_addPerson 54 = .ok (.getfield 61, 3) := by decide +kernel
theorem dX1_addPerson_57 : decode cX1_addPerson 57 = .ok (.iconst 1, 1) := by decide +kernel
theorem dX1_addPerson_58 : decode cX1_addPerson 58 = .ok (.isub, 1) := by decide +kernel
theorem dX1_addPerson_59 : decode cX1_addPerson 59 = .ok (.ireturn, 1) := by decide +kernel
set_option maxRecDepth 20000 in
theorem ggX1_addOrder_X1_isQuarter : GoodIn wsX1_addOrder wsX1_isQuarter := goodIn_r _ [12, 13, 14, 15, 11, 16, 24, 25, 26, 27, 28, 29, 30, 31, 32, 33, 34, 35, 36, 37, 38, 39, 40, 41] (by decide +kernel) (by decide +kernel)
set_option maxRecDepth 20000 in
theorem gX1_addOrder_X1_isQuarter : GoodIn wsX1_addOrder (wsV RX1 95 RX1 yX1_isQuarter wsX1_isQuarter) := goodIn_app (goodIn_of _ (by decide +kernel)) ggX1_addOrder_X1_isQuarter
set_option maxRecDepth 20000 in
theorem ggX1_addOrder_X1_isColour : GoodIn wsX1_addOrder wsX1_isColour := goodIn_r _ [19, 14, 15, 11, 16] (by decide +kernel) (by decide +kernel)
set_option maxRecDepth 20000 in
theorem gX1_addOrder_X1_isColour : GoodIn wsX1_addOrder (va_wsS RX1 98 yX1_isColour wsX1_isColour) := goodIn_app (goodIn_of _ (by decide +kernel)) ggX1_addOrder_X1_isColour
set_option maxRecDepth 20000 in
theorem ggX1_addOrder_X1_fail : GoodIn wsX1_addOrder wsX1_fail := goodIn_r _ [23, 1, 24, 25, 26, 27, 28, 29, 30, 31, 32, 33, 34, 35, 36, 37, 38, 39, 40, 41] (by decide +kernel) (by decide +kernel)
set_option maxRecDepth 20000 in
theorem gX1_addOrder_X1_fail : GoodIn wsX1_addOrder (wsV RX1 88 RX1 yX1_fail wsX1_fail) := goodIn_app (goodIn_of _ (by decide +kernel)) ggX1_addOrder_X1_fail
set_option maxRecDepth 20000 in
theorem ggX1_addOrder_X1_isIn : GoodIn wsX1_addOrder wsX1_isIn := goodIn_r _ [16] (by decide +kernel) (by decide +kernel)
set_option maxRecDepth 20000 in
theorem gX1_addOrder_X1_isIn : GoodIn wsX1_addOrder (va_wsS RX1 54 yX1_isIn wsX1_isIn) := goodIn_app (goodIn_of _ (by decide +kernel)) ggX1_addOrder_X1_isIn
theorem dX1_addOrder_0 : decode cX1_addOrder 0 = .ok (.aload_n 0, 1) := by decide +kernel
theorem dX1_addOrder_1 : decode cX1_addOrder 1 = .ok (.iconst 0, 1) := by decide +kernel
theorem dX1_addOrder_2 : decode cX1_addOrder 2 = .ok (.putfield 47, 3) := by decide +kernel
theorem dX1_addOrder_5 : decode cX1_addOrder 5 = .ok (.aload_n 0, 1) := by decide +kernel
theorem dX1_addOrder_6 : decode cX1_addOrder 6 = .ok (.iload_n 1, 1) := by decide +kernel
theorem dX1_addOrder_7 : decode cX1_addOrder 7 = .ok (.invokevirtual 95, 3) := by decide +kernel
theorem dX1_addOrder_10 : decode cX1_addOrder 10 = .ok (.ifCond .eq 11, 3) := by decide +kernel
theorem dX1_addOrder_13 : decode cX1_addOrder 13 = .ok (.iload 4, 2) := by decide +kernel
theorem dX1_addOrder_15 : decode cX1_addOrder 15 = .ok (.invokestatic 98, 3) := by decide +kernel
theorem dX1_addOrder_18 : decode cX1_addOrder 18 = .ok (.ifCond .ne 9, 3) := by decide +kernel
theorem dX1_addOrder_21 : decode cX1_addOrder 21 = .ok (.aload_n 0, 1) := by decide +kernel
theorem dX1_addOrder_22 : decode cX1_addOrder 22 = .ok (.iconst 1, 1) := by decide +kernel
theorem dX1_addOrder_23 : decode cX1_addOrder 23 = .ok (.invokevirtual 88, 3) := by decide +kernel
theorem dX1_addOrder_26 : decode cX1_addOrder 26 = .ok (.ireturn, 1) := by decide +kernel
theorem dX1_addOrder_27 : decode cX1_addOrder 27 = .ok (.iload_n 2, 1) := by decide +kernel
theorem dX1_addOrder_28 : decode cX1_addOrder 28 = .ok (.iconst 0, 1) := by decide +kernel
theorem dX1_addOrder_29 : decode cX1_addOrder 29 = .ok (.iconst 4, 1) := by decide +kernel
theorem dX1_addOrder_30 : decode cX1_addOrder 30 = .ok (.invokestatic 54, 3) := by decide +kernel
theorem dX1_addOrder_33 : decode cX1_addOrder 33 = .ok (.ifCond .eq 12, 3) := by decide +kernel
theorem dX1_addOrder_36 : decode cX1_addOrder 36 = .ok (.iload_n 3, 1) := by decide +kernel
theorem dX1_addOrder_37 : decode cX1_addOrder 37 = .ok (.iconst 0, 1) := by decide +kernel
theorem dX1_addOrder_38 : decode cX1_addOrder 38 = .ok (.iconst 4, 1) := by decide +kernel
theorem dX1_addOrder_39 : decode cX1_addOrder 39 = .ok (.invokestatic 54, 3) := by decide +kernel
theorem dX1_addOrder_42 : decode cX1_addOrder 42 = .ok (.ifCond .ne 9, 3) := by decide +kernel
theorem dX1_addOrder_45 : decode cX1_addOrder 45 = .ok (.aload_n 0, 1) := by decide +kernel
theorem dX1_addOrder_46 : decode cX1_addOrder 46 = .ok (.iconst 2, 1) := by decide +kernel
theorem dX1_addOrder_47 : decode cX1_addOrder 47 = .ok (.invokevirtual 88, 3) := by decide +kernel
theorem dX1_addOrder_50 : decode cX1_addOrder 50 = .ok (.ireturn, 1) := by decide +kernel
theorem dX1_addOrder_51 : decode cX1_addOrder 51 = .ok (.aload_n 0, 1) := by decide +kernel
theorem dX1_addOrder_52 : decode cX1_addOrder 52 = .ok (.getfield 58, 3) := by decide +kernel
theorem dX1_addOrder_55 : decode cX1_addOrder 55 = .ok (.bipush 10, 2) := by decide +kernel
theorem dX1_addOrder_57 : decode cX1_addOrder 57 = .ok (.if_icmp .ne 9, 3) := by decide +kernel
theorem dX1_addOrder_60 : decode cX1_addOrder 60 = .ok (.aload_n 0, 1) := by decide +kernel
theorem dX1_addOrder_61 : decode cX1_addOrder 61 = .ok (.iconst 3, 1) := by decide +kernel
theorem dX1_addOrder_62 : decode cX1_addOrder 62 = .ok (.invokevirtual 88, 3) := by decide +kernel
theorem dX1_addOrder_65 : decode cX1_addOrder 65 = .ok (.ireturn, 1) := by decide +kernel
theorem dX1_addOrder_66 : decode cX1_addOrder 66 = .ok (.aload_n 0, 1) := by decide +kernel
theorem dX1_addOrder_67 : decode cX1_addOrder 67 = .ok (.getfield 9, 3) := by decide +kernel
theorem dX1_addOrder_70 : decode cX1_addOrder 70 = .ok (.aload_n 0, 1) := by decide +kernel
theorem dX1_addOrder_71 : decode cX1_addOrder 71 = .ok (.getfield 58, 3) := by decide +kernel
theorem dX1_addOrder_74 : decode cX1_addOrder 74 = .ok (.iload_n 1, 1) := by decide +kernel
theorem dX1_addOrder_75 : decode cX1_addOrder 75 = .ok (.iastore, 1) := by decide +kernel
theorem dX1_addOrder_76 : decode cX1_addOrder 76 = .ok (.aload_n 0, 1) := by decide +kernel
theorem dX1_addOrder_77 : decode cX1_addOrder 77 = .ok (.getfield 13, 3) := by decide +kernel
theorem dX1_addOrder_80 : decode cX1_addOrder 80 = .ok (.aload_n 0, 1) := by decide +kernel
theorem dX1_addOrder_81 : decode cX1_addOrder 81 = .ok (.getfield 58, 3) := by decide +kernel
theorem dX1_addOrder_84 : decode cX1_addOrder 84 = .ok (.iload_n 2, 1) := by decide +kernel
theorem dX1_addOrder_85 : decode cX1_addOrder 85 = .ok (.iastore, 1) := by decide +kernel
theorem dX1_addOrder_86 : decode cX1_addOrder 86 = .ok (.aload_n 0, 1) := by decide +kernel
theorem dX1_addOrder_87 : decode cX1_addOrder 87 = .ok (.getfield 16, 3) := by decide +kernel
theorem dX1_addOrder_90 : decode cX1_addOrder 90 = .ok (.aload_n 0, 1) := by decide +kernel
theorem dX1_addOrder_91 : decode cX1_addOrder 91 = .ok (.getfield 58, 3) := by decide +kernel
theorem dX1_addOrder_94 : decode cX1_addOrder 94 = .ok (.iload_n 3, 1) := by decide +kernel
theorem dX1_addOrder_95 : decode cX1_addOrder 95 = .ok (.iastore, 1) := by decide +kernel
theorem dX1_addOrder_96 : decode cX1_addOrder 96 = .ok (.aload_n 0, 1) := by decide +kernel
theorem dX1_addOrder_97 : decode cX1_addOrder 97 = .ok (.getfield 19, 3) := by decide +kernel
theorem dX1_addOrder_100 : decode cX1_addOrder 100 = .ok (.aload_n 0, 1) := by decide +kernel
theorem dX1_addOrder_101 : decode cX1_addOrder 101 = .ok (.getfield 58, 3) := by decide +kernel
theorem dX1_addOrder_104 : decode cX1_addOrder 104 = .ok (.iload 4, 2) := by decide +kernel
theorem dX1_addOrder_106 : decode cX1_addOrder 106 = .ok (.iastore, 1) := by decide +kernel
theorem dX1_addOrder_107 : decode cX1_addOrder 107 = .ok (.aload_n 0, 1) := by decide +kernel
theorem dX1_addOrder_108 : decode cX1_addOrder 108 = .ok (.getfield 25, 3) := by decide +kernel
theorem dX1_addOrder_111 : decode cX1_addOrder 111 = .ok (.aload_n 0, 1) := by decide +kernel
theorem dX1_addOrder_112 : decode cX1_addOrder 112 = .ok (.getfield 58, 3) := by decide +kernel
theorem dX1_addOrder_115 : decode cX1_addOrder 115 = .ok (.iconst 1, 1) := by decide +kernel
theorem dX1_addOrder_116 : decode cX1_addOrder 116 = .ok (.bastore, 1) := by decide +kernel
theorem dX1_addOrder_117 : decode cX1_addOrder 117 = .ok (.aload_n 0, 1) := by decide +kernel
theorem dX1_addOrder_118 : decode cX1_addOrder 118 = .ok (.dup, 1) := by decide +kernel
theorem dX1_addOrder_119 : decode cX1_addOrder 119 = .ok (.getfield 58, 3) := by decide +kernel
theorem dX1_addOrder_122 : decode cX1_addOrder 122 = .ok (.iconst 1, 1) := by decide +kernel
theorem dX1_addOrder_123 : decode cX1_addOrder 123 = .ok (.iadd, 1) := by decide +kernel
theorem dX1_addOrder_124 : decode cX1_addOrder 124 = .ok (.putfield 58, 3) := by decide +kernel
theorem dX1_addOrder_127 : decode cX1_addOrder 127 = .ok (.aload_n 0, 1) := by decide +kernel
theorem dX1_addOrder_128 : decode cX1_addOrder 128 = .ok (.getfield 58, 3) := by decide +kernel
theorem dX1_addOrder_131 : decode cX1_addOrder 131 = .ok (.iconst 1, 1) := by decide +kernel
theorem dX1_addOrder_132 : decode cX1_addOrder 132 = .ok (.isub, 1) := by decide +kernel
theorem dX1_addOrder_133 : decode cX1_addOrder 133 = .ok (.ireturn, 1) := by decide +kernel
set_option maxRecDepth 20000 in
theorem ggX1_turnExempt_X1_isOrder : GoodIn wsX1_turnExempt wsX1_isOrder := goodIn_r _ [7, 8, 9, 10, 6, 11, 19, 20, 21, 22, 23, 24, 25, 26, 27, 28, 29, 30, 31, 32, 33, 34, 35, 36] (by decide +kernel) (by decide +kernel)
set_option maxRecDepth 20000 in
theorem gX1_turnExempt_X1_isOrder : GoodIn wsX1_turnExempt (wsV RX1 101 RX1 yX1_isOrder wsX1_isOrder) := goodIn_app (goodIn_of _ (by decide +kernel)) ggX1_turnExempt_X1_isOrder
set_option maxRecDepth 20000 in
theorem ggX1_turnExempt_X1_isTrade : GoodIn wsX1_turnExempt wsX1_isTrade := goodIn_r _ [14, 9, 10, 6, 11] (by decide +kernel) (by decide +kernel)
set_option maxRecDepth 20000 in
theorem gX1_turnExempt_X1_isTrade : GoodIn wsX1_turnExempt (va_wsS RX1 91 yX1_isTrade wsX1_isTrade) := goodIn_app (goodIn_of _ (by decide +kernel)) ggX1_turnExempt_X1_isTrade
set_option maxRecDepth 20000 in
theorem ggX1_turnExempt_X1_failed : GoodIn wsX1_turnExempt wsX1_failed := goodIn_r _ [18, 1, 19, 20, 21, 22, 23, 24, 25, 26, 27, 28, 29, 30, 31, 32, 33, 34, 35, 36] (by decide +kernel) (by decide +kernel)
set_option maxRecDepth 20000 in
theorem gX1_turnExempt_X1_failed : GoodIn wsX1_turnExempt (wsV RX1 104 RX1 yX1_failed wsX1_failed) := goodIn_app (goodIn_of _ (by decide +kernel)) ggX1_turnExempt_X1_failed
theorem dX1_turnExempt_0 : decode cX1_turnExempt 0 = .ok (.aload_n 0, 1) := by decide +kernel
theorem dX1_turnExempt_1 : decode cX1_turnExempt 1 = .ok (.iconst 0, 1) := by decide +kernel
theorem dX1_turnExempt_2 : decode cX1_turnExempt 2 = .ok (.putfield 47, 3) := by decide +kernel
theorem dX1_turnExempt_5 : decode cX1_turnExempt 5 = .ok (.aload_n 0, 1) := by decide +kernel
theorem dX1_turnExempt_6 : decode cX1_turnExempt 6 = .ok (.iload_n 1, 1) := by decide +kernel
theorem dX1_turnExempt_7 : decode cX1_turnExempt 7 = .ok (.invokevirtual 101, 3) := by decide +kernel
theorem dX1_turnExempt_10 : decode cX1_turnExempt 10 = .ok (.ifCond .eq 10, 3) := by decide +kernel
theorem dX1_turnExempt_13 : decode cX1_turnExempt 13 = .ok (.iload_n 2, 1) := by decide +kernel
theorem dX1_turnExempt_14 : decode cX1_turnExempt 14 = .ok (.invokestatic 91, 3) := by decide +kernel
theorem dX1_turnExempt_17 : decode cX1_turnExempt 17 = .ok (.ifCond .ne 9, 3) := by decide +kernel
theorem dX1_turnExempt_20 : decode cX1_turnExempt 20 = .ok (.aload_n 0, 1) := by decide +kernel
theorem dX1_turnExempt_21 : decode cX1_turnExempt 21 = .ok (.iconst 1, 1) := by decide +kernel
theorem dX1_turnExempt_22 : decode cX1_turnExempt 22 = .ok (.invokevirtual 104, 3) := by decide +kernel
theorem dX1_turnExempt_25 : decode cX1_turnExempt 25 = .ok (.ireturn, 1) := by decide +kernel
theorem dX1_turnExempt_26 : decode cX1_turnExempt 26 = .ok (.aload_n 0, 1) := by decide +kernel
theorem dX1_turnExempt_27 : decode cX1_turnExempt 27 = .ok (.getfield 22, 3) := by decide +kernel
theorem dX1_turnExempt_30 : decode cX1_turnExempt 30 = .ok (.iload_n 1, 1) := by decide +kernel
theorem dX1_turnExempt_31 : decode cX1_turnExempt 31 = .ok (.dup2, 1) := by decide +kernel
theorem dX1_turnExempt_32 : decode cX1_turnExempt 32 = .ok (.iaload, 1) := by decide +kernel
theorem dX1_turnExempt_33 : decode cX1_turnExempt 33 = .ok (.iconst 1, 1) := by decide +kernel
theorem dX1_turnExempt_34 : decode cX1_turnExempt 34 = .ok (.iload_n 2, 1) := by decide +kernel
theorem dX1_turnExempt_35 : decode cX1_turnExempt 35 = .ok (.ishl, 1) := by decide +kernel
theorem dX1_turnExempt_36 : decode cX1_turnExempt 36 = .ok (.ixor, 1) := by decide +kernel
theorem dX1_turnExempt_37 : decode cX1_turnExempt 37 = .ok (.iastore, 1) := by decide +kernel
theorem dX1_turnExempt_38 : decode cX1_turnExempt 38 = .ok (.aload_n 0, 1) := by decide +kernel
theorem dX1_turnExempt_39 : decode cX1_turnExempt 39 = .ok (.getfield 22, 3) := by decide +kernel
theorem dX1_turnExempt_42 : decode cX1_turnExempt 42 = .ok (.iload_n 1, 1) := by decide +kernel
theorem dX1_turnExempt_43 : decode cX1_turnExempt 43 = .ok (.iaload, 1) := by decide +kernel
theorem dX1_turnExempt_44 : decode cX1_turnExempt 44 = .ok (.iload_n 2, 1) := by decide +kernel
theorem dX1_turnExempt_45 : decode cX1_turnExempt 45 = .ok (.ishr, 1) := by decide +kernel
theorem dX1_turnExempt_46 : decode cX1_turnExempt 46 = .ok (.iconst 1, 1) := by decide +kernel
theorem dX1_turnExempt_47 : decode cX1_turnExempt 47 = .ok (.iand, 1) := by decide +kernel
theorem dX1_turnExempt_48 : decode cX1_turnExempt 48 = .ok (.iconst 1, 1) := by decide +kernel
theorem dX1_turnExempt_49 : decode cX1_turnExempt 49 = .ok (.if_icmp .ne 7, 3) := by decide +kernel
theorem dX1_turnExempt_52 : decode cX1_turnExempt 52 = .ok (.iconst 1, 1) := by decide +kernel
theorem dX1_turnExempt_53 : decode cX1_turnExempt 53 = .ok (.goto 4, 3) := by decide +kernel
theorem dX1_turnExempt_56 : decode cX1_turnExempt 56 = .ok (.iconst 0, 1) := by decide +kernel
theorem dX1_turnExempt_57 : decode cX1_turnExempt 57 = .ok (.ireturn, 1) := by decide +kernel
set_option maxRecDepth 20000 in
theorem ggX1_turnOrder_X1_isOrder : GoodIn wsX1_turnOrder wsX1_isOrder := goodIn_r _ [7, 8, 9, 10, 6, 11, 16, 17, 18, 19, 20, 21, 22, 23, 24, 25, 26, 27, 28, 29, 30, 31, 32, 33] (by decide +kernel) (by decide +kernel)
set_option maxRecDepth 20000 in
theorem gX1_turnOrder_X1_isOrder : GoodIn wsX1_turnOrder (wsV RX1 101 RX1 yX1_isOrder wsX1_isOrder) := goodIn_app (goodIn_of _ (by decide +kernel)) ggX1_turnOrder_X1_isOrder
set_option maxRecDepth 20000 in
theorem ggX1_turnOrder_X1_failed : GoodIn wsX1_turnOrder wsX1_failed := goodIn_r _ [15, 1, 16, 17, 18, 19, 20, 21, 22, 23, 24, 25, 26, 27, 28, 29, 30, 31, 32, 33] (by decide +kernel) (by decide +kernel)
set_option maxRecDepth 20000 in
theorem gX1_turnOrder_X1_failed : GoodIn wsX1_turnOrder (wsV RX1 104 RX1 yX1_failed wsX1_failed) := goodIn_app (goodIn_of _ (by decide +kernel)) ggX1_turnOrder_X1_failed
theorem dX1_turnOrder_0 : decode cX1_turnOrder 0 = .ok (.aload_n 0, 1) := by decide +kernel
theorem dX1_turnOrder_1 : decode cX1_turnOrder 1 = .ok (.iconst 0, 1) := by decide +kernel
theorem dX1_turnOrder_2 : decode cX1_turnOrder 2 = .ok (.putfield 47, 3) := by decide +kernel
theorem dX1_turnOrder_5 : decode cX1_turnOrder 5 = .ok (.aload_n 0, 1) := by decide +kernel
theorem dX1_turnOrder_6 : decode cX1_turnOrder 6 = .ok (.iload_n 1, 1) := by decide +kernel
theorem dX1_turnOrder_7 : decode cX1_turnOrder 7 = .ok (.invokevirtual 101, 3) := by decide +kernel
theorem dX1_turnOrder_10 : decode cX1_turnOrder 10 = .ok (.ifCond .ne 9, 3) := by decide +kernel
theorem dX1_turnOrder_13 : decode cX1_turnOrder 13 = .ok (.aload_n 0, 1) := by decide +kernel
theorem dX1_turnOrder_14 : decode cX1_turnOrder 14 = .ok (.iconst 1, 1) := by decide +kernel
theorem dX1_turnOrder_15 : decode cX1_turnOrder 15 = .ok (.invokevirtual 104, 3) := by decide +kernel
theorem dX1_turnOrder_18 : decode cX1_turnOrder 18 = .ok (.ireturn, 1) := by decide +kernel
theorem dX1_turnOrder_19 : decode cX1_turnOrder 19 = .ok (.aload_n 0, 1) := by decide +kernel
theorem dX1_turnOrder_20 : decode cX1_turnOrder 20 = .ok (.getfield 25, 3) := by decide +kernel
theorem dX1_turnOrder_23 : decode cX1_turnOrder 23 = .ok (.iload_n 1, 1) := by decide +kernel
theorem dX1_turnOrder_24 : decode cX1_turnOrder 24 = .ok (.aload_n 0, 1) := by decide +kernel
theorem dX1_turnOrder_25 : decode cX1_turnOrder 25 = .ok (.getfield 25, 3) := by decide +kernel
theorem dX1_turnOrder_28 : decode cX1_turnOrder 28 = .ok (.iload_n 1, 1) := by decide +kernel
theorem dX1_turnOrder_29 : decode cX1_turnOrder 29 = .ok (.baload, 1) := by decide +kernel
theorem dX1_turnOrder_30 : decode cX1_turnOrder 30 = .ok (.ifCond .ne 7, 3) := by decide +kernel
theorem dX1_turnOrder_33 : decode cX1_turnOrder 33 = .ok (.iconst 1, 1) := by decide +kernel
theorem dX1_turnOrder_34 : decode cX1_turnOrder 34 = .ok (.goto 4, 3) := by decide +kernel
theorem dX1_turnOrder_37 : decode cX1_turnOrder 37 = .ok (.iconst 0, 1) := by decide +kernel
theorem dX1_turnOrder_38 : decode cX1_turnOrder 38 = .ok (.bastore, 1) := by decide +kernel
theorem dX1_turnOrder_39 : decode cX1_turnOrder 39 = .ok (.aload_n 0, 1) := by decide +kernel
theorem dX1_turnOrder_40 : decode cX1_turnOrder 40 = .ok (.getfield 25, 3) := by decide +kernel
theorem dX1_turnOrder_43 : decode cX1_turnOrder 43 = .ok (.iload_n 1, 1) := by decide +kernel
theorem dX1_turnOrder_44 : decode cX1_turnOrder 44 = .ok (.baload, 1) := by decide +kernel
theorem dX1_turnOrder_45 : decode cX1_turnOrder 45 = .ok (.ireturn, 1) := by decide +kernel
set_option maxRecDepth 20000 in
theorem ggX1_setShift_X1_isIn : GoodIn wsX1_setShift wsX1_isIn := goodIn_r _ [6] (by decide +kernel) (by decide +kernel)
set_option maxRecDepth 20000 in
theorem gX1_setShift_X1_isIn : GoodIn wsX1_setShift (va_wsS RX1 54 yX1_isIn wsX1_isIn) := goodIn_app (goodIn_of _ (by decide +kernel)) ggX1_setShift_X1_isIn
set_option maxRecDepth 20000 in
theorem ggX1_setShift_X1_fail : GoodIn wsX1_setShift wsX1_fail := goodIn_r _ [10, 1, 11, 12, 13, 14, 15, 16, 17, 18, 19, 20, 21, 22, 23, 24, 25, 26, 27, 28] (by decide +kernel) (by decide +kernel)
set_option maxRecDepth 20000 in
theorem gX1_setShift_X1_fail : GoodIn wsX1_setShift (wsV RX1 88 RX1 yX1_fail wsX1_fail) := goodIn_app (goodIn_of _ (by decide +kernel)) ggX1_setShift_X1_fail
theorem dX1_setShift_0 : decode cX1_setShift 0 = .ok (.aload_n 0, 1) := by decide +kernel
theorem dX1_setShift_1 : decode cX1_setShift 1 = .ok (.iconst 0, 1) := by decide +kernel
theorem dX1_setShift_2 : decode cX1_setShift 2 = .ok (.putfield 47, 3) := by decide +kernel
theorem dX1_setShift_5 : decode cX1_setShift 5 = .ok (.iload_n 1, 1) := by decide +kernel
theorem dX1_setShift_6 : decode cX1_setShift 6 = .ok (.bipush (-4), 2) := by decide +kernel
theorem dX1_setShift_8 : decode cX1_setShift 8 = .ok (.iconst 4, 1) := by decide +kernel
theorem dX1_setShift_9 : decode cX1_setShift 9 = .ok (.invokestatic 54, 3) := by decide +kernel
theorem dX1_setShift_12 : decode cX1_setShift 12 = .ok (.ifCond .ne 9, 3) := by decide +kernel
theorem dX1_setShift_15 : decode cX1_setShift 15 = .ok (.aload_n 0, 1) := by decide +kernel
theorem dX1_setShift_16 : decode cX1_setShift 16 = .ok (.iconst 1, 1) := by decide +kernel
theorem dX1_setShift_17 : decode cX1_setShift 17 = .ok (.invokevirtual 88, 3) := by decide +kernel
theorem dX1_setShift_20 : decode cX1_setShift 20 = .ok (.ireturn, 1) := by decide +kernel
theorem dX1_setShift_21 : decode cX1_setShift 21 = .ok (.aload_n 0, 1) := by decide +kernel
theorem dX1_setShift_22 : decode cX1_setShift 22 = .ok (.getfield 68, 3) := by decide +kernel
theorem dX1_setShift_25 : decode cX1_setShift 25 = .ok (.istore_n 2, 1) := by decide +kernel
theorem dX1_setShift_26 : decode cX1_setShift 26 = .ok (.aload_n 0, 1) := by decide +kernel
theorem dX1_setShift_27 : decode cX1_setShift 27 = .ok (.iload_n 1, 1) := by decide +kernel
theorem dX1_setShift_28 : decode cX1_setShift 28 = .ok (.putfield 68, 3) := by decide +kernel
theorem dX1_setShift_31 : decode cX1_setShift 31 = .ok (.iload_n 2, 1) := by decide +kernel
theorem dX1_setShift_32 : decode cX1_setShift 32 = .ok (.ireturn, 1) := by decide +kernel
set_option maxRecDepth 20000 in
theorem ggX1_isPass_X1_isPerson : GoodIn wsX1_isPass wsX1_isPerson := goodIn_r _ [6, 7, 8, 9, 5, 10, 14, 15, 16, 17, 18, 19, 20, 21, 22, 23, 24, 25, 26, 27, 28, 29, 30, 31] (by decide +kernel) (by decide +kernel)
set_option maxRecDepth 20000 in
theorem gX1_isPass_X1_isPerson : GoodIn wsX1_isPass (wsV RX1 107 RX1 yX1_isPerson wsX1_isPerson) := goodIn_app (goodIn_of _ (by decide +kernel)) ggX1_isPass_X1_isPerson
set_option maxRecDepth 20000 in
theorem ggX1_isPass_X1_isColour : GoodIn wsX1_isPass wsX1_isColour := goodIn_r _ [13, 8, 9, 5, 10] (by decide +kernel) (by decide +kernel)
set_option maxRecDepth 20000 in
theorem gX1_isPass_X1_isColour : GoodIn wsX1_isPass (va_wsS RX1 98 yX1_isColour wsX1_isColour) := goodIn_app (goodIn_of _ (by decide +kernel)) ggX1_isPass_X1_isColour
theorem dX1_isPass_0 : decode cX1_isPass 0 = .ok (.aload_n 0, 1) := by decide +kernel
theorem dX1_isPass_1 : decode cX1_isPass 1 = .ok (.aload_n 0, 1) := by decide +kernel
theorem dX1_isPass_2 : decode cX1_isPass 2 = .ok (.iload_n 1, 1) := by decide +kernel
theorem dX1_isPass_3 : decode cX1_isPass 3 = .ok (.invokevirtual 107, 3) := by decide +kernel
theorem dX1_isPass_6 : decode cX1_isPass 6 = .ok (.ifCond .eq 14, 3) := by decide +kernel
theorem dX1_isPass_9 : decode cX1_isPass 9 = .ok (.iload_n 2, 1) := by decide +kernel
theorem dX1_isPass_10 : decode cX1_isPass 10 = .ok (.invokestatic 98, 3) := by decide +kernel
theorem dX1_isPass_13 : decode cX1_isPass 13 = .ok (.ifCond .eq 7, 3) := by decide +kernel
theorem dX1_isPass_16 : decode cX1_isPass 16 = .ok (.iconst 0, 1) := by decide +kernel
theorem dX1_isPass_17 : decode cX1_isPass 17 = .ok (.goto 4, 3) := by decide +kernel
theorem dX1_isPass_20 : decode cX1_isPass 20 = .ok (.iconst 1, 1) := by decide +kernel
theorem dX1_isPass_21 : decode cX1_isPass 21 = .ok (.putfield 47, 3) := by decide +kernel
theorem dX1_isPass_24 : decode cX1_isPass 24 = .ok (.aload_n 0, 1) := by decide +kernel
theorem dX1_isPass_25 : decode cX1_isPass 25 = .ok (.getfield 47, 3) := by decide +kernel
theorem dX1_isPass_28 : decode cX1_isPass 28 = .ok (.ifCond .ne 7, 3) := by decide +kernel
theorem dX1_isPass_31 : decode cX1_isPass 31 = .ok (.iconst 1, 1) := by decide +kernel
theorem dX1_isPass_32 : decode cX1_isPass 32 = .ok (.goto 4, 3) := by decide +kernel
theorem dX1_isPass_35 : decode cX1_isPass 35 = .ok (.iconst 0, 1) := by decide +kernel
theorem dX1_isPass_36 : decode cX1_isPass 36 = .ok (.ireturn, 1) := by decide +kernel
set_option maxRecDepth 20000 in
theorem ggX1_givePass_X1_isPass : GoodIn wsX1_givePass wsX1_isPass := goodIn_r _ [10, 11, 12, 13, 14, 9, 15, 16, 17, 18, 19, 20, 21, 22, 27, 28, 29, 30, 31, 32, 33, 34, 35, 36, 37, 38, 39, 40, 41, 42, 43, 44] (by decide +kernel) (by decide +kernel)
set_option maxRecDepth 20000 in
theorem gX1_givePass_X1_isPass : GoodIn wsX1_givePass (wsV RX1 110 RX1 yX1_isPass wsX1_isPass) := goodIn_app (goodIn_of _ (by decide +kernel)) ggX1_givePass_X1_isPass
set_option maxRecDepth 20000 in
theorem ggX1_givePass_X1_isIn : GoodIn wsX1_givePass wsX1_isIn := goodIn_r _ [19] (by decide +kernel) (by decide +kernel)
set_option maxRecDepth 20000 in
theorem gX1_givePass_X1_isIn : GoodIn wsX1_givePass (va_wsS RX1 54 yX1_isIn wsX1_isIn) := goodIn_app (goodIn_of _ (by decide +kernel)) ggX1_givePass_X1_isIn
set_option maxRecDepth 20000 in
theorem ggX1_givePass_X1_fail : GoodIn wsX1_givePass wsX1_fail := goodIn_r _ [26, 11, 27, 28, 29, 30, 31, 32, 33, 34, 35, 36, 37, 38, 39, 40, 41, 42, 43, 44] (by decide +kernel) (by decide +kernel)
set_option maxRecDepth 20000 in
theorem gX1_givePass_X1_fail : GoodIn wsX1_givePass (wsV RX1 88 RX1 yX1_fail wsX1_fail) := goodIn_app (goodIn_of _ (by decide +kernel)) ggX1_givePass_X1_fail
theorem dX1_givePass_0 : decode cX1_givePass 0 = .ok (.aload_n 0, 1) := by decide +kernel
theorem dX1_givePass_1 : decode cX1_givePass 1 = .ok (.iload_n 1, 1) := by decide +kernel
theorem dX1_givePass_2 : decode cX1_givePass 2 = .ok (.iload_n 2, 1) := by decide +kernel
theorem dX1_givePass_3 : decode cX1_givePass 3 = .ok (.invokevirtual 110, 3) := by decide +kernel
theorem dX1_givePass_6 : decode cX1_givePass 6 = .ok (.ifCond .ne 5, 3) := by decide +kernel
theorem dX1_givePass_9 : decode cX1_givePass 9 = .ok (.iconst 0, 1) := by decide +kernel
theorem dX1_givePass_10 : decode cX1_givePass 10 = .ok (.ireturn, 1) := by decide +kernel
theorem dX1_givePass_11 : decode cX1_givePass 11 = .ok (.iload_n 3, 1) := by decide +kernel
theorem dX1_givePass_12 : decode cX1_givePass 12 = .ok (.iconst 1, 1) := by decide +kernel
theorem dX1_givePass_13 : decode cX1_givePass 13 = .ok (.bipush 9, 2) := by decide +kernel
theorem dX1_givePass_15 : decode cX1_givePass 15 = .ok (.invokestatic 54, 3) := by decide +kernel
theorem dX1_givePass_18 : decode cX1_givePass 18 = .ok (.ifCond .ne 9, 3) := by decide +kernel
theorem dX1_givePass_21 : decode cX1_givePass 21 = .ok (.aload_n 0, 1) := by decide +kernel
theorem dX1_givePass_22 : decode cX1_givePass 22 = .ok (.iconst 2, 1) := by decide +kernel
theorem dX1_givePass_23 : decode cX1_givePass 23 = .ok (.invokevirtual 88, 3) := by decide +kernel
theorem dX1_givePass_26 : decode cX1_givePass 26 = .ok (.ireturn, 1) := by decide +kernel
theorem dX1_givePass_27 : decode cX1_givePass 27 = .ok (.iconst 4, 1) := by decide +kernel
theorem dX1_givePass_28 : decode cX1_givePass 28 = .ok (.iload_n 1, 1) := by decide +kernel
theorem dX1_givePass_29 : decode cX1_givePass 29 = .ok (.imul, 1) := by decide +kernel
theorem dX1_givePass_30 : decode cX1_givePass 30 = .ok (.iload_n 2, 1) := by decide +kernel
theorem dX1_givePass_31 : decode cX1_givePass 31 = .ok (.iadd, 1) := by decide +kernel
theorem dX1_givePass_32 : decode cX1_givePass 32 = .ok (.istore 4, 2) := by decide +kernel
theorem dX1_givePass_34 : decode cX1_givePass 34 = .ok (.aload_n 0, 1) := by decide +kernel
theorem dX1_givePass_35 : decode cX1_givePass 35 = .ok (.getfield 38, 3) := by decide +kernel
theorem dX1_givePass_38 : decode cX1_givePass 38 = .ok (.iload 4, 2) := by decide +kernel
theorem dX1_givePass_40 : decode cX1_givePass 40 = .ok (.bipush 9, 2) := by decide +kernel
theorem dX1_givePass_42 : decode cX1_givePass 42 = .ok (.aload_n 0, 1) := by decide +kernel
theorem dX1_givePass_43 : decode cX1_givePass 43 = .ok (.getfield 38, 3) := by decide +kernel
theorem dX1_givePass_46 : decode cX1_givePass 46 = .ok (.iload 4, 2) := by decide +kernel
theorem dX1_givePass_48 : decode cX1_givePass 48 = .ok (.iaload, 1) := by decide +kernel
theorem dX1_givePass_49 : decode cX1_givePass 49 = .ok (.iload_n 3, 1) := by decide +kernel
theorem dX1_givePass_50 : decode cX1_givePass 50 = .ok (.iadd, 1) := by decide +kernel
theorem dX1_givePass_51 : decode cX1_givePass 51 = .ok (.invokestatic 113, 3) := by decide +kernel
theorem dX1_givePass_54 : decode cX1_givePass 54 = .ok (.iastore, 1) := by decide +kernel
theorem dX1_givePass_55 : decode cX1_givePass 55 = .ok (.aload_n 0, 1) := by decide +kernel
theorem dX1_givePass_56 : decode cX1_givePass 56 = .ok (.getfield 38, 3) := by decide +kernel
theorem dX1_givePass_59 : decode cX1_givePass 59 = .ok (.iload 4, 2) := by decide +kernel
theorem dX1_givePass_61 : decode cX1_givePass 61 = .ok (.iaload, 1) := by decide +kernel
theorem dX1_givePass_62 : decode cX1_givePass 62 = .ok (.ireturn, 1) := by decide +kernel
set_option maxRecDepth 20000 in
theorem ggX1_takePass_X1_isPass : GoodIn wsX1_takePass wsX1_isPass := goodIn_r _ [6, 7, 8, 9, 10, 5, 11, 12, 13, 14, 15, 16, 17, 18, 19, 20, 21, 22, 23, 24, 25, 26, 27, 28, 29, 30, 31, 32, 33, 34, 35, 36] (by decide +kernel) (by decide +kernel)
set_option maxRecDepth 20000 in
theorem gX1_takePass_X1_isPass : GoodIn wsX1_takePass (wsV RX1 110 RX1 yX1_isPass wsX1_isPass) := goodIn_app (goodIn_of _ (by decide +kernel)) ggX1_takePass_X1_isPass
theorem dX1_takePass_0 : decode cX1_takePass 0 = .ok (.aload_n 0, 1) := by decide +kernel
theorem dX1_takePass_1 : decode cX1_takePass 1 = .ok (.iload_n 1, 1) := by decide +kernel
theorem dX1_takePass_2 : decode cX1_takePass 2 = .ok (.iload_n 2, 1) := by decide +kernel
theorem dX1_takePass_3 : decode cX1_takePass 3 = .ok (.invokevirtual 110, 3) := by decide +kernel
theorem dX1_takePass_6 : decode cX1_takePass 6 = .ok (.ifCond .ne 5, 3) := by decide +kernel
theorem dX1_takePass_9 : decode cX1_takePass 9 = .ok (.iconst 0, 1) := by decide +kernel
theorem dX1_takePass_10 : decode cX1_takePass 10 = .ok (.ireturn, 1) := by decide +kernel
theorem dX1_takePass_11 : decode cX1_takePass 11 = .ok (.aload_n 0, 1) := by decide +kernel
theorem dX1_takePass_12 : decode cX1_takePass 12 = .ok (.getfield 38, 3) := by decide +kernel
theorem dX1_takePass_15 : decode cX1_takePass 15 = .ok (.iconst 4, 1) := by decide +kernel
theorem dX1_takePass_16 : decode cX1_takePass 16 = .ok (.iload_n 1, 1) := by decide +kernel
theorem dX1_takePass_17 : decode cX1_takePass 17 = .ok (.imul, 1) := by decide +kernel
theorem dX1_takePass_18 : decode cX1_takePass 18 = .ok (.iload_n 2, 1) := by decide +kernel
theorem dX1_takePass_19 : decode cX1_takePass 19 = .ok (.iadd, 1) := by decide +kernel
theorem dX1_takePass_20 : decode cX1_takePass 20 = .ok (.iaload, 1) := by decide +kernel
theorem dX1_takePass_21 : decode cX1_takePass 21 = .ok (.istore_n 3, 1) := by decide +kernel
theorem dX1_takePass_22 : decode cX1_takePass 22 = .ok (.aload_n 0, 1) := by decide +kernel
theorem dX1_takePass_23 : decode cX1_takePass 23 = .ok (.getfield 38, 3) := by decide +kernel
theorem dX1_takePass_26 : decode cX1_takePass 26 = .ok (.iconst 4, 1) := by decide +kernel
theorem dX1_takePass_27 : decode cX1_takePass 27 = .ok (.iload_n 1, 1) := by decide +kernel
theorem dX1_takePass_28 : decode cX1_takePass 28 = .ok (.imul, 1) := by decide +kernel
theorem dX1_takePass_29 : decode cX1_takePass 29 = .ok (.iload_n 2, 1) := by decide +kernel
theorem dX1_takePass_30 : decode cX1_takePass 30 = .ok (.iadd, 1) := by decide +kernel
theorem dX1_takePass_31 : decode cX1_takePass 31 = .ok (.iconst 0, 1) := by decide +kernel
theorem dX1_takePass_32 : decode cX1_takePass 32 = .ok (.iastore, 1) := by decide +kernel
theorem dX1_takePass_33 : decode cX1_takePass 33 = .ok (.iload_n 3, 1) := by decide +kernel
theorem dX1_takePass_34 : decode cX1_takePass 34 = .ok (.ireturn, 1) := by decide +kernel
set_option maxRecDepth 20000 in
theorem ggX1_isPair_X1_isPerson : GoodIn wsX1_isPair wsX1_isPerson := goodIn_r _ [6, 7, 8, 9, 5, 10, 16, 17, 18, 19, 20, 21, 22, 23, 24, 25, 26, 27, 28, 29, 30, 31, 32, 33] (by decide +kernel) (by decide +kernel)
set_option maxRecDepth 20000 in
theorem gX1_isPair_X1_isPerson : GoodIn wsX1_isPair (wsV RX1 107 RX1 yX1_isPerson wsX1_isPerson) := goodIn_app (goodIn_of _ (by decide +kernel)) ggX1_isPair_X1_isPerson
set_option maxRecDepth 20000 in
theorem ggX1_isPair_X1_isQuarter : GoodIn wsX1_isPair wsX1_isQuarter := goodIn_r _ [14, 15, 8, 9, 5, 10, 16, 17, 18, 19, 20, 21, 22, 23, 24, 25, 26, 27, 28, 29, 30, 31, 32, 33] (by decide +kernel) (by decide +kernel)
set_option maxRecDepth 20000 in
theorem gX1_isPair_X1_isQuarter : GoodIn wsX1_isPair (wsV RX1 95 RX1 yX1_isQuarter wsX1_isQuarter) := goodIn_app (goodIn_of _ (by decide +kernel)) ggX1_isPair_X1_isQuarter
theorem dX1_isPair_0 : decode cX1_isPair 0 = .ok (.aload_n 0, 1) := by decide +kernel
theorem dX1_isPair_1 : decode cX1_isPair 1 = .ok (.aload_n 0, 1) := by decide +kernel
theorem dX1_isPair_2 : decode cX1_isPair 2 = .ok (.iload_n 1, 1) := by decide +kernel
theorem dX1_isPair_3 : decode cX1_isPair 3 = .ok (.invokevirtual 107, 3) := by decide +kernel
theorem dX1_isPair_6 : decode cX1_isPair 6 = .ok (.ifCond .eq 15, 3) := by decide +kernel
theorem dX1_isPair_9 : decode cX1_isPair 9 = .ok (.aload_n 0, 1) := by decide +kernel
theorem dX1_isPair_10 : decode cX1_isPair 10 = .ok (.iload_n 2, 1) := by decide +kernel
theorem dX1_isPair_11 : decode cX1_isPair 11 = .ok (.invokevirtual 95, 3) := by decide +kernel
theorem dX1_isPair_14 : decode cX1_isPair 14 = .ok (.ifCond .eq 7, 3) := by decide +kernel
theorem dX1_isPair_17 : decode cX1_isPair 17 = .ok (.iconst 0, 1) := by decide +kernel
theorem dX1_isPair_18 : decode cX1_isPair 18 = .ok (.goto 4, 3) := by decide +kernel
theorem dX1_isPair_21 : decode cX1_isPair 21 = .ok (.iconst 1, 1) := by decide +kernel
theorem dX1_isPair_22 : decode cX1_isPair 22 = .ok (.putfield 47, 3) := by decide +kernel
theorem dX1_isPair_25 : decode cX1_isPair 25 = .ok (.aload_n 0, 1) := by decide +kernel
theorem dX1_isPair_26 : decode cX1_isPair 26 = .ok (.getfield 47, 3) := by decide +kernel
theorem dX1_isPair_29 : decode cX1_isPair 29 = .ok (.ifCond .ne 7, 3) := by decide +kernel
theorem dX1_isPair_32 : decode cX1_isPair 32 = .ok (.iconst 1, 1) := by decide +kernel
theorem dX1_isPair_33 : decode cX1_isPair 33 = .ok (.goto 4, 3) := by decide +kernel
theorem dX1_isPair_36 : decode cX1_isPair 36 = .ok (.iconst 0, 1) := by decide +kernel
theorem dX1_isPair_37 : decode cX1_isPair 37 = .ok (.ireturn, 1) := by decide +kernel
set_option maxRecDepth 20000 in
theorem ggX1_goOut_X1_isPair : GoodIn wsX1_goOut wsX1_isPair := goodIn_r _ [12, 13, 14, 15, 16, 11, 17, 18, 19, 20, 21, 22, 23, 24, 25, 26, 56, 57, 58, 59, 60, 61, 62, 63, 64, 65, 66, 67, 68, 69, 70, 71, 72, 73] (by decide +kernel) (by decide +kernel)
set_option maxRecDepth 20000 in
theorem gX1_goOut_X1_isPair : GoodIn wsX1_goOut (wsV RX1 119 RX1 yX1_isPair wsX1_isPair) := goodIn_app (goodIn_of _ (by decide +kernel)) ggX1_goOut_X1_isPair
set_option maxRecDepth 20000 in
theorem ggX1_goOut_X1_barsAt : GoodIn wsX1_goOut wsX1_barsAt := goodIn_r _ [30, 31, 32, 33, 34, 35, 36, 11, 37, 38, 39, 40, 41, 42, 43, 44, 45, 46, 47, 48, 49, 50, 51, 52, 53, 54, 55, 56, 57, 58, 59, 60, 61, 62, 63, 64, 65, 66, 67, 68, 69, 70, 71, 72, 73] (by decide +kernel) (by decide +kernel)
set_option maxRecDepth 20000 in
theorem gX1_goOut_X1_barsAt : GoodIn wsX1_goOut (wsV RX1 84 RX1 yX1_barsAt wsX1_barsAt) := goodIn_app (goodIn_of _ (by decide +kernel)) ggX1_goOut_X1_barsAt
theorem dX1_goOut_0 : decode cX1_goOut 0 = .ok (.aload_n 0, 1) := by decide +kernel
theorem dX1_goOut_1 : decode cX1_goOut 1 = .ok (.iload_n 1, 1) := by decide +kernel
theorem dX1_goOut_2 : decode cX1_goOut 2 = .ok (.iload_n 2, 1) := by decide +kernel
theorem dX1_goOut_3 : decode cX1_goOut 3 = .ok (.invokevirtual 119, 3) := by decide +kernel
theorem dX1_goOut_6 : decode cX1_goOut 6 = .ok (.ifCond .ne 5, 3) := by decide +kernel
theorem dX1_goOut_9 : decode cX1_goOut 9 = .ok (.iconst 0, 1) := by decide +kernel
theorem dX1_goOut_10 : decode cX1_goOut 10 = .ok (.ireturn, 1) := by decide +kernel
theorem dX1_goOut_11 : decode cX1_goOut 11 = .ok (.iconst 0, 1) := by decide +kernel
theorem dX1_goOut_12 : decode cX1_goOut 12 = .ok (.istore_n 3, 1) := by decide +kernel
theorem dX1_goOut_13 : decode cX1_goOut 13 = .ok (.iconst 0, 1) := by decide +kernel
theorem dX1_goOut_14 : decode cX1_goOut 14 = .ok (.istore 4, 2) := by decide +kernel
theorem dX1_goOut_16 : decode cX1_goOut 16 = .ok (.iload 4, 2) := by decide +kernel
theorem dX1_goOut_18 : decode cX1_goOut 18 = .ok (.aload_n 0, 1) := by decide +kernel
theorem dX1_goOut_19 : decode cX1_goOut 19 = .ok (.getfield 58, 3) := by decide +kernel
theorem dX1_goOut_22 : decode cX1_goOut 22 = .ok (.if_icmp .ge 82, 3) := by decide +kernel
theorem dX1_goOut_25 : decode cX1_goOut 25 = .ok (.aload_n 0, 1) := by decide +kernel
theorem dX1_goOut_26 : decode cX1_goOut 26 = .ok (.iload 4, 2) := by decide +kernel
theorem dX1_goOut_28 : decode cX1_goOut 28 = .ok (.iload_n 1, 1) := by decide +kernel
theorem dX1_goOut_29 : decode cX1_goOut 29 = .ok (.iload_n 2, 1) := by decide +kernel
theorem dX1_goOut_30 : decode cX1_goOut 30 = .ok (.aload_n 0, 1) := by decide +kernel
theorem dX1_goOut_31 : decode cX1_goOut 31 = .ok (.getfield 122, 3) := by decide +kernel
theorem dX1_goOut_34 : decode cX1_goOut 34 = .ok (.invokevirtual 84, 3) := by decide +kernel
theorem dX1_goOut_37 : decode cX1_goOut 37 = .ok (.ifCond .ne 6, 3) := by decide +kernel
theorem dX1_goOut_40 : decode cX1_goOut 40 = .ok (.goto 58, 3) := by decide +kernel
theorem dX1_goOut_43 : decode cX1_goOut 43 = .ok (.iconst 4, 1) := by decide +kernel
theorem dX1_goOut_44 : decode cX1_goOut 44 = .ok (.iload_n 1, 1) := by decide +kernel
theorem dX1_goOut_45 : decode cX1_goOut 45 = .ok (.imul, 1) := by decide +kernel
theorem dX1_goOut_46 : decode cX1_goOut 46 = .ok (.aload_n 0, 1) := by decide +kernel
theorem dX1_goOut_47 : decode cX1_goOut 47 = .ok (.getfield 19, 3) := by decide +kernel
theorem dX1_goOut_50 : decode cX1_goOut 50 = .ok (.iload 4, 2) := by decide +kernel
theorem dX1_goOut_52 : decode cX1_goOut 52 = .ok (.iaload, 1) := by decide +kernel
theorem dX1_goOut_53 : decode cX1_goOut 53 = .ok (.iadd, 1) := by decide +kernel
theorem dX1_goOut_54 : decode cX1_goOut 54 = .ok (.istore 5, 2) := by decide +kernel
theorem dX1_goOut_56 : decode cX1_goOut 56 = .ok (.aload_n 0, 1) := by decide +kernel
theorem dX1_goOut_57 : decode cX1_goOut 57 = .ok (.getfield 38, 3) := by decide +kernel
theorem dX1_goOut_60 : decode cX1_goOut 60 = .ok (.iload 5, 2) := by decide +kernel
theorem dX1_goOut_62 : decode cX1_goOut 62 = .ok (.iaload, 1) := by decide +kernel
theorem dX1_goOut_63 : decode cX1_goOut 63 = .ok (.ifCond .ne 8, 3) := by decide +kernel
theorem dX1_goOut_66 : decode cX1_goOut 66 = .ok (.iconst 1, 1) := by decide +kernel
theorem dX1_goOut_67 : decode cX1_goOut 67 = .ok (.istore_n 3, 1) := by decide +kernel
theorem dX1_goOut_68 : decode cX1_goOut 68 = .ok (.goto 30, 3) := by decide +kernel
theorem dX1_goOut_71 : decode cX1_goOut 71 = .ok (.aload_n 0, 1) := by decide +kernel
theorem dX1_goOut_72 : decode cX1_goOut 72 = .ok (.getfield 38, 3) := by decide +kernel
theorem dX1_goOut_75 : decode cX1_goOut 75 = .ok (.iload 5, 2) := by decide +kernel
theorem dX1_goOut_77 : decode cX1_goOut 77 = .ok (.dup2, 1) := by decide +kernel
theorem dX1_goOut_78 : decode cX1_goOut 78 = .ok (.iaload, 1) := by decide +kernel
theorem dX1_goOut_79 : decode cX1_goOut 79 = .ok (.iconst 1, 1) := by decide +kernel
theorem dX1_goOut_80 : decode cX1_goOut 80 = .ok (.isub, 1) := by decide +kernel
theorem dX1_goOut_81 : decode cX1_goOut 81 = .ok (.iastore, 1) := by decide +kernel
theorem dX1_goOut_82 : decode cX1_goOut 82 = .ok (.aload_n 0, 1) := by decide +kernel
theorem dX1_goOut_83 : decode cX1_goOut 83 = .ok (.getfield 41, 3) := by decide +kernel
theorem dX1_goOut_86 : decode cX1_goOut 86 = .ok (.aload_n 0, 1) := by decide +kernel
theorem dX1_goOut_87 : decode cX1_goOut 87 = .ok (.getfield 19, 3) := by decide +kernel
theorem dX1_goOut_90 : decode cX1_goOut 90 = .ok (.iload 4, 2) := by decide +kernel
theorem dX1_goOut_92 : decode cX1_goOut 92 = .ok (.iaload, 1) := by decide +kernel
theorem dX1_goOut_93 : decode cX1_goOut 93 = .ok (.dup2, 1) := by decide +kernel
theorem dX1_goOut_94 : decode cX1_goOut 94 = .ok (.iaload, 1) := by decide +kernel
theorem dX1_goOut_95 : decode cX1_goOut 95 = .ok (.iconst 1, 1) := by decide +kernel
theorem dX1_goOut_96 : decode cX1_goOut 96 = .ok (.iadd, 1) := by decide +kernel
theorem dX1_goOut_97 : decode cX1_goOut 97 = .ok (.iastore, 1) := by decide +kernel
theorem dX1_goOut_98 : decode cX1_goOut 98 = .ok (.iinc 4 1, 3) := by decide +kernel
theorem dX1_goOut_101 : decode cX1_goOut 101 = .ok (.goto (-85), 3) := by decide +kernel
theorem dX1_goOut_104 : decode cX1_goOut 104 = .ok (.iload_n 3, 1) := by decide +kernel
theorem dX1_goOut_105 : decode cX1_goOut 105 = .ok (.ifCond .ne 5, 3) := by decide +kernel
theorem dX1_goOut_108 : decode cX1_goOut 108 = .ok (.iconst 0, 1) := by decide +kernel
theorem dX1_goOut_109 : decode cX1_goOut 109 = .ok (.ireturn, 1) := by decide +kernel
theorem dX1_goOut_110 : decode cX1_goOut 110 = .ok (.aload_n 0, 1) := by decide +kernel
theorem dX1_goOut_111 : decode cX1_goOut 111 = .ok (.getfield 32, 3) := by decide +kernel
theorem dX1_goOut_114 : decode cX1_goOut 114 = .ok (.iload_n 1, 1) := by decide +kernel
theorem dX1_goOut_115 : decode cX1_goOut 115 = .ok (.dup2, 1) := by decide +kernel
theorem dX1_goOut_116 : decode cX1_goOut 116 = .ok (.iaload, 1) := by decide +kernel
theorem dX1_goOut_117 : decode cX1_goOut 117 = .ok (.iconst 1, 1) := by decide +kernel
theorem dX1_goOut_118 : decode cX1_goOut 118 = .ok (.iadd, 1) := by decide +kernel
theorem dX1_goOut_119 : decode cX1_goOut 119 = .ok (.iastore, 1) := by decide +kernel
theorem dX1_goOut_120 : decode cX1_goOut 120 = .ok (.aload_n 0, 1) := by decide +kernel
theorem dX1_goOut_121 : decode cX1_goOut 121 = .ok (.getfield 35, 3) := by decide +kernel
theorem dX1_goOut_124 : decode cX1_goOut 124 = .ok (.iload_n 1, 1) := by decide +kernel
theorem dX1_goOut_125 : decode cX1_goOut 125 = .ok (.dup2, 1) := by decide +kernel
theorem dX1_goOut_126 : decode cX1_goOut 126 = .ok (.iaload, 1) := by decide +kernel
theorem dX1_goOut_127 : decode cX1_goOut 127 = .ok (.bipush 10, 2) := by decide +kernel
theorem dX1_goOut_129 : decode cX1_goOut 129 = .ok (.aload_n 0, 1) := by decide +kernel
theorem dX1_goOut_130 : decode cX1_goOut 130 = .ok (.getfield 32, 3) := by decide +kernel
theorem dX1_goOut_133 : decode cX1_goOut 133 = .ok (.iload_n 1, 1) := by decide +kernel
theorem dX1_goOut_134 : decode cX1_goOut 134 = .ok (.iaload, 1) := by decide +kernel
theorem dX1_goOut_135 : decode cX1_goOut 135 = .ok (.imul, 1) := by decide +kernel
theorem dX1_goOut_136 : decode cX1_goOut 136 = .ok (.iadd, 1) := by decide +kernel
theorem dX1_goOut_137 : decode cX1_goOut 137 = .ok (.iastore, 1) := by decide +kernel
theorem dX1_goOut_138 : decode cX1_goOut 138 = .ok (.bipush 10, 2) := by decide +kernel
theorem dX1_goOut_140 : decode cX1_goOut 140 = .ok (.aload_n 0, 1) := by decide +kernel
theorem dX1_goOut_141 : decode cX1_goOut 141 = .ok (.getfield 32, 3) := by decide +kernel
theorem dX1_goOut_144 : decode cX1_goOut 144 = .ok (.iload_n 1, 1) := by decide +kernel
theorem dX1_goOut_145 : decode cX1_goOut 145 = .ok (.iaload, 1) := by decide +kernel
theorem dX1_goOut_146 : decode cX1_goOut 146 = .ok (.imul, 1) := by decide +kernel
theorem dX1_goOut_147 : decode cX1_goOut 147 = .ok (.ireturn, 1) := by decide +kernel
set_option maxRecDepth 20000 in
theorem ggX1_pass_X1_isIn : GoodIn wsX1_pass wsX1_isIn := goodIn_r _ [7] (by decide +kernel) (by decide +kernel)
set_option maxRecDepth 20000 in
theorem gX1_pass_X1_isIn : GoodIn wsX1_pass (va_wsS RX1 54 yX1_isIn wsX1_isIn) := goodIn_app (goodIn_of _ (by decide +kernel)) ggX1_pass_X1_isIn
set_option maxRecDepth 20000 in
theorem ggX1_pass_X1_fail : GoodIn wsX1_pass wsX1_fail := goodIn_r _ [11, 1, 34, 35, 36, 37, 38, 39, 40, 41, 42, 43, 44, 45, 46, 47, 48, 49, 50, 51] (by decide +kernel) (by decide +kernel)
set_option maxRecDepth 20000 in
theorem gX1_pass_X1_fail : GoodIn wsX1_pass (wsV RX1 88 RX1 yX1_fail wsX1_fail) := goodIn_app (goodIn_of _ (by decide +kernel)) ggX1_pass_X1_fail
set_option maxRecDepth 20000 in
theorem ggX1_pass_X1_onAt : GoodIn wsX1_pass wsX1_onAt := goodIn_r _ [15, 16, 17, 18, 19, 6, 20, 21, 22, 23, 24, 25, 26, 27, 28, 29, 30, 31, 32, 33, 34, 35, 36, 37, 38, 39, 40, 41, 42, 43, 44, 45, 46, 47, 48, 49, 50, 51] (by decide +kernel) (by decide +kernel)
set_option maxRecDepth 20000 in
theorem gX1_pass_X1_onAt : GoodIn wsX1_pass (wsV RX1 81 RX1 yX1_onAt wsX1_onAt) := goodIn_app (goodIn_of _ (by decide +kernel)) ggX1_pass_X1_onAt
theorem dX1_pass_0 : decode cX1_pass 0 = .ok (.aload_n 0, 1) := by decide +kernel
theorem dX1_pass_1 : decode cX1_pass 1 = .ok (.iconst 0, 1) := by decide +kernel
theorem dX1_pass_2 : decode cX1_pass 2 = .ok (.putfield 47, 3) := by decide +kernel
theorem dX1_pass_5 : decode cX1_pass 5 = .ok (.iload_n 1, 1) := by decide +kernel
theorem dX1_pass_6 : decode cX1_pass 6 = .ok (.iconst 1, 1) := by decide +kernel
theorem dX1_pass_7 : decode cX1_pass 7 = .ok (.sipush 200, 3) := by decide +kernel
theorem dX1_pass_10 : decode cX1_pass 10 = .ok (.invokestatic 54, 3) := by decide +kernel
theorem dX1_pass_13 : decode cX1_pass 13 = .ok (.ifCond .ne 9, 3) := by decide +kernel
theorem dX1_pass_16 : decode cX1_pass 16 = .ok (.aload_n 0, 1) := by decide +kernel
theorem dX1_pass_17 : decode cX1_pass 17 = .ok (.iconst 1, 1) := by decide +kernel
theorem dX1_pass_18 : decode cX1_pass 18 = .ok (.invokevirtual 88, 3) := by decide +kernel
theorem dX1_pass_21 : decode cX1_pass 21 = .ok (.ireturn, 1) := by decide +kernel
theorem dX1_pass_22 : decode cX1_pass 22 = .ok (.iconst 0, 1) := by decide +kernel
theorem dX1_pass_23 : decode cX1_pass 23 = .ok (.istore_n 2, 1) := by decide +kernel
theorem dX1_pass_24 : decode cX1_pass 24 = .ok (.iconst 0, 1) := by decide +kernel
theorem dX1_pass_25 : decode cX1_pass 25 = .ok (.istore_n 3, 1) := by decide +kernel
theorem dX1_pass_26 : decode cX1_pass 26 = .ok (.iload_n 3, 1) := by decide +kernel
theorem dX1_pass_27 : decode cX1_pass 27 = .ok (.iload_n 1, 1) := by decide +kernel
theorem dX1_pass_28 : decode cX1_pass 28 = .ok (.if_icmp .ge 73, 3) := by decide +kernel
theorem dX1_pass_31 : decode cX1_pass 31 = .ok (.iconst 0, 1) := by decide +kernel
theorem dX1_pass_32 : decode cX1_pass 32 = .ok (.istore 4, 2) := by decide +kernel
theorem dX1_pass_34 : decode cX1_pass 34 = .ok (.iload 4, 2) := by decide +kernel
theorem dX1_pass_36 : decode cX1_pass 36 = .ok (.aload_n 0, 1) := by decide +kernel
theorem dX1_pass_37 : decode cX1_pass 37 = .ok (.getfield 58, 3) := by decide +kernel
theorem dX1_pass_40 : decode cX1_pass 40 = .ok (.if_icmp .ge 45, 3) := by decide +kernel
theorem dX1_pass_43 : decode cX1_pass 43 = .ok (.iload_n 2, 1) := by decide +kernel
theorem dX1_pass_44 : decode cX1_pass 44 = .ok (.aload_n 0, 1) := by decide +kernel
theorem dX1_pass_45 : decode cX1_pass 45 = .ok (.iload 4, 2) := by decide +kernel
theorem dX1_pass_47 : decode cX1_pass 47 = .ok (.aload_n 0, 1) := by decide +kernel
theorem dX1_pass_48 : decode cX1_pass 48 = .ok (.getfield 122, 3) := by decide +kernel
theorem dX1_pass_51 : decode cX1_pass 51 = .ok (.iconst 1, 1) := by decide +kernel
theorem dX1_pass_52 : decode cX1_pass 52 = .ok (.iadd, 1) := by decide +kernel
theorem dX1_pass_53 : decode cX1_pass 53 = .ok (.invokevirtual 81, 3) := by decide +kernel
theorem dX1_pass_56 : decode cX1_pass 56 = .ok (.ifCond .eq 20, 3) := by decide +kernel
theorem dX1_pass_59 : decode cX1_pass 59 = .ok (.aload_n 0, 1) := by decide +kernel
theorem dX1_pass_60 : decode cX1_pass 60 = .ok (.iload 4, 2) := by decide +kernel
theorem dX1_pass_62 : decode cX1_pass 62 = .ok (.aload_n 0, 1) := by decide +kernel
theorem dX1_pass_63 : decode cX1_pass 63 = .ok (.getfield 122, 3) := by decide +kernel
theorem dX1_pass_66 : decode cX1_pass 66 = .ok (.invokevirtual 81, 3) := by decide +kernel
theorem dX1_pass_69 : decode cX1_pass 69 = .ok (.ifCond .ne 7, 3) := by decide +kernel
theorem dX1_pass_72 : decode cX1_pass 72 = .ok (.iconst 1, 1) := by decide +kernel
theorem dX1_pass_73 : decode cX1_pass 73 = .ok (.goto 4, 3) := by decide +kernel
theorem dX1_pass_76 : decode cX1_pass 76 = .ok (.iconst 0, 1) := by decide +kernel
theorem dX1_pass_77 : decode cX1_pass 77 = .ok (.iadd, 1) := by decide +kernel
theorem dX1_pass_78 : decode cX1_pass 78 = .ok (.istore_n 2, 1) := by decide +kernel
theorem dX1_pass_79 : decode cX1_pass 79 = .ok (.iinc 4 1, 3) := by decide +kernel
theorem dX1_pass_82 : decode cX1_pass 82 = .ok (.goto (-48), 3) := by decide +kernel
theorem dX1_pass_85 : decode cX1_pass 85 = .ok (.aload_n 0, 1) := by decide +kernel
theorem dX1_pass_86 : decode cX1_pass 86 = .ok (.dup, 1) := by decide +kernel
theorem dX1_pass_87 : decode cX1_pass 87 = .ok (.getfield 122, 3) := by decide +kernel
theorem dX1_pass_90 : decode cX1_pass 90 = .ok (.iconst 1, 1) := by decide +kernel
theorem dX1_pass_91 : decode cX1_pass 91 = .ok (.iadd, 1) := by decide +kernel
theorem dX1_pass_92 : decode cX1_pass 92 = .ok (.putfield 122, 3) := by decide +kernel
theorem dX1_pass_95 : decode cX1_pass 95 = .ok (.iinc 3 1, 3) := by decide +kernel
theorem dX1_pass_98 : decode cX1_pass 98 = .ok (.goto (-72), 3) := by decide +kernel
theorem dX1_pass_101 : decode cX1_pass 101 = .ok (.iload_n 2, 1) := by decide +kernel
theorem dX1_pass_102 : decode cX1_pass 102 = .ok (.ireturn, 1) := by decide +kernel
theorem dX1_day_0 : decode cX1_day 0 = .ok (.aload_n 0, 1) := by decide +kernel
theorem dX1_day_1 : decode cX1_day 1 = .ok (.iconst 0, 1) := by decide +kernel
theorem dX1_day_2 : decode cX1_day 2 = .ok (.putfield 47, 3) := by decide +kernel
theorem dX1_day_5 : decode cX1_day 5 = .ok (.aload_n 0, 1) := by decide +kernel
theorem dX1_day_6 : decode cX1_day 6 = .ok (.getfield 122, 3) := by decide +kernel
theorem dX1_day_9 : decode cX1_day 9 = .ok (.bipush 48, 2) := by decide +kernel
theorem dX1_day_11 : decode cX1_day 11 = .ok (.idiv, 1) := by decide +kernel
theorem dX1_day_12 : decode cX1_day 12 = .ok (.ireturn, 1) := by decide +kernel
theorem dX1_halfHour_0 : decode cX1_halfHour 0 = .ok (.aload_n 0, 1) := by decide +kernel
theorem dX1_halfHour_1 : decode cX1_halfHour 1 = .ok (.iconst 0, 1) := by decide +kernel
theorem dX1_halfHour_2 : decode cX1_halfHour 2 = .ok (.putfield 47, 3) := by decide +kernel
theorem dX1_halfHour_5 : decode cX1_halfHour 5 = .ok (.aload_n 0, 1) := by decide +kernel
theorem dX1_halfHour_6 : decode cX1_halfHour 6 = .ok (.getfield 122, 3) := by decide +kernel
theorem dX1_halfHour_9 : decode cX1_halfHour 9 = .ok (.bipush 48, 2) := by decide +kernel
theorem dX1_halfHour_11 : decode cX1_halfHour 11 = .ok (.irem, 1) := by decide +kernel
theorem dX1_halfHour_12 : decode cX1_halfHour 12 = .ok (.ireturn, 1) := by decide +kernel
set_option maxRecDepth 20000 in
theorem ggX1_duskIn_X1_isIn : GoodIn wsX1_duskIn wsX1_isIn := goodIn_r _ [6] (by decide +kernel) (by decide +kernel)
set_option maxRecDepth 20000 in
theorem gX1_duskIn_X1_isIn : GoodIn wsX1_duskIn (va_wsS RX1 54 yX1_isIn wsX1_isIn) := goodIn_app (goodIn_of _ (by decide +kernel)) ggX1_duskIn_X1_isIn
set_option maxRecDepth 20000 in
theorem ggX1_duskIn_X1_dusk : GoodIn wsX1_duskIn wsX1_dusk := goodIn_r _ [10, 11, 12, 13, 5, 14, 19, 20, 21, 22, 23, 24, 25, 26, 27, 28, 29, 30, 31, 32, 33, 34, 35, 36] (by decide +kernel) (by decide +kernel)
set_option maxRecDepth 20000 in
theorem gX1_duskIn_X1_dusk : GoodIn wsX1_duskIn (wsV RX1 71 RX1 yX1_dusk wsX1_dusk) := goodIn_app (goodIn_of _ (by decide +kernel)) ggX1_duskIn_X1_dusk
set_option maxRecDepth 20000 in
theorem ggX1_duskIn_X1_fail : GoodIn wsX1_duskIn wsX1_fail := goodIn_r _ [18, 1, 19, 20, 21, 22, 23, 24, 25, 26, 27, 28, 29, 30, 31, 32, 33, 34, 35, 36] (by decide +kernel) (by decide +kernel)
set_option maxRecDepth 20000 in
theorem gX1_duskIn_X1_fail : GoodIn wsX1_duskIn (wsV RX1 88 RX1 yX1_fail wsX1_fail) := goodIn_app (goodIn_of _ (by decide +kernel)) ggX1_duskIn_X1_fail
theorem dX1_duskIn_0 : decode cX1_duskIn 0 = .ok (.aload_n 0, 1) := by decide +kernel
theorem dX1_duskIn_1 : decode cX1_duskIn 1 = .ok (.iconst 0, 1) := by decide +kernel
theorem dX1_duskIn_2 : decode cX1_duskIn 2 = .ok (.putfield 47, 3) := by decide +kernel
theorem dX1_duskIn_5 : decode cX1_duskIn 5 = .ok (.iload_n 1, 1) := by decide +kernel
theorem dX1_duskIn_6 : decode cX1_duskIn 6 = .ok (.iconst 0, 1) := by decide +kernel
theorem dX1_duskIn_7 : decode cX1_duskIn 7 = .ok (.bipush 99, 2) := by decide +kernel
theorem dX1_duskIn_9 : decode cX1_duskIn 9 = .ok (.invokestatic 54, 3) := by decide +kernel
theorem dX1_duskIn_12 : decode cX1_duskIn 12 = .ok (.ifCond .eq 19, 3) := by decide +kernel
theorem dX1_duskIn_15 : decode cX1_duskIn 15 = .ok (.aload_n 0, 1) := by decide +kernel
theorem dX1_duskIn_16 : decode cX1_duskIn 16 = .ok (.aload_n 0, 1) := by decide +kernel
theorem dX1_duskIn_17 : decode cX1_duskIn 17 = .ok (.getfield 122, 3) := by decide +kernel
theorem dX1_duskIn_20 : decode cX1_duskIn 20 = .ok (.bipush 48, 2) := by decide +kernel
theorem dX1_duskIn_22 : decode cX1_duskIn 22 = .ok (.idiv, 1) := by decide +kernel
theorem dX1_duskIn_23 : decode cX1_duskIn 23 = .ok (.iload_n 1, 1) := by decide +kernel
theorem dX1_duskIn_24 : decode cX1_duskIn 24 = .ok (.iadd, 1) := by decide +kernel
theorem dX1_duskIn_25 : decode cX1_duskIn 25 = .ok (.invokevirtual 71, 3) := by decide +kernel
theorem dX1_duskIn_28 : decode cX1_duskIn 28 = .ok (.goto 8, 3) := by decide +kernel
theorem dX1_duskIn_31 : decode cX1_duskIn 31 = .ok (.aload_n 0, 1) := by decide +kernel
theorem dX1_duskIn_32 : decode cX1_duskIn 32 = .ok (.iconst 1, 1) := by decide +kernel
theorem dX1_duskIn_33 : decode cX1_duskIn 33 = .ok (.invokevirtual 88, 3) := by decide +kernel
theorem dX1_duskIn_36 : decode cX1_duskIn 36 = .ok (.ireturn, 1) := by decide +kernel
set_option maxRecDepth 20000 in
theorem ggX1_dawnIn_X1_isIn : GoodIn wsX1_dawnIn wsX1_isIn := goodIn_r _ [6] (by decide +kernel) (by decide +kernel)
set_option maxRecDepth 20000 in
theorem gX1_dawnIn_X1_isIn : GoodIn wsX1_dawnIn (va_wsS RX1 54 yX1_isIn wsX1_isIn) := goodIn_app (goodIn_of _ (by decide +kernel)) ggX1_dawnIn_X1_isIn
set_option maxRecDepth 20000 in
theorem ggX1_dawnIn_X1_dawn : GoodIn wsX1_dawnIn wsX1_dawn := goodIn_r _ [9, 10, 11, 5, 12] (by decide +kernel) (by decide +kernel)
set_option maxRecDepth 20000 in
theorem gX1_dawnIn_X1_dawn : GoodIn wsX1_dawnIn (va_wsS RX1 74 yX1_dawn wsX1_dawn) := goodIn_app (goodIn_of _ (by decide +kernel)) ggX1_dawnIn_X1_dawn
set_option maxRecDepth 20000 in
theorem ggX1_dawnIn_X1_fail : GoodIn wsX1_dawnIn wsX1_fail := goodIn_r _ [16, 1, 17, 18, 19, 20, 21, 22, 23, 24, 25, 26, 27, 28, 29, 30, 31, 32, 33, 34] (by decide +kernel) (by decide +kernel)
set_option maxRecDepth 20000 in
theorem gX1_dawnIn_X1_fail : GoodIn wsX1_dawnIn (wsV RX1 88 RX1 yX1_fail wsX1_fail) := goodIn_app (goodIn_of _ (by decide +kernel)) ggX1_dawnIn_X1_fail
theorem dX1_dawnIn_0 : decode cX1_dawnIn 0 = .ok (.aload_n 0, 1) := by decide +kernel
theorem dX1_dawnIn_1 : decode cX1_dawnIn 1 = .ok (.iconst 0, 1) := by decide +kernel
theorem dX1_dawnIn_2 : decode cX1_dawnIn 2 = .ok (.putfield 47, 3) := by decide +kernel
theorem dX1_dawnIn_5 : decode cX1_dawnIn 5 = .ok (.iload_n 1, 1) := by decide +kernel
theorem dX1_dawnIn_6 : decode cX1_dawnIn 6 = .ok (.iconst 0, 1) := by decide +kernel
theorem dX1_dawnIn_7 : decode cX1_dawnIn 7 = .ok (.bipush 99, 2) := by decide +kernel
theorem dX1_dawnIn_9 : decode cX1_dawnIn 9 = .ok (.invokestatic 54, 3) := by decide +kernel
theorem dX1_dawnIn_12 : decode cX1_dawnIn 12 = .ok (.ifCond .eq 18, 3) := by decide +kernel
theorem dX1_dawnIn_15 : decode cX1_dawnIn 15 = .ok (.aload_n 0, 1) := by decide +kernel
theorem dX1_dawnIn_16 : decode cX1_dawnIn 16 = .ok (.getfield 122, 3) := by decide +kernel
theorem dX1_dawnIn_19 : decode cX1_dawnIn 19 = .ok (.bipush 48, 2) := by decide +kernel
theorem dX1_dawnIn_21 : decode cX1_dawnIn 21 = .ok (.idiv, 1) := by decide +kernel
theorem dX1_dawnIn_22 : decode cX1_dawnIn 22 = .ok (.iload_n 1, 1) := by decide +kernel
theorem dX1_dawnIn_23 : decode cX1_dawnIn 23 = .ok (.iadd, 1) := by decide +kernel
theorem dX1_dawnIn_24 : decode cX1_dawnIn 24 = .ok (.invokestatic 74, 3) := by decide +kernel
theorem dX1_dawnIn_27 : decode cX1_dawnIn 27 = .ok (.goto 8, 3) := by decide +kernel
theorem dX1_dawnIn_30 : decode cX1_dawnIn 30 = .ok (.aload_n 0, 1) := by decide +kernel
theorem dX1_dawnIn_31 : decode cX1_dawnIn 31 = .ok (.iconst 1, 1) := by decide +kernel
theorem dX1_dawnIn_32 : decode cX1_dawnIn 32 = .ok (.invokevirtual 88, 3) := by decide +kernel
theorem dX1_dawnIn_35 : decode cX1_dawnIn 35 = .ok (.ireturn, 1) := by decide +kernel
set_option maxRecDepth 20000 in
theorem ggX1_quarterOf_X1_isOrder : GoodIn wsX1_quarterOf wsX1_isOrder := goodIn_r _ [7, 8, 9, 10, 6, 11, 16, 17, 18, 19, 20, 21, 22, 23, 24, 25, 26, 27, 28, 29, 30, 31, 32, 33] (by decide +kernel) (by decide +kernel)
set_option maxRecDepth 20000 in
theorem gX1_quarterOf_X1_isOrder : GoodIn wsX1_quarterOf (wsV RX1 101 RX1 yX1_isOrder wsX1_isOrder) := goodIn_app (goodIn_of _ (by decide +kernel)) ggX1_quarterOf_X1_isOrder
set_option maxRecDepth 20000 in
theorem ggX1_quarterOf_X1_fail : GoodIn wsX1_quarterOf wsX1_fail := goodIn_r _ [15, 1, 16, 17, 18, 19, 20, 21, 22, 23, 24, 25, 26, 27, 28, 29, 30, 31, 32, 33] (by decide +kernel) (by decide +kernel)
set_option maxRecDepth 20000 in
theorem gX1_quarterOf_X1_fail : GoodIn wsX1_quarterOf (wsV RX1 88 RX1 yX1_fail wsX1_fail) := goodIn_app (goodIn_of _ (by decide +kernel)) ggX1_quarterOf_X1_fail
theorem dX1_quarterOf_0 : decode cX1_quarterOf 0 = .ok (.aload_n 0, 1) := by decide +kernel
theorem dX1_quarterOf_1 : decode cX1_quarterOf 1 = .ok (.iconst 0, 1) := by decide +kernel
theorem dX1_quarterOf_2 : decode cX1_quarterOf 2 = .ok (.putfield 47, 3) := by decide +kernel
theorem dX1_quarterOf_5 : decode cX1_quarterOf 5 = .ok (.aload_n 0, 1) := by decide +kernel
theorem dX1_quarterOf_6 : decode cX1_quarterOf 6 = .ok (.iload_n 1, 1) := by decide +kernel
theorem dX1_quarterOf_7 : decode cX1_quarterOf 7 = .ok (.invokevirtual 101, 3) := by decide +kernel
theorem dX1_quarterOf_10 : decode cX1_quarterOf 10 = .ok (.ifCond .eq 12, 3) := by decide +kernel
theorem dX1_quarterOf_13 : decode cX1_quarterOf 13 = .ok (.aload_n 0, 1) := by decide +kernel
theorem dX1_quarterOf_14 : decode cX1_quarterOf 14 = .ok (.getfield 9, 3) := by decide +kernel
theorem dX1_quarterOf_17 : decode cX1_quarterOf 17 = .ok (.iload_n 1, 1) := by decide +kernel
theorem dX1_quarterOf_18 : decode cX1_quarterOf 18 = .ok (.iaload, 1) := by decide +kernel
theorem dX1_quarterOf_19 : decode cX1_quarterOf 19 = .ok (.goto 8, 3) := by decide +kernel
theorem dX1_quarterOf_22 : decode cX1_quarterOf 22 = .ok (.aload_n 0, 1) := by decide +kernel
theorem dX1_quarterOf_23 : decode cX1_quarterOf 23 = .ok (.iconst 1, 1) := by decide +kernel
theorem dX1_quarterOf_24 : decode cX1_quarterOf 24 = .ok (.invokevirtual 88, 3) := by decide +kernel
theorem dX1_quarterOf_27 : decode cX1_quarterOf 27 = .ok (.ireturn, 1) := by decide +kernel
set_option maxRecDepth 20000 in
theorem ggX1_colourOf_X1_isOrder : GoodIn wsX1_colourOf wsX1_isOrder := goodIn_r _ [7, 8, 9, 10, 6, 11, 16, 17, 18, 19, 20, 21, 22, 23, 24, 25, 26, 27, 28, 29, 30, 31, 32, 33] (by decide +kernel) (by decide +kernel)
set_option maxRecDepth 20000 in
theorem gX1_colourOf_X1_isOrder : GoodIn wsX1_colourOf (wsV RX1 101 RX1 yX1_isOrder wsX1_isOrder) := goodIn_app (goodIn_of _ (by decide +kernel)) ggX1_colourOf_X1_isOrder
set_option maxRecDepth 20000 in
theorem ggX1_colourOf_X1_fail : GoodIn wsX1_colourOf wsX1_fail := goodIn_r _ [15, 1, 16, 17, 18, 19, 20, 21, 22, 23, 24, 25, 26, 27, 28, 29, 30, 31, 32, 33] (by decide +kernel) (by decide +kernel)
set_option maxRecDepth 20000 in
theorem gX1_colourOf_X1_fail : GoodIn wsX1_colourOf (wsV RX1 88 RX1 yX1_fail wsX1_fail) := goodIn_app (goodIn_of _ (by decide +kernel)) ggX1_colourOf_X1_fail
theorem dX1_colourOf_0 : decode cX1_colourOf 0 = .ok (.aload_n 0, 1) := by decide +kernel
theorem dX1_colourOf_1 : decode cX1_colourOf 1 = .ok (.iconst 0, 1) := by decide +kernel
theorem dX1_colourOf_2 : decode cX1_colourOf 2 = .ok (.putfield 47, 3) := by decide +kernel
theorem dX1_colourOf_5 : decode cX1_colourOf 5 = .ok (.aload_n 0, 1) := by decide +kernel
theorem dX1_colourOf_6 : decode cX1_colourOf 6 = .ok (.iload_n 1, 1) := by decide +kernel
theorem dX1_colourOf_7 : decode cX1_colourOf 7 = .ok (.invokevirtual 101, 3) := by decide +kernel
theorem dX1_colourOf_10 : decode cX1_colourOf 10 = .ok (.ifCond .eq 12, 3) := by decide +kernel
theorem dX1_colourOf_13 : decode cX1_colourOf 13 = .ok (.aload_n 0, 1) := by decide +kernel
theorem dX1_colourOf_14 : decode cX1_colourOf 14 = .ok (.getfield 19, 3) := by decide +kernel
theorem dX1_colourOf_17 : decode cX1_colourOf 17 = .ok (.iload_n 1, 1) := by decide +kernel
theorem dX1_colourOf_18 : decode cX1_colourOf 18 = .ok (.iaload, 1) := by decide +kernel
theorem dX1_colourOf_19 : decode cX1_colourOf 19 = .ok (.goto 8, 3) := by decide +kernel
theorem dX1_colourOf_22 : decode cX1_colourOf 22 = .ok (.aload_n 0, 1) := by decide +kernel
theorem dX1_colourOf_23 : decode cX1_colourOf 23 = .ok (.iconst 1, 1) := by decide +kernel
theorem dX1_colourOf_24 : decode cX1_colourOf 24 = .ok (.invokevirtual 88, 3) := by decide +kernel
theorem dX1_colourOf_27 : decode cX1_colourOf 27 = .ok (.ireturn, 1) := by decide +kernel
set_option maxRecDepth 20000 in
theorem ggX1_isInForce_X1_isOrder : GoodIn wsX1_isInForce wsX1_isOrder := goodIn_r _ [7, 8, 9, 10, 6, 11, 16, 17, 18, 19, 20, 21, 22, 23, 24, 25, 26, 27, 28, 29, 30, 31, 32, 33] (by decide +kernel) (by decide +kernel)
set_option maxRecDepth 20000 in
theorem gX1_isInForce_X1_isOrder : GoodIn wsX1_isInForce (wsV RX1 101 RX1 yX1_isOrder wsX1_isOrder) := goodIn_app (goodIn_of _ (by decide +kernel)) ggX1_isInForce_X1_isOrder
set_option maxRecDepth 20000 in
theorem ggX1_isInForce_X1_failed : GoodIn wsX1_isInForce wsX1_failed := goodIn_r _ [15, 1, 16, 17, 18, 19, 20, 21, 22, 23, 24, 25, 26, 27, 28, 29, 30, 31, 32, 33] (by decide +kernel) (by decide +kernel)
set_option maxRecDepth 20000 in
theorem gX1_isInForce_X1_failed : GoodIn wsX1_isInForce (wsV RX1 104 RX1 yX1_failed wsX1_failed) := goodIn_app (goodIn_of _ (by decide +kernel)) ggX1_isInForce_X1_failed
theorem dX1_isInForce_0 : decode cX1_isInForce 0 = .ok (.aload_n 0, 1) := by decide +kernel
theorem dX1_isInForce_1 : decode cX1_isInForce 1 = .ok (.iconst 0, 1) := by decide +kernel
theorem dX1_isInForce_2 : decode cX1_isInForce 2 = .ok (.putfield 47, 3) := by decide +kernel
theorem dX1_isInForce_5 : decode cX1_isInForce 5 = .ok (.aload_n 0, 1) := by decide +kernel
theorem dX1_isInForce_6 : decode cX1_isInForce 6 = .ok (.iload_n 1, 1) := by decide +kernel
theorem dX1_isInForce_7 : decode cX1_isInForce 7 = .ok (.invokevirtual 101, 3) := by decide +kernel
theorem dX1_isInForce_10 : decode cX1_isInForce 10 = .ok (.ifCond .eq 12, 3) := by decide +kernel
theorem dX1_isInForce_13 : decode cX1_isInForce 13 = .ok (.aload_n 0, 1) := by decide +kernel
theorem dX1_isInForce_14 : decode cX1_isInForce 14 = .ok (.getfield 25, 3) := by decide +kernel
theorem dX1_isInForce_17 : decode cX1_isInForce 17 = .ok (.iload_n 1, 1) := by decide +kernel
theorem dX1_isInForce_18 : decode cX1_isInForce 18 = .ok (.baload, 1) := by decide +kernel
theorem dX1_isInForce_19 : decode cX1_isInForce 19 = .ok (.goto 8, 3) := by decide +kernel
theorem dX1_isInForce_22 : decode cX1_isInForce 22 = .ok (.aload_n 0, 1) := by decide +kernel
theorem dX1_isInForce_23 : decode cX1_isInForce 23 = .ok (.iconst 1, 1) := by decide +kernel
theorem dX1_isInForce_24 : decode cX1_isInForce 24 = .ok (.invokevirtual 104, 3) := by decide +kernel
theorem dX1_isInForce_27 : decode cX1_isInForce 27 = .ok (.ireturn, 1) := by decide +kernel
set_option maxRecDepth 20000 in
theorem ggX1_isOn_X1_isOrder : GoodIn wsX1_isOn wsX1_isOrder := goodIn_r _ [7, 8, 9, 10, 6, 11, 38, 39, 40, 41, 42, 43, 44, 45, 46, 47, 48, 49, 50, 51, 52, 53, 54, 55] (by decide +kernel) (by decide +kernel)
set_option maxRecDepth 20000 in
theorem gX1_isOn_X1_isOrder : GoodIn wsX1_isOn (wsV RX1 101 RX1 yX1_isOrder wsX1_isOrder) := goodIn_app (goodIn_of _ (by decide +kernel)) ggX1_isOn_X1_isOrder
set_option maxRecDepth 20000 in
theorem ggX1_isOn_X1_onAt : GoodIn wsX1_isOn wsX1_onAt := goodIn_r _ [15, 16, 17, 18, 19, 6, 20, 21, 22, 23, 24, 25, 26, 27, 28, 29, 30, 31, 32, 33, 38, 39, 40, 41, 42, 43, 44, 45, 46, 47, 48, 49, 50, 51, 52, 53, 54, 55] (by decide +kernel) (by decide +kernel)
set_option maxRecDepth 20000 in
theorem gX1_isOn_X1_onAt : GoodIn wsX1_isOn (wsV RX1 81 RX1 yX1_onAt wsX1_onAt) := goodIn_app (goodIn_of _ (by decide +kernel)) ggX1_isOn_X1_onAt
set_option maxRecDepth 20000 in
theorem ggX1_isOn_X1_failed : GoodIn wsX1_isOn wsX1_failed := goodIn_r _ [37, 1, 38, 39, 40, 41, 42, 43, 44, 45, 46, 47, 48, 49, 50, 51, 52, 53, 54, 55] (by decide +kernel) (by decide +kernel)
set_option maxRecDepth 20000 in
theorem gX1_isOn_X1_failed : GoodIn wsX1_isOn (wsV RX1 104 RX1 yX1_failed wsX1_failed) := goodIn_app (goodIn_of _ (by decide +kernel)) ggX1_isOn_X1_failed
theorem dX1_isOn_0 : decode cX1_isOn 0 = .ok (.aload_n 0, 1) := by decide +kernel
theorem dX1_isOn_1 : decode cX1_isOn 1 = .ok (.iconst 0, 1) := by decide +kernel
theorem dX1_isOn_2 : decode cX1_isOn 2 = .ok (.putfield 47, 3) := by decide +kernel
theorem dX1_isOn_5 : decode cX1_isOn 5 = .ok (.aload_n 0, 1) := by decide +kernel
theorem dX1_isOn_6 : decode cX1_isOn 6 = .ok (.iload_n 1, 1) := by decide +kernel
theorem dX1_isOn_7 : decode cX1_isOn 7 = .ok (.invokevirtual 101, 3) := by decide +kernel
theorem dX1_isOn_10 : decode cX1_isOn 10 = .ok (.ifCond .eq 15, 3) := by decide +kernel
theorem dX1_isOn_13 : decode cX1_isOn 13 = .ok (.aload_n 0, 1) := by decide +kernel
theorem dX1_isOn_14 : decode cX1_isOn 14 = .ok (.iload_n 1, 1) := by decide +kernel
theorem dX1_isOn_15 : decode cX1_isOn 15 = .ok (.aload_n 0, 1) := by decide +kernel
theorem dX1_isOn_16 : decode cX1_isOn 16 = .ok (.getfield 122, 3) := by decide +kernel
theorem dX1_isOn_19 : decode cX1_isOn 19 = .ok (.invokevirtual 81, 3) := by decide +kernel
theorem dX1_isOn_22 : decode cX1_isOn 22 = .ok (.goto 8, 3) := by decide +kernel
theorem dX1_isOn_25 : decode cX1_isOn 25 = .ok (.aload_n 0, 1) := by decide +kernel
theorem dX1_isOn_26 : decode cX1_isOn 26 = .ok (.iconst 1, 1) := by decide +kernel
theorem dX1_isOn_27 : decode cX1_isOn 27 = .ok (.invokevirtual 104, 3) := by decide +kernel
theorem dX1_isOn_30 : decode cX1_isOn 30 = .ok (.ireturn, 1) := by decide +kernel
set_option maxRecDepth 20000 in
theorem ggX1_isExempt_X1_isOrder : GoodIn wsX1_isExempt wsX1_isOrder := goodIn_r _ [7, 8, 9, 10, 6, 11, 19, 20, 21, 22, 23, 24, 25, 26, 27, 28, 29, 30, 31, 32, 33, 34, 35, 36] (by decide +kernel) (by decide +kernel)
set_option maxRecDepth 20000 in
theorem gX1_isExempt_X1_isOrder : GoodIn wsX1_isExempt (wsV RX1 101 RX1 yX1_isOrder wsX1_isOrder) := goodIn_app (goodIn_of _ (by decide +kernel)) ggX1_isExempt_X1_isOrder
set_option maxRecDepth 20000 in
theorem ggX1_isExempt_X1_isTrade : GoodIn wsX1_isExempt wsX1_isTrade := goodIn_r _ [14, 9, 10, 6, 11] (by decide +kernel) (by decide +kernel)
set_option maxRecDepth 20000 in
theorem gX1_isExempt_X1_isTrade : GoodIn wsX1_isExempt (va_wsS RX1 91 yX1_isTrade wsX1_isTrade) := goodIn_app (goodIn_of _ (by decide +kernel)) ggX1_isExempt_X1_isTrade
set_option maxRecDepth 20000 in
theorem ggX1_isExempt_X1_failed : GoodIn wsX1_isExempt wsX1_failed := goodIn_r _ [18, 1, 19, 20, 21, 22, 23, 24, 25, 26, 27, 28, 29, 30, 31, 32, 33, 34, 35, 36] (by decide +kernel) (by decide +kernel)
set_option maxRecDepth 20000 in
theorem gX1_isExempt_X1_failed : GoodIn wsX1_isExempt (wsV RX1 104 RX1 yX1_failed wsX1_failed) := goodIn_app (goodIn_of _ (by decide +kernel)) ggX1_isExempt_X1_failed
theorem dX1_isExempt_0 : decode cX1_isExempt 0 = .ok (.aload_n 0, 1) := by decide +kernel
theorem dX1_isExempt_1 : decode cX1_isExempt 1 = .ok (.iconst 0, 1) := by decide +kernel
theorem dX1_isExempt_2 : decode cX1_isExempt 2 = .ok (.putfield 47, 3) := by decide +kernel
theorem dX1_isExempt_5 : decode cX1_isExempt 5 = .ok (.aload_n 0, 1) := by decide +kernel
theorem dX1_isExempt_6 : decode cX1_isExempt 6 = .ok (.iload_n 1, 1) := by decide +kernel
theorem dX1_isExempt_7 : decode cX1_isExempt 7 = .ok (.invokevirtual 101, 3) := by decide +kernel
theorem dX1_isExempt_10 : decode cX1_isExempt 10 = .ok (.ifCond .eq 32, 3) := by decide +kernel
theorem dX1_isExempt_13 : decode cX1_isExempt 13 = .ok (.iload_n 2, 1) := by decide +kernel
theorem dX1_isExempt_14 : decode cX1_isExempt 14 = .ok (.invokestatic 91, 3) := by decide +kernel
theorem dX1_isExempt_17 : decode cX1_isExempt 17 = .ok (.ifCond .eq 25, 3) := by decide +kernel
theorem dX1_isExempt_20 : decode cX1_isExempt 20 = .ok (.aload_n 0, 1) := by decide +kernel
theorem dX1_isExempt_21 : decode cX1_isExempt 21 = .ok (.getfield 22, 3) := by decide +kernel
theorem dX1_isExempt_24 : decode cX1_isExempt 24 = .ok (.iload_n 1, 1) := by decide +kernel
theorem dX1_isExempt_25 : decode cX1_isExempt 25 = .ok (.iaload, 1) := by decide +kernel
theorem dX1_isExempt_26 : decode cX1_isExempt 26 = .ok (.iload_n 2, 1) := by decide +kernel
theorem dX1_isExempt_27 : decode cX1_isExempt 27 = .ok (.ishr, 1) := by decide +kernel
theorem dX1_isExempt_28 : decode cX1_isExempt 28 = .ok (.iconst 1, 1) := by decide +kernel
theorem dX1_isExempt_29 : decode cX1_isExempt 29 = .ok (.iand, 1) := by decide +kernel
theorem dX1_isExempt_30 : decode cX1_isExempt 30 = .ok (.iconst 1, 1) := by decide +kernel
theorem dX1_isExempt_31 : decode cX1_isExempt 31 = .ok (.if_icmp .ne 7, 3) := by decide +kernel
theorem dX1_isExempt_34 : decode cX1_isExempt 34 = .ok (.iconst 1, 1) := by decide +kernel
theorem dX1_isExempt_35 : decode cX1_isExempt 35 = .ok (.goto 12, 3) := by decide +kernel
theorem dX1_isExempt_38 : decode cX1_isExempt 38 = .ok (.iconst 0, 1) := by decide +kernel
theorem dX1_isExempt_39 : decode cX1_isExempt 39 = .ok (.goto 8, 3) := by decide +kernel
theorem dX1_isExempt_42 : decode cX1_isExempt 42 = .ok (.aload_n 0, 1) := by decide +kernel
theorem dX1_isExempt_43 : decode cX1_isExempt 43 = .ok (.iconst 1, 1) := by decide +kernel
theorem dX1_isExempt_44 : decode cX1_isExempt 44 = .ok (.invokevirtual 104, 3) := by decide +kernel
theorem dX1_isExempt_47 : decode cX1_isExempt 47 = .ok (.ireturn, 1) := by decide +kernel
set_option maxRecDepth 20000 in
theorem ggX1_barred_X1_barsAt : GoodIn wsX1_barred wsX1_barsAt := goodIn_r _ [8, 2, 9, 10, 11, 12, 13, 7, 14, 15, 16, 17, 18, 19, 20, 21, 22, 23, 24, 25, 26, 27, 28, 29, 30, 31, 32, 33, 34, 35, 36, 37, 38, 39, 40, 41, 42, 43, 44, 45, 46, 47, 48, 49, 50] (by decide +kernel) (by decide +kernel)
set_option maxRecDepth 20000 in
theorem gX1_barred_X1_barsAt : GoodIn wsX1_barred (wsV RX1 84 RX1 yX1_barsAt wsX1_barsAt) := goodIn_app (goodIn_of _ (by decide +kernel)) ggX1_barred_X1_barsAt
theorem dX1_barred_0 : decode cX1_barred 0 = .ok (.iconst 0, 1) := by decide +kernel
theorem dX1_barred_1 : decode cX1_barred 1 = .ok (.istore_n 2, 1) := by decide +kernel
theorem dX1_barred_2 : decode cX1_barred 2 = .ok (.iconst 0, 1) := by decide +kernel
theorem dX1_barred_3 : decode cX1_barred 3 = .ok (.istore_n 3, 1) := by decide +kernel
theorem dX1_barred_4 : decode cX1_barred 4 = .ok (.iload_n 3, 1) := by decide +kernel
theorem dX1_barred_5 : decode cX1_barred 5 = .ok (.aload_n 0, 1) := by decide +kernel
theorem dX1_barred_6 : decode cX1_barred 6 = .ok (.getfield 61, 3) := by decide +kernel
theorem dX1_barred_9 : decode cX1_barred 9 = .ok (.if_icmp .ge 36, 3) := by decide +kernel
theorem dX1_barred_12 : decode cX1_barred 12 = .ok (.iload_n 2, 1) := by decide +kernel
theorem dX1_barred_13 : decode cX1_barred 13 = .ok (.aload_n 0, 1) := by decide +kernel
theorem dX1_barred_14 : decode cX1_barred 14 = .ok (.iload_n 1, 1) := by decide +kernel
theorem dX1_barred_15 : decode cX1_barred 15 = .ok (.iload_n 3, 1) := by decide +kernel
theorem dX1_barred_16 : decode cX1_barred 16 = .ok (.aload_n 0, 1) := by decide +kernel
theorem dX1_barred_17 : decode cX1_barred 17 = .ok (.getfield 9, 3) := by decide +kernel
theorem dX1_barred_20 : decode cX1_barred 20 = .ok (.iload_n 1, 1) := by decide +kernel
theorem dX1_barred_21 : decode cX1_barred 21 = .ok (.iaload, 1) := by decide +kernel
theorem dX1_barred_22 : decode cX1_barred 22 = .ok (.aload_n 0, 1) := by decide +kernel
theorem dX1_barred_23 : decode cX1_barred 23 = .ok (.getfield 122, 3) := by decide +kernel
theorem dX1_barred_26 : decode cX1_barred 26 = .ok (.invokevirtual 84, 3) := by decide +kernel
theorem dX1_barred_29 : decode cX1_barred 29 = .ok (.ifCond .eq 7, 3) := by decide +kernel
theorem dX1_barred_32 : decode cX1_barred 32 = .ok (.iconst 1, 1) := by decide +kernel
theorem dX1_barred_33 : decode cX1_barred 33 = .ok (.goto 4, 3) := by decide +kernel
theorem dX1_barred_36 : decode cX1_barred 36 = .ok (.iconst 0, 1) := by decide +kernel
theorem dX1_barred_37 : decode cX1_barred 37 = .ok (.iadd, 1) := by decide +kernel
theorem dX1_barred_38 : decode cX1_barred 38 = .ok (.istore_n 2, 1) := by decide +kernel
theorem dX1_barred_39 : decode cX1_barred 39 = .ok (.iinc 3 1, 3) := by decide +kernel
theorem dX1_barred_42 : decode cX1_barred 42 = .ok (.goto (-38), 3) := by decide +kernel
theorem dX1_barred_45 : decode cX1_barred 45 = .ok (.iload_n 2, 1) := by decide +kernel
theorem dX1_barred_46 : decode cX1_barred 46 = .ok (.ireturn, 1) := by decide +kernel
set_option maxRecDepth 20000 in
theorem ggX1_barredBy_X1_isOrder : GoodIn wsX1_barredBy wsX1_isOrder := goodIn_r _ [6, 7, 8, 9, 5, 10, 50, 51, 52, 53, 54, 55, 56, 57, 58, 59, 60, 61, 62, 63, 64, 65, 66, 67] (by decide +kernel) (by decide +kernel)
set_option maxRecDepth 20000 in
theorem gX1_barredBy_X1_isOrder : GoodIn wsX1_barredBy (wsV RX1 101 RX1 yX1_isOrder wsX1_isOrder) := goodIn_app (goodIn_of _ (by decide +kernel)) ggX1_barredBy_X1_isOrder
set_option maxRecDepth 20000 in
theorem ggX1_barredBy_X1_barred : GoodIn wsX1_barredBy wsX1_barred := goodIn_r _ [14, 15, 16, 17, 18, 19, 20, 5, 21, 22, 23, 24, 25, 26, 27, 28, 29, 30, 31, 32, 33, 34, 35, 36, 37, 38, 39, 40, 41, 42, 43, 44, 45, 50, 51, 52, 53, 54, 55, 56, 57, 58, 59, 60, 61, 62, 63, 64, 65, 66, 67] (by decide +kernel) (by decide +kernel)
set_option maxRecDepth 20000 in
theorem gX1_barredBy_X1_barred : GoodIn wsX1_barredBy (wsV RX1 125 RX1 yX1_barred wsX1_barred) := goodIn_app (goodIn_of _ (by decide +kernel)) ggX1_barredBy_X1_barred
set_option maxRecDepth 20000 in
theorem ggX1_barredBy_X1_fail : GoodIn wsX1_barredBy wsX1_fail := goodIn_r _ [49, 1, 50, 51, 52, 53, 54, 55, 56, 57, 58, 59, 60, 61, 62, 63, 64, 65, 66, 67] (by decide +kernel) (by decide +kernel)
set_option maxRecDepth 20000 in
theorem gX1_barredBy_X1_fail : GoodIn wsX1_barredBy (wsV RX1 88 RX1 yX1_fail wsX1_fail) := goodIn_app (goodIn_of _ (by decide +kernel)) ggX1_barredBy_X1_fail
theorem dX1_barredBy_0 : decode cX1_barredBy 0 = .ok (.aload_n 0, 1) := by decide +kernel
theorem dX1_barredBy_1 : decode cX1_barredBy 1 = .ok (.iconst 0, 1) := by decide +kernel
theorem dX1_barredBy_2 : decode cX1_barredBy 2 = .ok (.putfield 47, 3) := by decide +kernel
theorem dX1_barredBy_5 : decode cX1_barredBy 5 = .ok (.aload_n 0, 1) := by decide +kernel
theorem dX1_barredBy_6 : decode cX1_barredBy 6 = .ok (.iload_n 1, 1) := by decide +kernel
theorem dX1_barredBy_7 : decode cX1_barredBy 7 = .ok (.invokevirtual 101, 3) := by decide +kernel
theorem dX1_barredBy_10 : decode cX1_barredBy 10 = .ok (.ifCond .eq 11, 3) := by decide +kernel
theorem dX1_barredBy_13 : decode cX1_barredBy 13 = .ok (.aload_n 0, 1) := by decide +kernel
theorem dX1_barredBy_14 : decode cX1_barredBy 14 = .ok (.iload_n 1, 1) := by decide +kernel
theorem dX1_barredBy_15 : decode cX1_barredBy 15 = .ok (.invokevirtual 125, 3) := by decide +kernel
theorem dX1_barredBy_18 : decode cX1_barredBy 18 = .ok (.goto 8, 3) := by decide +kernel
theorem dX1_barredBy_21 : decode cX1_barredBy 21 = .ok (.aload_n 0, 1) := by decide +kernel
theorem dX1_barredBy_22 : decode cX1_barredBy 22 = .ok (.iconst 1, 1) := by decide +kernel
theorem dX1_barredBy_23 : decode cX1_barredBy 23 = .ok (.invokevirtual 88, 3) := by decide +kernel
theorem dX1_barredBy_26 : decode cX1_barredBy 26 = .ok (.ireturn, 1) := by decide +kernel
set_option maxRecDepth 20000 in
theorem ggX1_tradeOf_X1_isPerson : GoodIn wsX1_tradeOf wsX1_isPerson := goodIn_r _ [7, 8, 9, 10, 6, 11, 16, 17, 18, 19, 20, 21, 22, 23, 24, 25, 26, 27, 28, 29, 30, 31, 32, 33] (by decide +kernel) (by decide +kernel)
set_option maxRecDepth 20000 in
theorem gX1_tradeOf_X1_isPerson : GoodIn wsX1_tradeOf (wsV RX1 107 RX1 yX1_isPerson wsX1_isPerson) := goodIn_app (goodIn_of _ (by decide +kernel)) ggX1_tradeOf_X1_isPerson
set_option maxRecDepth 20000 in
theorem ggX1_tradeOf_X1_fail : GoodIn wsX1_tradeOf wsX1_fail := goodIn_r _ [15, 1, 16, 17, 18, 19, 20, 21, 22, 23, 24, 25, 26, 27, 28, 29, 30, 31, 32, 33] (by decide +kernel) (by decide +kernel)
set_option maxRecDepth 20000 in
theorem gX1_tradeOf_X1_fail : GoodIn wsX1_tradeOf (wsV RX1 88 RX1 yX1_fail wsX1_fail) := goodIn_app (goodIn_of _ (by decide +kernel)) ggX1_tradeOf_X1_fail
theorem dX1_tradeOf_0 : decode cX1_tradeOf 0 = .ok (.aload_n 0, 1) := by decide +kernel
theorem dX1_tradeOf_1 : decode cX1_tradeOf 1 = .ok (.iconst 0, 1) := by decide +kernel
theorem dX1_tradeOf_2 : decode cX1_tradeOf 2 = .ok (.putfield 47, 3) := by decide +kernel
theorem dX1_tradeOf_5 : decode cX1_tradeOf 5 = .ok (.aload_n 0, 1) := by decide +kernel
theorem dX1_tradeOf_6 : decode cX1_tradeOf 6 = .ok (.iload_n 1, 1) := by decide +kernel
theorem dX1_tradeOf_7 : decode cX1_tradeOf 7 = .ok (.invokevirtual 107, 3) := by decide +kernel
theorem dX1_tradeOf_10 : decode cX1_tradeOf 10 = .ok (.ifCond .eq 12, 3) := by decide +kernel
theorem dX1_tradeOf_13 : decode cX1_tradeOf 13 = .ok (.aload_n 0, 1) := by decide +kernel
theorem dX1_tradeOf_14 : decode cX1_tradeOf 14 = .ok (.getfield 29, 3) := by decide +kernel
theorem dX1_tradeOf_17 : decode cX1_tradeOf 17 = .ok (.iload_n 1, 1) := by decide +kernel
theorem dX1_tradeOf_18 : decode cX1_tradeOf 18 = .ok (.iaload, 1) := by decide +kernel
theorem dX1_tradeOf_19 : decode cX1_tradeOf 19 = .ok (.goto 8, 3) := by decide +kernel
theorem dX1_tradeOf_22 : decode cX1_tradeOf 22 = .ok (.aload_n 0, 1) := by decide +kernel
theorem dX1_tradeOf_23 : decode cX1_tradeOf 23 = .ok (.iconst 1, 1) := by decide +kernel
theorem dX1_tradeOf_24 : decode cX1_tradeOf 24 = .ok (.invokevirtual 88, 3) := by decide +kernel
theorem dX1_tradeOf_27 : decode cX1_tradeOf 27 = .ok (.ireturn, 1) := by decide +kernel
set_option maxRecDepth 20000 in
theorem ggX1_stampsOf_X1_isPass : GoodIn wsX1_stampsOf wsX1_isPass := goodIn_r _ [6, 7, 8, 9, 10, 5, 11, 12, 13, 14, 15, 16, 17, 18, 19, 20, 21, 22, 23, 24, 25, 26, 27, 28, 29, 30, 31, 32, 33, 34, 35, 36] (by decide +kernel) (by decide +kernel)
set_option maxRecDepth 20000 in
theorem gX1_stampsOf_X1_isPass : GoodIn wsX1_stampsOf (wsV RX1 110 RX1 yX1_isPass wsX1_isPass) := goodIn_app (goodIn_of _ (by decide +kernel)) ggX1_stampsOf_X1_isPass
theorem dX1_stampsOf_0 : decode cX1_stampsOf 0 = .ok (.aload_n 0, 1) := by decide +kernel
theorem dX1_stampsOf_1 : decode cX1_stampsOf 1 = .ok (.iload_n 1, 1) := by decide +kernel
theorem dX1_stampsOf_2 : decode cX1_stampsOf 2 = .ok (.iload_n 2, 1) := by decide +kernel
theorem dX1_stampsOf_3 : decode cX1_stampsOf 3 = .ok (.invokevirtual 110, 3) := by decide +kernel
theorem dX1_stampsOf_6 : decode cX1_stampsOf 6 = .ok (.ifCond .eq 16, 3) := by decide +kernel
theorem dX1_stampsOf_9 : decode cX1_stampsOf 9 = .ok (.aload_n 0, 1) := by decide +kernel
theorem dX1_stampsOf_10 : decode cX1_stampsOf 10 = .ok (.getfield 38, 3) := by decide +kernel
theorem dX1_stampsOf_13 : decode cX1_stampsOf 13 = .ok (.iconst 4, 1) := by decide +kernel
theorem dX1_stampsOf_14 : decode cX1_stampsOf 14 = .ok (.iload_n 1, 1) := by decide +kernel
theorem dX1_stampsOf_15 : decode cX1_stampsOf 15 = .ok (.imul, 1) := by decide +kernel
theorem dX1_stampsOf_16 : decode cX1_stampsOf 16 = .ok (.iload_n 2, 1) := by decide +kernel
theorem dX1_stampsOf_17 : decode cX1_stampsOf 17 = .ok (.iadd, 1) := by decide +kernel
theorem dX1_stampsOf_18 : decode cX1_stampsOf 18 = .ok (.iaload, 1) := by decide +kernel
theorem dX1_stampsOf_19 : decode cX1_stampsOf 19 = .ok (.goto 4, 3) := by decide +kernel
theorem dX1_stampsOf_22 : decode cX1_stampsOf 22 = .ok (.iconst 0, 1) := by decide +kernel
theorem dX1_stampsOf_23 : decode cX1_stampsOf 23 = .ok (.ireturn, 1) := by decide +kernel
set_option maxRecDepth 20000 in
theorem ggX1_owes_X1_isPerson : GoodIn wsX1_owes wsX1_isPerson := goodIn_r _ [7, 8, 9, 10, 6, 11, 16, 17, 18, 19, 20, 21, 22, 23, 24, 25, 26, 27, 28, 29, 30, 31, 32, 33] (by decide +kernel) (by decide +kernel)
set_option maxRecDepth 20000 in
theorem gX1_owes_X1_isPerson : GoodIn wsX1_owes (wsV RX1 107 RX1 yX1_isPerson wsX1_isPerson) := goodIn_app (goodIn_of _ (by decide +kernel)) ggX1_owes_X1_isPerson
set_option maxRecDepth 20000 in
theorem ggX1_owes_X1_fail : GoodIn wsX1_owes wsX1_fail := goodIn_r _ [15, 1, 16, 17, 18, 19, 20, 21, 22, 23, 24, 25, 26, 27, 28, 29, 30, 31, 32, 33] (by decide +kernel) (by decide +kernel)
set_option maxRecDepth 20000 in
theorem gX1_owes_X1_fail : GoodIn wsX1_owes (wsV RX1 88 RX1 yX1_fail wsX1_fail) := goodIn_app (goodIn_of _ (by decide +kernel)) ggX1_owes_X1_fail
theorem dX1_owes_0 : decode cX1_owes 0 = .ok (.aload_n 0, 1) := by decide +kernel
theorem dX1_owes_1 : decode cX1_owes 1 = .ok (.iconst 0, 1) := by decide +kernel
theorem dX1_owes_2 : decode cX1_owes 2 = .ok (.putfield 47, 3) := by decide +kernel
theorem dX1_owes_5 : decode cX1_owes 5 = .ok (.aload_n 0, 1) := by decide +kernel
theorem dX1_owes_6 : decode cX1_owes 6 = .ok (.iload_n 1, 1) := by decide +kernel
theorem dX1_owes_7 : decode cX1_owes 7 = .ok (.invokevirtual 107, 3) := by decide +kernel
theorem dX1_owes_10 : decode cX1_owes 10 = .ok (.ifCond .eq 12, 3) := by decide +kernel
theorem dX1_owes_13 : decode cX1_owes 13 = .ok (.aload_n 0, 1) := by decide +kernel
theorem dX1_owes_14 : decode cX1_owes 14 = .ok (.getfield 35, 3) := by decide +kernel
theorem dX1_owes_17 : decode cX1_owes 17 = .ok (.iload_n 1, 1) := by decide +kernel
theorem dX1_owes_18 : decode cX1_owes 18 = .ok (.iaload, 1) := by decide +kernel
theorem dX1_owes_19 : decode cX1_owes 19 = .ok (.goto 8, 3) := by decide +kernel
theorem dX1_owes_22 : decode cX1_owes 22 = .ok (.aload_n 0, 1) := by decide +kernel
theorem dX1_owes_23 : decode cX1_owes 23 = .ok (.iconst 1, 1) := by decide +kernel
theorem dX1_owes_24 : decode cX1_owes 24 = .ok (.invokevirtual 88, 3) := by decide +kernel
theorem dX1_owes_27 : decode cX1_owes 27 = .ok (.ireturn, 1) := by decide +kernel
set_option maxRecDepth 20000 in
theorem ggX1_timesFined_X1_isPerson : GoodIn wsX1_timesFined wsX1_isPerson := goodIn_r _ [7, 8, 9, 10, 6, 11, 16, 17, 18, 19, 20, 21, 22, 23, 24, 25, 26, 27, 28, 29, 30, 31, 32, 33] (by decide +kernel) (by decide +kernel)
set_option maxRecDepth 20000 in
theorem gX1_timesFined_X1_isPerson : GoodIn wsX1_timesFined (wsV RX1 107 RX1 yX1_isPerson wsX1_isPerson) := goodIn_app (goodIn_of _ (by decide +kernel)) ggX1_timesFined_X1_isPerson
set_option maxRecDepth 20000 in
theorem ggX1_timesFined_X1_fail : GoodIn wsX1_timesFined wsX1_fail := goodIn_r _ [15, 1, 16, 17, 18, 19, 20, 21, 22, 23, 24, 25, 26, 27, 28, 29, 30, 31, 32, 33] (by decide +kernel) (by decide +kernel)
set_option maxRecDepth 20000 in
theorem gX1_timesFined_X1_fail : GoodIn wsX1_timesFined (wsV RX1 88 RX1 yX1_fail wsX1_fail) := goodIn_app (goodIn_of _ (by decide +kernel)) ggX1_timesFined_X1_fail
theorem dX1_timesFined_0 : decode cX1_timesFined 0 = .ok (.aload_n 0, 1) := by decide +kernel
theorem dX1_timesFined_1 : decode cX1_timesFined 1 = .ok (.iconst 0, 1) := by decide +kernel
theorem dX1_timesFined_2 : decode cX1_timesFined 2 = .ok (.putfield 47, 3) := by decide +kernel
theorem dX1_timesFined_5 : decode cX1_timesFined 5 = .ok (.aload_n 0, 1) := by decide +kernel
theorem dX1_timesFined_6 : decode cX1_timesFined 6 = .ok (.iload_n 1, 1) := by decide +kernel
theorem dX1_timesFined_7 : decode cX1_timesFined 7 = .ok (.invokevirtual 107, 3) := by decide +kernel
theorem dX1_timesFined_10 : decode cX1_timesFined 10 = .ok (.ifCond .eq 12, 3) := by decide +kernel
theorem dX1_timesFined_13 : decode cX1_timesFined 13 = .ok (.aload_n 0, 1) := by decide +kernel
theorem dX1_timesFined_14 : decode cX1_timesFined 14 = .ok (.getfield 32, 3) := by decide +kernel
theorem dX1_timesFined_17 : decode cX1_timesFined 17 = .ok (.iload_n 1, 1) := by decide +kernel
theorem dX1_timesFined_18 : decode cX1_timesFined 18 = .ok (.iaload, 1) := by decide +kernel
theorem dX1_timesFined_19 : decode cX1_timesFined 19 = .ok (.goto 8, 3) := by decide +kernel
theorem dX1_timesFined_22 : decode cX1_timesFined 22 = .ok (.aload_n 0, 1) := by decide +kernel
theorem dX1_timesFined_23 : decode cX1_timesFined 23 = .ok (.iconst 1, 1) := by decide +kernel
theorem dX1_timesFined_24 : decode cX1_timesFined 24 = .ok (.invokevirtual 88, 3) := by decide +kernel
theorem dX1_timesFined_27 : decode cX1_timesFined 27 = .ok (.ireturn, 1) := by decide +kernel
set_option maxRecDepth 20000 in
theorem ggX1_ordersAgainst_X1_isPair : GoodIn wsX1_ordersAgainst wsX1_isPair := goodIn_r _ [6, 7, 8, 9, 10, 5, 11, 12, 13, 14, 15, 16, 17, 18, 19, 20, 55, 56, 57, 58, 59, 60, 61, 62, 63, 64, 65, 66, 67, 68, 69, 70, 71, 72] (by decide +kernel) (by decide +kernel)
set_option maxRecDepth 20000 in
theorem gX1_ordersAgainst_X1_isPair : GoodIn wsX1_ordersAgainst (wsV RX1 119 RX1 yX1_isPair wsX1_isPair) := goodIn_app (goodIn_of _ (by decide +kernel)) ggX1_ordersAgainst_X1_isPair
set_option maxRecDepth 20000 in
theorem ggX1_ordersAgainst_X1_against : GoodIn wsX1_ordersAgainst wsX1_against := goodIn_r _ [24, 25, 26, 27, 28, 5, 29, 30, 31, 32, 33, 34, 35, 36, 37, 38, 39, 40, 41, 42, 43, 44, 45, 46, 47, 48, 49, 50, 51, 52, 53, 54, 55, 56, 57, 58, 59, 60, 61, 62, 63, 64, 65, 66, 67, 68, 69, 70, 71, 72] (by decide +kernel) (by decide +kernel)
set_option maxRecDepth 20000 in
theorem gX1_ordersAgainst_X1_against : GoodIn wsX1_ordersAgainst (wsV RX1 128 RX1 yX1_against wsX1_against) := goodIn_app (goodIn_of _ (by decide +kernel)) ggX1_ordersAgainst_X1_against
theorem dX1_ordersAgainst_0 : decode cX1_ordersAgainst 0 = .ok (.aload_n 0, 1) := by decide +kernel
theorem dX1_ordersAgainst_1 : decode cX1_ordersAgainst 1 = .ok (.iload_n 1, 1) := by decide +kernel
theorem dX1_ordersAgainst_2 : decode cX1_ordersAgainst 2 = .ok (.iload_n 2, 1) := by decide +kernel
theorem dX1_ordersAgainst_3 : decode cX1_ordersAgainst 3 = .ok (.invokevirtual 119, 3) := by decide +kernel
theorem dX1_ordersAgainst_6 : decode cX1_ordersAgainst 6 = .ok (.ifCond .eq 16, 3) := by decide +kernel
theorem dX1_ordersAgainst_9 : decode cX1_ordersAgainst 9 = .ok (.aload_n 0, 1) := by decide +kernel
theorem dX1_ordersAgainst_10 : decode cX1_ordersAgainst 10 = .ok (.iload_n 1, 1) := by decide +kernel
theorem dX1_ordersAgainst_11 : decode cX1_ordersAgainst 11 = .ok (.iload_n 2, 1) := by decide +kernel
theorem dX1_ordersAgainst_12 : decode cX1_ordersAgainst 12 = .ok (.aload_n 0, 1) := by decide +kernel
theorem dX1_ordersAgainst_13 : decode cX1_ordersAgainst 13 = .ok (.getfield 122, 3) := by decide +kernel
theorem dX1_ordersAgainst_16 : decode cX1_ordersAgainst 16 = .ok (.invokevirtual 128, 3) := by decide +kernel
theorem dX1_ordersAgainst_19 : decode cX1_ordersAgainst 19 = .ok (.goto 4, 3) := by decide +kernel
theorem dX1_ordersAgainst_22 : decode cX1_ordersAgainst 22 = .ok (.iconst 0, 1) := by decide +kernel
theorem dX1_ordersAgainst_23 : decode cX1_ordersAgainst 23 = .ok (.ireturn, 1) := by decide +kernel
set_option maxRecDepth 20000 in
theorem ggX1_missing_X1_barsAt : GoodIn wsX1_missing wsX1_barsAt := goodIn_r _ [14, 15, 16, 17, 18, 19, 20, 13, 21, 22, 23, 24, 25, 26, 27, 28, 29, 30, 31, 32, 33, 34, 35, 36, 37, 38, 39, 40, 41, 42, 43, 44, 45, 46, 47, 48, 49, 50, 51, 52, 53, 54, 55, 56, 57] (by decide +kernel) (by decide +kernel)
set_option maxRecDepth 20000 in
theorem gX1_missing_X1_barsAt : GoodIn wsX1_missing (wsV RX1 84 RX1 yX1_barsAt wsX1_barsAt) := goodIn_app (goodIn_of _ (by decide +kernel)) ggX1_missing_X1_barsAt
theorem dX1_missing_0 : decode cX1_missing 0 = .ok (.iconst 0, 1) := by decide +kernel
theorem dX1_missing_1 : decode cX1_missing 1 = .ok (.istore_n 3, 1) := by decide +kernel
theorem dX1_missing_2 : decode cX1_missing 2 = .ok (.iload_n 3, 1) := by decide +kernel
theorem dX1_missing_3 : decode cX1_missing 3 = .ok (.iconst 4, 1) := by decide +kernel
theorem dX1_missing_4 : decode cX1_missing 4 = .ok (.if_icmp .ge 26, 3) := by decide +kernel
theorem dX1_missing_7 : decode cX1_missing 7 = .ok (.aload_n 0, 1) := by decide +kernel
theorem dX1_missing_8 : decode cX1_missing 8 = .ok (.getfield 44, 3) := by decide +kernel
theorem dX1_missing_11 : decode cX1_missing 11 = .ok (.iload_n 3, 1) := by decide +kernel
theorem dX1_missing_12 : decode cX1_missing 12 = .ok (.aload_n 0, 1) := by decide +kernel
theorem dX1_missing_13 : decode cX1_missing 13 = .ok (.getfield 38, 3) := by decide +kernel
theorem dX1_missing_16 : decode cX1_missing 16 = .ok (.iconst 4, 1) := by decide +kernel
theorem dX1_missing_17 : decode cX1_missing 17 = .ok (.iload_n 1, 1) := by decide +kernel
theorem dX1_missing_18 : decode cX1_missing 18 = .ok (.imul, 1) := by decide +kernel
theorem dX1_missing_19 : decode cX1_missing 19 = .ok (.iload_n 3, 1) := by decide +kernel
theorem dX1_missing_20 : decode cX1_missing 20 = .ok (.iadd, 1) := by decide +kernel
theorem dX1_missing_21 : decode cX1_missing 21 = .ok (.iaload, 1) := by decide +kernel
theorem dX1_missing_22 : decode cX1_missing 22 = .ok (.ineg, 1) := by decide +kernel
theorem dX1_missing_23 : decode cX1_missing 23 = .ok (.iastore, 1) := by decide +kernel
theorem dX1_missing_24 : decode cX1_missing 24 = .ok (.iinc 3 1, 3) := by decide +kernel
theorem dX1_missing_27 : decode cX1_missing 27 = .ok (.goto (-25), 3) := by decide +kernel
theorem dX1_missing_30 : decode cX1_missing 30 = .ok (.iconst 0, 1) := by decide +kernel
theorem dX1_missing_31 : decode cX1_missing 31 = .ok (.istore_n 3, 1) := by decide +kernel
theorem dX1_missing_32 : decode cX1_missing 32 = .ok (.iload_n 3, 1) := by decide +kernel
theorem dX1_missing_33 : decode cX1_missing 33 = .ok (.aload_n 0, 1) := by decide +kernel
theorem dX1_missing_34 : decode cX1_missing 34 = .ok (.getfield 58, 3) := by decide +kernel
theorem dX1_missing_37 : decode cX1_missing 37 = .ok (.if_icmp .ge 38, 3) := by decide +kernel
theorem dX1_missing_40 : decode cX1_missing 40 = .ok (.aload_n 0, 1) := by decide +kernel
theorem dX1_missing_41 : decode cX1_missing 41 = .ok (.iload_n 3, 1) := by decide +kernel
theorem dX1_missing_42 : decode cX1_missing 42 = .ok (.iload_n 1, 1) := by decide +kernel
theorem dX1_missing_43 : decode cX1_missing 43 = .ok (.iload_n 2, 1) := by decide +kernel
theorem dX1_missing_44 : decode cX1_missing 44 = .ok (.aload_n 0, 1) := by decide +kernel
theorem dX1_missing_45 : decode cX1_missing 45 = .ok (.getfield 122, 3) := by decide +kernel
theorem dX1_missing_48 : decode cX1_missing 48 = .ok (.invokevirtual 84, 3) := by decide +kernel
theorem dX1_missing_51 : decode cX1_missing 51 = .ok (.ifCond .eq 18, 3) := by decide +kernel
theorem dX1_missing_54 : decode cX1_missing 54 = .ok (.aload_n 0, 1) := by decide +kernel
theorem dX1_missing_55 : decode cX1_missing 55 = .ok (.getfield 44, 3) := by decide +kernel
theorem dX1_missing_58 : decode cX1_missing 58 = .ok (.aload_n 0, 1) := by decide +kernel
theorem dX1_missing_59 : decode cX1_missing 59 = .ok (.getfield 19, 3) := by decide +kernel
theorem dX1_missing_62 : decode cX1_missing 62 = .ok (.iload_n 3, 1) := by decide +kernel
theorem dX1_missing_63 : decode cX1_missing 63 = .ok (.iaload, 1) := by decide +kernel
theorem dX1_missing_64 : decode cX1_missing 64 = .ok (.dup2, 1) := by decide +kernel
theorem dX1_missing_65 : decode cX1_missing 65 = .ok (.iaload, 1) := by decide +kernel
theorem dX1_missing_66 : decode cX1_missing 66 = .ok (.iconst 1, 1) := by decide +kernel
theorem dX1_missing_67 : decode cX1_missing 67 = .ok (.iadd, 1) := by decide +kernel
theorem dX1_missing_68 : decode cX1_missing 68 = .ok (.iastore, 1) := by decide +kernel
theorem dX1_missing_69 : decode cX1_missing 69 = .ok (.iinc 3 1, 3) := by decide +kernel
theorem dX1_missing_72 : decode cX1_missing 72 = .ok (.goto (-40), 3) := by decide +kernel
theorem dX1_missing_75 : decode cX1_missing 75 = .ok (.iconst 0, 1) := by decide +kernel
theorem dX1_missing_76 : decode cX1_missing 76 = .ok (.istore_n 3, 1) := by decide +kernel
theorem dX1_missing_77 : decode cX1_missing 77 = .ok (.iconst 0, 1) := by decide +kernel
theorem dX1_missing_78 : decode cX1_missing 78 = .ok (.istore 4, 2) := by decide +kernel
theorem dX1_missing_80 : decode cX1_missing 80 = .ok (.iload 4, 2) := by decide +kernel
theorem dX1_missing_82 : decode cX1_missing 82 = .ok (.iconst 4, 1) := by decide +kernel
theorem dX1_missing_83 : decode cX1_missing 83 = .ok (.if_icmp .ge 23, 3) := by decide +kernel
theorem dX1_missing_86 : decode cX1_missing 86 = .ok (.iload_n 3, 1) := by decide +kernel
theorem dX1_missing_87 : decode cX1_missing 87 = .ok (.iconst 0, 1) := by decide +kernel
theorem dX1_missing_88 : decode cX1_missing 88 = .ok (.aload_n 0, 1) := by decide +kernel
theorem dX1_missing_89 : decode cX1_missing 89 = .ok (.getfield 44, 3) := by decide +kernel
theorem dX1_missing_92 : decode cX1_missing 92 = .ok (.iload 4, 2) := by decide +kernel
theorem dX1_missing_94 : decode cX1_missing 94 = .ok (.iaload, 1) := by decide +kernel
theorem dX1_missing_95 : decode cX1_missing 95 = .ok (.invokestatic 132, 3) := by decide +kernel
theorem dX1_missing_98 : decode cX1_missing 98 = .ok (.iadd, 1) := by decide +kernel
theorem dX1_missing_99 : decode cX1_missing 99 = .ok (.istore_n 3, 1) := by decide +kernel
theorem dX1_missing_100 : decode cX1_missing 100 = .ok (.iinc 4 1, 3) := by decide +kernel
theorem dX1_missing_103 : decode cX1_missing 103 = .ok (.goto (-23), 3) := by decide +kernel
theorem dX1_missing_106 : decode cX1_missing 106 = .ok (.iload_n 3, 1) := by decide +kernel
theorem dX1_missing_107 : decode cX1_missing 107 = .ok (.ireturn, 1) := by decide +kernel
set_option maxRecDepth 20000 in
theorem ggX1_mayGo_X1_isPair : GoodIn wsX1_mayGo wsX1_isPair := goodIn_r _ [5, 6, 7, 8, 9, 4, 10, 11, 12, 13, 14, 15, 16, 17, 18, 19, 62, 63, 64, 65, 66, 67, 68, 69, 70, 71, 72, 73, 74, 75, 76, 77, 78, 79] (by decide +kernel) (by decide +kernel)
set_option maxRecDepth 20000 in
theorem gX1_mayGo_X1_isPair : GoodIn wsX1_mayGo (wsV RX1 119 RX1 yX1_isPair wsX1_isPair) := goodIn_app (goodIn_of _ (by decide +kernel)) ggX1_mayGo_X1_isPair
set_option maxRecDepth 20000 in
theorem ggX1_mayGo_X1_missing : GoodIn wsX1_mayGo wsX1_missing := goodIn_r _ [23, 24, 25, 26, 27, 28, 29, 30, 31, 32, 33, 34, 35, 4, 36, 37, 38, 39, 40, 41, 42, 43, 44, 45, 46, 47, 48, 49, 50, 51, 52, 53, 54, 55, 56, 57, 58, 59, 60, 61, 62, 63, 64, 65, 66, 67, 68, 69, 70, 71, 72, 73, 74, 75, 76, 77, 78, 79] (by decide +kernel) (by decide +kernel)
set_option maxRecDepth 20000 in
theorem gX1_mayGo_X1_missing : GoodIn wsX1_mayGo (wsV RX1 135 RX1 yX1_missing wsX1_missing) := goodIn_app (goodIn_of _ (by decide +kernel)) ggX1_mayGo_X1_missing
theorem dX1_mayGo_0 : decode cX1_mayGo 0 = .ok (.aload_n 0, 1) := by decide +kernel
theorem dX1_mayGo_1 : decode cX1_mayGo 1 = .ok (.iload_n 1, 1) := by decide +kernel
theorem dX1_mayGo_2 : decode cX1_mayGo 2 = .ok (.iload_n 2, 1) := by decide +kernel
theorem dX1_mayGo_3 : decode cX1_mayGo 3 = .ok (.invokevirtual 119, 3) := by decide +kernel
theorem dX1_mayGo_6 : decode cX1_mayGo 6 = .ok (.ifCond .eq 16, 3) := by decide +kernel
theorem dX1_mayGo_9 : decode cX1_mayGo 9 = .ok (.aload_n 0, 1) := by decide +kernel
theorem dX1_mayGo_10 : decode cX1_mayGo 10 = .ok (.iload_n 1, 1) := by decide +kernel
theorem dX1_mayGo_11 : decode cX1_mayGo 11 = .ok (.iload_n 2, 1) := by decide +kernel
theorem dX1_mayGo_12 : decode cX1_mayGo 12 = .ok (.invokevirtual 135, 3) := by decide +kernel
theorem dX1_mayGo_15 : decode cX1_mayGo 15 = .ok (.ifCond .ne 7, 3) := by decide +kernel
theorem dX1_mayGo_18 : decode cX1_mayGo 18 = .ok (.iconst 1, 1) := by decide +kernel
theorem dX1_mayGo_19 : decode cX1_mayGo 19 = .ok (.goto 4, 3) := by decide +kernel
theorem dX1_mayGo_22 : decode cX1_mayGo 22 = .ok (.iconst 0, 1) := by decide +kernel
theorem dX1_mayGo_23 : decode cX1_mayGo 23 = .ok (.ireturn, 1) := by decide +kernel
set_option maxRecDepth 20000 in
theorem ggX1_stampsMissing_X1_isPair : GoodIn wsX1_stampsMissing wsX1_isPair := goodIn_r _ [5, 6, 7, 8, 9, 4, 10, 11, 12, 13, 14, 15, 16, 17, 18, 19, 62, 63, 64, 65, 66, 67, 68, 69, 70, 71, 72, 73, 74, 75, 76, 77, 78, 79] (by decide +kernel) (by decide +kernel)
set_option maxRecDepth 20000 in
theorem gX1_stampsMissing_X1_isPair : GoodIn wsX1_stampsMissing (wsV RX1 119 RX1 yX1_isPair wsX1_isPair) := goodIn_app (goodIn_of _ (by decide +kernel)) ggX1_stampsMissing_X1_isPair
set_option maxRecDepth 20000 in
theorem ggX1_stampsMissing_X1_missing : GoodIn wsX1_stampsMissing wsX1_missing := goodIn_r _ [23, 24, 25, 26, 27, 28, 29, 30, 31, 32, 33, 34, 35, 4, 36, 37, 38, 39, 40, 41, 42, 43, 44, 45, 46, 47, 48, 49, 50, 51, 52, 53, 54, 55, 56, 57, 58, 59, 60, 61, 62, 63, 64, 65, 66, 67, 68, 69, 70, 71, 72, 73, 74, 75, 76, 77, 78, 79] (by decide +kernel) (by decide +kernel)
set_option maxRecDepth 20000 in
theorem gX1_stampsMissing_X1_missing : GoodIn wsX1_stampsMissing (wsV RX1 135 RX1 yX1_missing wsX1_missing) := goodIn_app (goodIn_of _ (by decide +kernel)) ggX1_stampsMissing_X1_missing
theorem dX1_stampsMissing_0 : decode cX1_stampsMissing 0 = .ok (.aload_n 0, 1) := by decide +kernel
theorem dX1_stampsMissing_1 : decode cX1_stampsMissing 1 = .ok (.iload_n 1, 1) := by decide +kernel
theorem dX1_stampsMissing_2 : decode cX1_stampsMissing 2 = .ok (.iload_n 2, 1) := by decide +kernel
theorem dX1_stampsMissing_3 : decode cX1_stampsMissing 3 = .ok (.invokevirtual 119, 3) := by decide +kernel
theorem dX1_stampsMissing_6 : decode cX1_stampsMissing 6 = .ok (.ifCond .eq 12, 3) := by decide +kernel
theorem dX1_stampsMissing_9 : decode cX1_stampsMissing 9 = .ok (.aload_n 0, 1) := by decide +kernel
theorem dX1_stampsMissing_10 : decode cX1_stampsMissing 10 = .ok (.iload_n 1, 1) := by decide +kernel
theorem dX1_stampsMissing_11 : decode cX1_stampsMissing 11 = .ok (.iload_n 2, 1) := by decide +kernel
theorem dX1_stampsMissing_12 : decode cX1_stampsMissing 12 = .ok (.invokevirtual 135, 3) := by decide +kernel
theorem dX1_stampsMissing_15 : decode cX1_stampsMissing 15 = .ok (.goto 4, 3) := by decide +kernel
theorem dX1_stampsMissing_18 : decode cX1_stampsMissing 18 = .ok (.iconst 0, 1) := by decide +kernel
theorem dX1_stampsMissing_19 : decode cX1_stampsMissing 19 = .ok (.ireturn, 1) := by decide +kernel
theorem dX1_quarters_0 : decode cX1_quarters 0 = .ok (.aload_n 0, 1) := by decide +kernel
theorem dX1_quarters_1 : decode cX1_quarters 1 = .ok (.iconst 0, 1) := by decide +kernel
theorem dX1_quarters_2 : decode cX1_quarters 2 = .ok (.putfield 47, 3) := by decide +kernel
theorem dX1_quarters_5 : decode cX1_quarters 5 = .ok (.aload_n 0, 1) := by decide +kernel
theorem dX1_quarters_6 : decode cX1_quarters 6 = .ok (.getfield 51, 3) := by decide +kernel
theorem dX1_quarters_9 : decode cX1_quarters 9 = .ok (.ireturn, 1) := by decide +kernel
theorem dX1_orders_0 : decode cX1_orders 0 = .ok (.aload_n 0, 1) := by decide +kernel
theorem dX1_orders_1 : decode cX1_orders 1 = .ok (.iconst 0, 1) := by decide +kernel
theorem dX1_orders_2 : decode cX1_orders 2 = .ok (.putfield 47, 3) := by decide +kernel
theorem dX1_orders_5 : decode cX1_orders 5 = .ok (.aload_n 0, 1) := by decide +kernel
theorem dX1_orders_6 : decode cX1_orders 6 = .ok (.getfield 58, 3) := by decide +kernel
theorem dX1_orders_9 : decode cX1_orders 9 = .ok (.ireturn, 1) := by decide +kernel
theorem dX1_people_0 : decode cX1_people 0 = .ok (.aload_n 0, 1) := by decide +kernel
theorem dX1_people_1 : decode cX1_people 1 = .ok (.iconst 0, 1) := by decide +kernel
theorem dX1_people_2 : decode cX1_people 2 = .ok (.putfield 47, 3) := by decide +kernel
theorem dX1_people_5 : decode cX1_people 5 = .ok (.aload_n 0, 1) := by decide +kernel
theorem dX1_people_6 : decode cX1_people 6 = .ok (.getfield 61, 3) := by decide +kernel
theorem dX1_people_9 : decode cX1_people 9 = .ok (.ireturn, 1) := by decide +kernel
set_option maxRecDepth 20000 in
theorem ggX1_manyOn_X1_onAt : GoodIn wsX1_manyOn wsX1_onAt := goodIn_r _ [7, 8, 9, 10, 11, 6, 12, 13, 14, 15, 16, 17, 18, 19, 20, 21, 22, 23, 24, 25, 26, 27, 28, 29, 30, 31, 32, 33, 34, 35, 36, 37, 38, 39, 40, 41, 42, 43] (by decide +kernel) (by decide +kernel)
set_option maxRecDepth 20000 in
theorem gX1_manyOn_X1_onAt : GoodIn wsX1_manyOn (wsV RX1 81 RX1 yX1_onAt wsX1_onAt) := goodIn_app (goodIn_of _ (by decide +kernel)) ggX1_manyOn_X1_onAt
theorem dX1_manyOn_0 : decode cX1_manyOn 0 = .ok (.iconst 0, 1) := by decide +kernel
theorem dX1_manyOn_1 : decode cX1_manyOn 1 = .ok (.istore_n 1, 1) := by decide +kernel
theorem dX1_manyOn_2 : decode cX1_manyOn 2 = .ok (.iconst 0, 1) := by decide +kernel
theorem dX1_manyOn_3 : decode cX1_manyOn 3 = .ok (.istore_n 2, 1) := by decide +kernel
theorem dX1_manyOn_4 : decode cX1_manyOn 4 = .ok (.iload_n 2, 1) := by decide +kernel
theorem dX1_manyOn_5 : decode cX1_manyOn 5 = .ok (.aload_n 0, 1) := by decide +kernel
theorem dX1_manyOn_6 : decode cX1_manyOn 6 = .ok (.getfield 58, 3) := by decide +kernel
theorem dX1_manyOn_9 : decode cX1_manyOn 9 = .ok (.if_icmp .ge 29, 3) := by decide +kernel
theorem dX1_manyOn_12 : decode cX1_manyOn 12 = .ok (.iload_n 1, 1) := by decide +kernel
theorem dX1_manyOn_13 : decode cX1_manyOn 13 = .ok (.aload_n 0, 1) := by decide +kernel
theorem dX1_manyOn_14 : decode cX1_manyOn 14 = .ok (.iload_n 2, 1) := by decide +kernel
theorem dX1_manyOn_15 : decode cX1_manyOn 15 = .ok (.aload_n 0, 1) := by decide +kernel
theorem dX1_manyOn_16 : decode cX1_manyOn 16 = .ok (.getfield 122, 3) := by decide +kernel
theorem dX1_manyOn_19 : decode cX1_manyOn 19 = .ok (.invokevirtual 81, 3) := by decide +kernel
theorem dX1_manyOn_22 : decode cX1_manyOn 22 = .ok (.ifCond .eq 7, 3) := by decide +kernel
theorem dX1_manyOn_25 : decode cX1_manyOn 25 = .ok (.iconst 1, 1) := by decide +kernel
theorem dX1_manyOn_26 : decode cX1_manyOn 26 = .ok (.goto 4, 3) := by decide +kernel
theorem dX1_manyOn_29 : decode cX1_manyOn 29 = .ok (.iconst 0, 1) := by decide +kernel
theorem dX1_manyOn_30 : decode cX1_manyOn 30 = .ok (.iadd, 1) := by decide +kernel
theorem dX1_manyOn_31 : decode cX1_manyOn 31 = .ok (.istore_n 1, 1) := by decide +kernel
theorem dX1_manyOn_32 : decode cX1_manyOn 32 = .ok (.iinc 2 1, 3) := by decide +kernel
theorem dX1_manyOn_35 : decode cX1_manyOn 35 = .ok (.goto (-31), 3) := by decide +kernel
theorem dX1_manyOn_38 : decode cX1_manyOn 38 = .ok (.iload_n 1, 1) := by decide +kernel
theorem dX1_manyOn_39 : decode cX1_manyOn 39 = .ok (.ireturn, 1) := by decide +kernel
set_option maxRecDepth 20000 in
theorem ggX1_ordersOn_X1_manyOn : GoodIn wsX1_ordersOn wsX1_manyOn := goodIn_r _ [6, 7, 8, 9, 10, 11, 5, 12, 13, 14, 15, 16, 17, 18, 19, 20, 21, 22, 23, 24, 25, 26, 27, 28, 29, 30, 31, 32, 33, 34, 35, 36, 37, 38, 39, 40, 41, 42, 43, 44, 45, 46, 47, 48] (by decide +kernel) (by decide +kernel)
set_option maxRecDepth 20000 in
theorem gX1_ordersOn_X1_manyOn : GoodIn wsX1_ordersOn (wsV RX1 138 RX1 yX1_manyOn wsX1_manyOn) := goodIn_app (goodIn_of _ (by decide +kernel)) ggX1_ordersOn_X1_manyOn
theorem dX1_ordersOn_0 : decode cX1_ordersOn 0 = .ok (.aload_n 0, 1) := by decide +kernel
theorem dX1_ordersOn_1 : decode cX1_ordersOn 1 = .ok (.iconst 0, 1) := by decide +kernel
theorem dX1_ordersOn_2 : decode cX1_ordersOn 2 = .ok (.putfield 47, 3) := by decide +kernel
theorem dX1_ordersOn_5 : decode cX1_ordersOn 5 = .ok (.aload_n 0, 1) := by decide +kernel
theorem dX1_ordersOn_6 : decode cX1_ordersOn 6 = .ok (.invokevirtual 138, 3) := by decide +kernel
theorem dX1_ordersOn_9 : decode cX1_ordersOn 9 = .ok (.ireturn, 1) := by decide +kernel
theorem dX1_shift_0 : decode cX1_shift 0 = .ok (.aload_n 0, 1) := by decide +kernel
theorem dX1_shift_1 : decode cX1_shift 1 = .ok (.iconst 0, 1) := by decide +kernel
theorem dX1_shift_2 : decode cX1_shift 2 = .ok (.putfield 47, 3) := by decide +kernel
theorem dX1_shift_5 : decode cX1_shift 5 = .ok (.aload_n 0, 1) := by decide +kernel
theorem dX1_shift_6 : decode cX1_shift 6 = .ok (.getfield 68, 3) := by decide +kernel
theorem dX1_shift_9 : decode cX1_shift 9 = .ok (.ireturn, 1) := by decide +kernel
theorem dX1_all_0 : decode cX1_all 0 = .ok (.iconst 0, 1) := by decide +kernel
theorem dX1_all_1 : decode cX1_all 1 = .ok (.istore_n 1, 1) := by decide +kernel
theorem dX1_all_2 : decode cX1_all 2 = .ok (.iconst 0, 1) := by decide +kernel
theorem dX1_all_3 : decode cX1_all 3 = .ok (.istore_n 2, 1) := by decide +kernel
theorem dX1_all_4 : decode cX1_all 4 = .ok (.iload_n 2, 1) := by decide +kernel
theorem dX1_all_5 : decode cX1_all 5 = .ok (.aload_n 0, 1) := by decide +kernel
theorem dX1_all_6 : decode cX1_all 6 = .ok (.getfield 61, 3) := by decide +kernel
theorem dX1_all_9 : decode cX1_all 9 = .ok (.if_icmp .ge 18, 3) := by decide +kernel
theorem dX1_all_12 : decode cX1_all 12 = .ok (.iload_n 1, 1) := by decide +kernel
theorem dX1_all_13 : decode cX1_all 13 = .ok (.aload_n 0, 1) := by decide +kernel
theorem dX1_all_14 : decode cX1_all 14 = .ok (.getfield 35, 3) := by decide +kernel
theorem dX1_all_17 : decode cX1_all 17 = .ok (.iload_n 2, 1) := by decide +kernel
theorem dX1_all_18 : decode cX1_all 18 = .ok (.iaload, 1) := by decide +kernel
theorem dX1_all_19 : decode cX1_all 19 = .ok (.iadd, 1) := by decide +kernel
theorem dX1_all_20 : decode cX1_all 20 = .ok (.istore_n 1, 1) := by decide +kernel
theorem dX1_all_21 : decode cX1_all 21 = .ok (.iinc 2 1, 3) := by decide +kernel
theorem dX1_all_24 : decode cX1_all 24 = .ok (.goto (-20), 3) := by decide +kernel
theorem dX1_all_27 : decode cX1_all 27 = .ok (.iload_n 1, 1) := by decide +kernel
theorem dX1_all_28 : decode cX1_all 28 = .ok (.ireturn, 1) := by decide +kernel
set_option maxRecDepth 20000 in
theorem ggX1_allOwe_X1_all : GoodIn wsX1_allOwe wsX1_all := goodIn_r _ [6, 7, 8, 9, 10, 11, 12, 13, 14, 15, 16, 17, 18, 19, 20, 21, 22, 23, 24, 25, 26] (by decide +kernel) (by decide +kernel)
set_option maxRecDepth 20000 in
theorem gX1_allOwe_X1_all : GoodIn wsX1_allOwe (wsV RX1 142 RX1 yX1_all wsX1_all) := goodIn_app (goodIn_of _ (by decide +kernel)) ggX1_allOwe_X1_all
theorem dX1_allOwe_0 : decode cX1_allOwe 0 = .ok (.aload_n 0, 1) := by decide +kernel
theorem dX1_allOwe_1 : decode cX1_allOwe 1 = .ok (.iconst 0, 1) := by decide +kernel
theorem dX1_allOwe_2 : decode cX1_allOwe 2 = .ok (.putfield 47, 3) := by decide +kernel
theorem dX1_allOwe_5 : decode cX1_allOwe 5 = .ok (.aload_n 0, 1) := by decide +kernel
theorem dX1_allOwe_6 : decode cX1_allOwe 6 = .ok (.invokevirtual 142, 3) := by decide +kernel
theorem dX1_allOwe_9 : decode cX1_allOwe 9 = .ok (.ireturn, 1) := by decide +kernel
set_option maxRecDepth 20000 in
theorem ggX1_stampsUsed_X1_isColour : GoodIn wsX1_stampsUsed wsX1_isColour := goodIn_r _ [6, 7, 8, 5, 9] (by decide +kernel) (by decide +kernel)
set_option maxRecDepth 20000 in
theorem gX1_stampsUsed_X1_isColour : GoodIn wsX1_stampsUsed (va_wsS RX1 98 yX1_isColour wsX1_isColour) := goodIn_app (goodIn_of _ (by decide +kernel)) ggX1_stampsUsed_X1_isColour
set_option maxRecDepth 20000 in
theorem ggX1_stampsUsed_X1_fail : GoodIn wsX1_stampsUsed wsX1_fail := goodIn_r _ [13, 1, 14, 15, 16, 17, 18, 19, 20, 21, 22, 23, 24, 25, 26, 27, 28, 29, 30, 31] (by decide +kernel) (by decide +kernel)
set_option maxRecDepth 20000 in
theorem gX1_stampsUsed_X1_fail : GoodIn wsX1_stampsUsed (wsV RX1 88 RX1 yX1_fail wsX1_fail) := goodIn_app (goodIn_of _ (by decide +kernel)) ggX1_stampsUsed_X1_fail
theorem dX1_stampsUsed_0 : decode cX1_stampsUsed 0 = .ok (.aload_n 0, 1) := by decide +kernel
theorem dX1_stampsUsed_1 : decode cX1_stampsUsed 1 = .ok (.iconst 0, 1) := by decide +kernel
theorem dX1_stampsUsed_2 : decode cX1_stampsUsed 2 = .ok (.putfield 47, 3) := by decide +kernel
theorem dX1_stampsUsed_5 : decode cX1_stampsUsed 5 = .ok (.iload_n 1, 1) := by decide +kernel
theorem dX1_stampsUsed_6 : decode cX1_stampsUsed 6 = .ok (.invokestatic 98, 3) := by decide +kernel
theorem dX1_stampsUsed_9 : decode cX1_stampsUsed 9 = .ok (.ifCond .eq 12, 3) := by decide +kernel
theorem dX1_stampsUsed_12 : decode cX1_stampsUsed 12 = .ok (.aload_n 0, 1) := by decide +kernel
theorem dX1_stampsUsed_13 : decode cX1_stampsUsed 13 = .ok (.getfield 41, 3) := by decide +kernel
theorem dX1_stampsUsed_16 : decode cX1_stampsUsed 16 = .ok (.iload_n 1, 1) := by decide +kernel
theorem dX1_stampsUsed_17 : decode cX1_stampsUsed 17 = .ok (.iaload, 1) := by decide +kernel
theorem dX1_stampsUsed_18 : decode cX1_stampsUsed 18 = .ok (.goto 8, 3) := by decide +kernel
theorem dX1_stampsUsed_21 : decode cX1_stampsUsed 21 = .ok (.aload_n 0, 1) := by decide +kernel
theorem dX1_stampsUsed_22 : decode cX1_stampsUsed 22 = .ok (.iconst 1, 1) := by decide +kernel
theorem dX1_stampsUsed_23 : decode cX1_stampsUsed 23 = .ok (.invokevirtual 88, 3) := by decide +kernel
theorem dX1_stampsUsed_26 : decode cX1_stampsUsed 26 = .ok (.ireturn, 1) := by decide +kernel
set_option maxRecDepth 20000 in
theorem ggX1_halfHoursUntilFree_X1_isPair : GoodIn wsX1_halfHoursUntilFree wsX1_isPair := goodIn_r _ [6, 7, 8, 9, 10, 5, 11, 12, 13, 14, 15, 16, 17, 18, 19, 20, 55, 56, 57, 58, 59, 60, 61, 62, 63, 64, 65, 66, 67, 68, 69, 70, 71, 72] (by decide +kernel) (by decide +kernel)
set_option maxRecDepth 20000 in
theorem gX1_halfHoursUntilFree_X1_isPair : GoodIn wsX1_halfHoursUntilFree (wsV RX1 119 RX1 yX1_isPair wsX1_isPair) := goodIn_app (goodIn_of _ (by decide +kernel)) ggX1_halfHoursUntilFree_X1_isPair
set_option maxRecDepth 20000 in
theorem ggX1_halfHoursUntilFree_X1_against : GoodIn wsX1_halfHoursUntilFree wsX1_against := goodIn_r _ [24, 25, 26, 27, 28, 5, 29, 30, 31, 32, 33, 34, 35, 36, 37, 38, 39, 40, 41, 42, 43, 44, 45, 46, 47, 48, 49, 50, 51, 52, 53, 54, 55, 56, 57, 58, 59, 60, 61, 62, 63, 64, 65, 66, 67, 68, 69, 70, 71, 72] (by decide +kernel) (by decide +kernel)
set_option maxRecDepth 20000 in
theorem gX1_halfHoursUntilFree_X1_against : GoodIn wsX1_halfHoursUntilFree (wsV RX1 128 RX1 yX1_against wsX1_against) := goodIn_app (goodIn_of _ (by decide +kernel)) ggX1_halfHoursUntilFree_X1_against
theorem dX1_halfHoursUntilFree_0 : decode cX1_halfHoursUntilFree 0 = .ok (.aload_n 0, 1) := by decide +kernel
theorem dX1_halfHoursUntilFree_1 : decode cX1_halfHoursUntilFree 1 = .ok (.iload_n 1, 1) := by decide +kernel
theorem dX1_halfHoursUntilFree_2 : decode cX1_halfHoursUntilFree 2 = .ok (.iload_n 2, 1) := by decide +kernel
theorem dX1_halfHoursUntilFree_3 : decode cX1_halfHoursUntilFree 3 = .ok (.invokevirtual 119, 3) := by decide +kernel
theorem dX1_halfHoursUntilFree_6 : decode cX1_halfHoursUntilFree 6 = .ok (.ifCond .ne 5, 3) := by decide +kernel
theorem dX1_halfHoursUntilFree_9 : decode cX1_halfHoursUntilFree 9 = .ok (.iconst 0, 1) := by decide +kernel
theorem dX1_halfHoursUntilFree_10 : decode cX1_halfHoursUntilFree 10 = .ok (.ireturn, 1) := by decide +kernel
theorem dX1_halfHoursUntilFree_11 : decode cX1_halfHoursUntilFree 11 = .ok (.iconst 0, 1) := by decide +kernel
theorem dX1_halfHoursUntilFree_12 : decode cX1_halfHoursUntilFree 12 = .ok (.istore_n 3, 1) := by decide +kernel
theorem dX1_halfHoursUntilFree_13 : decode cX1_halfHoursUntilFree 13 = .ok (.iload_n 3, 1) := by decide +kernel
theorem dX1_halfHoursUntilFree_14 : decode cX1_halfHoursUntilFree 14 = .ok (.bipush 48, 2) := by decide +kernel
theorem dX1_halfHoursUntilFree_16 : decode cX1_halfHoursUntilFree 16 = .ok (.if_icmp .gt 26, 3) := by decide +kernel
theorem dX1_halfHoursUntilFree_19 : decode cX1_halfHoursUntilFree 19 = .ok (.aload_n 0, 1) := by decide +kernel
theorem dX1_halfHoursUntilFree_20 : decode cX1_halfHoursUntilFree 20 = .ok (.iload_n 1, 1) := by decide +kernel
theorem dX1_halfHoursUntilFree_21 : decode cX1_halfHoursUntilFree 21 = .ok (.iload_n 2, 1) := by decide +kernel
theorem dX1_halfHoursUntilFree_22 : decode cX1_halfHoursUntilFree 22 = .ok (.aload_n 0, 1) := by decide +kernel
theorem dX1_halfHoursUntilFree_23 : decode cX1_halfHoursUntilFree 23 = .ok (.getfield 122, 3) := by decide +kernel
theorem dX1_halfHoursUntilFree_26 : decode cX1_halfHoursUntilFree 26 = .ok (.iload_n 3, 1) := by decide +kernel
theorem dX1_halfHoursUntilFree_27 : decode cX1_halfHoursUntilFree 27 = .ok (.iadd, 1) := by decide +kernel
theorem dX1_halfHoursUntilFree_28 : decode cX1_halfHoursUntilFree 28 = .ok (.invokevirtual 128, 3) := by decide +kernel
theorem dX1_halfHoursUntilFree_31 : decode cX1_halfHoursUntilFree 31 = .ok (.ifCond .ne 5, 3) := by decide +kernel
theorem dX1_halfHoursUntilFree_34 : decode cX1_halfHoursUntilFree 34 = .ok (.iload_n 3, 1) := by decide +kernel
theorem dX1_halfHoursUntilFree_35 : decode cX1_halfHoursUntilFree 35 = .ok (.ireturn, 1) := by decide +kernel
theorem dX1_halfHoursUntilFree_36 : decode cX1_halfHoursUntilFree 36 = .ok (.iinc 3 1, 3) := by decide +kernel
theorem dX1_halfHoursUntilFree_39 : decode cX1_halfHoursUntilFree 39 = .ok (.goto (-26), 3) := by decide +kernel
theorem dX1_halfHoursUntilFree_42 : decode cX1_halfHoursUntilFree 42 = .ok (.iconst (-1), 1) := by decide +kernel
theorem dX1_halfHoursUntilFree_43 : decode cX1_halfHoursUntilFree 43 = .ok (.ireturn, 1) := by decide +kernel
set_option maxRecDepth 20000 in
theorem ggX1_halfHoursOn_X1_isOrder : GoodIn wsX1_halfHoursOn wsX1_isOrder := goodIn_r _ [7, 8, 9, 10, 6, 11, 33, 34, 35, 36, 37, 38, 39, 40, 41, 42, 43, 44, 45, 46, 47, 48, 49, 50] (by decide +kernel) (by decide +kernel)
set_option maxRecDepth 20000 in
theorem gX1_halfHoursOn_X1_isOrder : GoodIn wsX1_halfHoursOn (wsV RX1 101 RX1 yX1_isOrder wsX1_isOrder) := goodIn_app (goodIn_of _ (by decide +kernel)) ggX1_halfHoursOn_X1_isOrder
set_option maxRecDepth 20000 in
theorem ggX1_halfHoursOn_X1_fail : GoodIn wsX1_halfHoursOn wsX1_fail := goodIn_r _ [15, 1, 33, 34, 35, 36, 37, 38, 39, 40, 41, 42, 43, 44, 45, 46, 47, 48, 49, 50] (by decide +kernel) (by decide +kernel)
set_option maxRecDepth 20000 in
theorem gX1_halfHoursOn_X1_fail : GoodIn wsX1_halfHoursOn (wsV RX1 88 RX1 yX1_fail wsX1_fail) := goodIn_app (goodIn_of _ (by decide +kernel)) ggX1_halfHoursOn_X1_fail
set_option maxRecDepth 20000 in
theorem ggX1_halfHoursOn_X1_isAt : GoodIn wsX1_halfHoursOn wsX1_isAt := goodIn_r _ [19, 20, 21, 22, 23, 24, 6, 25, 26, 27, 28, 29, 30, 31, 32, 33, 34, 35, 36, 37, 38, 39, 40, 41, 42, 43, 44, 45, 46, 47, 48, 49, 50] (by decide +kernel) (by decide +kernel)
set_option maxRecDepth 20000 in
theorem gX1_halfHoursOn_X1_isAt : GoodIn wsX1_halfHoursOn (wsV RX1 77 RX1 yX1_isAt wsX1_isAt) := goodIn_app (goodIn_of _ (by decide +kernel)) ggX1_halfHoursOn_X1_isAt
theorem dX1_halfHoursOn_0 : decode cX1_halfHoursOn 0 = .ok (.aload_n 0, 1) := by decide +kernel
theorem dX1_halfHoursOn_1 : decode cX1_halfHoursOn 1 = .ok (.iconst 0, 1) := by decide +kernel
theorem dX1_halfHoursOn_2 : decode cX1_halfHoursOn 2 = .ok (.putfield 47, 3) := by decide +kernel
theorem dX1_halfHoursOn_5 : decode cX1_halfHoursOn 5 = .ok (.aload_n 0, 1) := by decide +kernel
theorem dX1_halfHoursOn_6 : decode cX1_halfHoursOn 6 = .ok (.iload_n 1, 1) := by decide +kernel
theorem dX1_halfHoursOn_7 : decode cX1_halfHoursOn 7 = .ok (.invokevirtual 101, 3) := by decide +kernel
theorem dX1_halfHoursOn_10 : decode cX1_halfHoursOn 10 = .ok (.ifCond .ne 9, 3) := by decide +kernel
theorem dX1_halfHoursOn_13 : decode cX1_halfHoursOn 13 = .ok (.aload_n 0, 1) := by decide +kernel
theorem dX1_halfHoursOn_14 : decode cX1_halfHoursOn 14 = .ok (.iconst 1, 1) := by decide +kernel
theorem dX1_halfHoursOn_15 : decode cX1_halfHoursOn 15 = .ok (.invokevirtual 88, 3) := by decide +kernel
theorem dX1_halfHoursOn_18 : decode cX1_halfHoursOn 18 = .ok (.ireturn, 1) := by decide +kernel
theorem dX1_halfHoursOn_19 : decode cX1_halfHoursOn 19 = .ok (.iconst 0, 1) := by decide +kernel
theorem dX1_halfHoursOn_20 : decode cX1_halfHoursOn 20 = .ok (.istore_n 2, 1) := by decide +kernel
theorem dX1_halfHoursOn_21 : decode cX1_halfHoursOn 21 = .ok (.iconst 0, 1) := by decide +kernel
theorem dX1_halfHoursOn_22 : decode cX1_halfHoursOn 22 = .ok (.istore_n 3, 1) := by decide +kernel
theorem dX1_halfHoursOn_23 : decode cX1_halfHoursOn 23 = .ok (.iload_n 3, 1) := by decide +kernel
theorem dX1_halfHoursOn_24 : decode cX1_halfHoursOn 24 = .ok (.bipush 48, 2) := by decide +kernel
theorem dX1_halfHoursOn_26 : decode cX1_halfHoursOn 26 = .ok (.if_icmp .ge 31, 3) := by decide +kernel
theorem dX1_halfHoursOn_29 : decode cX1_halfHoursOn 29 = .ok (.iload_n 2, 1) := by decide +kernel
theorem dX1_halfHoursOn_30 : decode cX1_halfHoursOn 30 = .ok (.aload_n 0, 1) := by decide +kernel
theorem dX1_halfHoursOn_31 : decode cX1_halfHoursOn 31 = .ok (.iload_n 1, 1) := by decide +kernel
theorem dX1_halfHoursOn_32 : decode cX1_halfHoursOn 32 = .ok (.aload_n 0, 1) := by decide +kernel
theorem dX1_halfHoursOn_33 : decode cX1_halfHoursOn 33 = .ok (.getfield 122, 3) := by decide +kernel
theorem dX1_halfHoursOn_36 : decode cX1_halfHoursOn 36 = .ok (.iload_n 3, 1) := by decide +kernel
theorem dX1_halfHoursOn_37 : decode cX1_halfHoursOn 37 = .ok (.iadd, 1) := by decide +kernel
theorem dX1_halfHoursOn_38 : decode cX1_halfHoursOn 38 = .ok (.invokevirtual 77, 3) := by decide +kernel
theorem dX1_halfHoursOn_41 : decode cX1_halfHoursOn 41 = .ok (.ifCond .eq 7, 3) := by decide +kernel
theorem dX1_halfHoursOn_44 : decode cX1_halfHoursOn 44 = .ok (.iconst 1, 1) := by decide +kernel
theorem dX1_halfHoursOn_45 : decode cX1_halfHoursOn 45 = .ok (.goto 4, 3) := by decide +kernel
theorem dX1_halfHoursOn_48 : decode cX1_halfHoursOn 48 = .ok (.iconst 0, 1) := by decide +kernel
theorem dX1_halfHoursOn_49 : decode cX1_halfHoursOn 49 = .ok (.iadd, 1) := by decide +kernel
theorem dX1_halfHoursOn_50 : decode cX1_halfHoursOn 50 = .ok (.istore_n 2, 1) := by decide +kernel
theorem dX1_halfHoursOn_51 : decode cX1_halfHoursOn 51 = .ok (.iinc 3 1, 3) := by decide +kernel
theorem dX1_halfHoursOn_54 : decode cX1_halfHoursOn 54 = .ok (.goto (-31), 3) := by decide +kernel
theorem dX1_halfHoursOn_57 : decode cX1_halfHoursOn 57 = .ok (.iload_n 2, 1) := by decide +kernel
theorem dX1_halfHoursOn_58 : decode cX1_halfHoursOn 58 = .ok (.ireturn, 1) := by decide +kernel
set_option maxRecDepth 20000 in
theorem ggX1_pairs_X1_missing : GoodIn wsX1_pairs wsX1_missing := goodIn_r _ [7, 8, 9, 10, 11, 12, 13, 14, 15, 16, 17, 18, 19, 6, 20, 21, 22, 23, 24, 25, 26, 27, 28, 29, 30, 31, 32, 33, 34, 35, 36, 37, 38, 39, 40, 41, 42, 43, 44, 45, 46, 47, 48, 49, 50, 51, 52, 53, 54, 55, 56, 57, 58, 59, 60, 61, 62, 63] (by decide +kernel) (by decide +kernel)
set_option maxRecDepth 20000 in
theorem gX1_pairs_X1_missing : GoodIn wsX1_pairs (wsV RX1 135 RX1 yX1_missing wsX1_missing) := goodIn_app (goodIn_of _ (by decide +kernel)) ggX1_pairs_X1_missing
theorem dX1_pairs_0 : decode cX1_pairs 0 = .ok (.iconst 0, 1) := by decide +kernel
theorem dX1_pairs_1 : decode cX1_pairs 1 = .ok (.istore_n 1, 1) := by decide +kernel
theorem dX1_pairs_2 : decode cX1_pairs 2 = .ok (.iconst 0, 1) := by decide +kernel
theorem dX1_pairs_3 : decode cX1_pairs 3 = .ok (.istore_n 2, 1) := by decide +kernel
theorem dX1_pairs_4 : decode cX1_pairs 4 = .ok (.iload_n 2, 1) := by decide +kernel
theorem dX1_pairs_5 : decode cX1_pairs 5 = .ok (.aload_n 0, 1) := by decide +kernel
theorem dX1_pairs_6 : decode cX1_pairs 6 = .ok (.getfield 61, 3) := by decide +kernel
theorem dX1_pairs_9 : decode cX1_pairs 9 = .ok (.if_icmp .ge 42, 3) := by decide +kernel
theorem dX1_pairs_12 : decode cX1_pairs 12 = .ok (.iconst 0, 1) := by decide +kernel
theorem dX1_pairs_13 : decode cX1_pairs 13 = .ok (.istore_n 3, 1) := by decide +kernel
theorem dX1_pairs_14 : decode cX1_pairs 14 = .ok (.iload_n 3, 1) := by decide +kernel
theorem dX1_pairs_15 : decode cX1_pairs 15 = .ok (.aload_n 0, 1) := by decide +kernel
theorem dX1_pairs_16 : decode cX1_pairs 16 = .ok (.getfield 51, 3) := by decide +kernel
theorem dX1_pairs_19 : decode cX1_pairs 19 = .ok (.if_icmp .ge 26, 3) := by decide +kernel
theorem dX1_pairs_22 : decode cX1_pairs 22 = .ok (.iload_n 1, 1) := by decide +kernel
theorem dX1_pairs_23 : decode cX1_pairs 23 = .ok (.aload_n 0, 1) := by decide +kernel
theorem dX1_pairs_24 : decode cX1_pairs 24 = .ok (.iload_n 2, 1) := by decide +kernel
theorem dX1_pairs_25 : decode cX1_pairs 25 = .ok (.iload_n 3, 1) := by decide +kernel
theorem dX1_pairs_26 : decode cX1_pairs 26 = .ok (.invokevirtual 135, 3) := by decide +kernel
theorem dX1_pairs_29 : decode cX1_pairs 29 = .ok (.ifCond .ne 7, 3) := by decide +kernel
theorem dX1_pairs_32 : decode cX1_pairs 32 = .ok (.iconst 1, 1) := by decide +kernel
theorem dX1_pairs_33 : decode cX1_pairs 33 = .ok (.goto 4, 3) := by decide +kernel
theorem dX1_pairs_36 : decode cX1_pairs 36 = .ok (.iconst 0, 1) := by decide +kernel
theorem dX1_pairs_37 : decode cX1_pairs 37 = .ok (.iadd, 1) := by decide +kernel
theorem dX1_pairs_38 : decode cX1_pairs 38 = .ok (.istore_n 1, 1) := by decide +kernel
theorem dX1_pairs_39 : decode cX1_pairs 39 = .ok (.iinc 3 1, 3) := by decide +kernel
theorem dX1_pairs_42 : decode cX1_pairs 42 = .ok (.goto (-28), 3) := by decide +kernel
theorem dX1_pairs_45 : decode cX1_pairs 45 = .ok (.iinc 2 1, 3) := by decide +kernel
theorem dX1_pairs_48 : decode cX1_pairs 48 = .ok (.goto (-44), 3) := by decide +kernel
theorem dX1_pairs_51 : decode cX1_pairs 51 = .ok (.iload_n 1, 1) := by decide +kernel
theorem dX1_pairs_52 : decode cX1_pairs 52 = .ok (.ireturn, 1) := by decide +kernel
set_option maxRecDepth 20000 in
theorem ggX1_bestLift_X1_pairs : GoodIn wsX1_bestLift wsX1_pairs := goodIn_r _ [8, 9, 10, 11, 12, 13, 7, 14, 15, 16, 2, 17, 18, 19, 20, 21, 22, 23, 24, 25, 26, 27, 28, 29, 30, 31, 32, 33, 3, 34, 35, 36, 37, 38, 39, 40, 41, 42, 43, 44, 45, 46, 47, 48, 49, 50, 51, 52, 53, 54, 55, 56, 57, 58, 59, 60, 61, 62, 63, 64, 65, 66, 67, 68] (by decide +kernel) (by decide +kernel)
set_option maxRecDepth 20000 in
theorem gX1_bestLift_X1_pairs : GoodIn wsX1_bestLift (wsV RX1 145 RX1 yX1_pairs wsX1_pairs) := goodIn_app (goodIn_of _ (by decide +kernel)) ggX1_bestLift_X1_pairs
theorem dX1_bestLift_0 : decode cX1_bestLift 0 = .ok (.aload_n 0, 1) := by decide +kernel
theorem dX1_bestLift_1 : decode cX1_bestLift 1 = .ok (.iconst 0, 1) := by decide +kernel
theorem dX1_bestLift_2 : decode cX1_bestLift 2 = .ok (.putfield 47, 3) := by decide +kernel
theorem dX1_bestLift_5 : decode cX1_bestLift 5 = .ok (.iconst (-1), 1) := by decide +kernel
theorem dX1_bestLift_6 : decode cX1_bestLift 6 = .ok (.istore_n 1, 1) := by decide +kernel
theorem dX1_bestLift_7 : decode cX1_bestLift 7 = .ok (.aload_n 0, 1) := by decide +kernel
theorem dX1_bestLift_8 : decode cX1_bestLift 8 = .ok (.invokevirtual 145, 3) := by decide +kernel
theorem dX1_bestLift_11 : decode cX1_bestLift 11 = .ok (.istore_n 2, 1) := by decide +kernel
theorem dX1_bestLift_12 : decode cX1_bestLift 12 = .ok (.iconst 0, 1) := by decide +kernel
theorem dX1_bestLift_13 : decode cX1_bestLift 13 = .ok (.istore_n 3, 1) := by decide +kernel
theorem dX1_bestLift_14 : decode cX1_bestLift 14 = .ok (.iload_n 3, 1) := by decide +kernel
theorem dX1_bestLift_15 : decode cX1_bestLift 15 = .ok (.aload_n 0, 1) := by decide +kernel
theorem dX1_bestLift_16 : decode cX1_bestLift 16 = .ok (.getfield 58, 3) := by decide +kernel
theorem dX1_bestLift_19 : decode cX1_bestLift 19 = .ok (.if_icmp .ge 55, 3) := by decide +kernel
theorem dX1_bestLift_22 : decode cX1_bestLift 22 = .ok (.aload_n 0, 1) := by decide +kernel
theorem dX1_bestLift_23 : decode cX1_bestLift 23 = .ok (.getfield 25, 3) := by decide +kernel
theorem dX1_bestLift_26 : decode cX1_bestLift 26 = .ok (.iload_n 3, 1) := by decide +kernel
theorem dX1_bestLift_27 : decode cX1_bestLift 27 = .ok (.baload, 1) := by decide +kernel
theorem dX1_bestLift_28 : decode cX1_bestLift 28 = .ok (.ifCond .ne 6, 3) := by decide +kernel
theorem dX1_bestLift_31 : decode cX1_bestLift 31 = .ok (.goto 37, 3) := by decide +kernel
theorem dX1_bestLift_34 : decode cX1_bestLift 34 = .ok (.aload_n 0, 1) := by decide +kernel
theorem dX1_bestLift_35 : decode cX1_bestLift 35 = .ok (.getfield 25, 3) := by decide +kernel
theorem dX1_bestLift_38 : decode cX1_bestLift 38 = .ok (.iload_n 3, 1) := by decide +kernel
theorem dX1_bestLift_39 : decode cX1_bestLift 39 = .ok (.iconst 0, 1) := by decide +kernel
theorem dX1_bestLift_40 : decode cX1_bestLift 40 = .ok (.bastore, 1) := by decide +kernel
theorem dX1_bestLift_41 : decode cX1_bestLift 41 = .ok (.aload_n 0, 1) := by decide +kernel
theorem dX1_bestLift_42 : decode cX1_bestLift 42 = .ok (.invokevirtual 145, 3) := by decide +kernel
theorem dX1_bestLift_45 : decode cX1_bestLift 45 = .ok (.istore 4, 2) := by decide +kernel
theorem dX1_bestLift_47 : decode cX1_bestLift 47 = .ok (.aload_n 0, 1) := by decide +kernel
theorem dX1_bestLift_48 : decode cX1_bestLift 48 = .ok (.getfield 25, 3) := by decide +kernel
theorem dX1_bestLift_51 : decode cX1_bestLift 51 = .ok (.iload_n 3, 1) := by decide +kernel
theorem dX1_bestLift_52 : decode cX1_bestLift 52 = .ok (.iconst 1, 1) := by decide +kernel
theorem dX1_bestLift_53 : decode cX1_bestLift 53 = .ok (.bastore, 1) := by decide +kernel
theorem dX1_bestLift_54 : decode cX1_bestLift 54 = .ok (.iload 4, 2) := by decide +kernel
theorem dX1_bestLift_56 : decode cX1_bestLift 56 = .ok (.iload_n 2, 1) := by decide +kernel
theorem dX1_bestLift_57 : decode cX1_bestLift 57 = .ok (.if_icmp .gt 6, 3) := by decide +kernel
theorem dX1_bestLift_60 : decode cX1_bestLift 60 = .ok (.goto 8, 3) := by decide +kernel
theorem dX1_bestLift_63 : decode cX1_bestLift 63 = .ok (.iload_n 3, 1) := by decide +kernel
theorem dX1_bestLift_64 : decode cX1_bestLift 64 = .ok (.istore_n 1, 1) := by decide +kernel
theorem dX1_bestLift_65 : decode cX1_bestLift 65 = .ok (.iload 4, 2) := by decide +kernel
theorem dX1_bestLift_67 : decode cX1_bestLift 67 = .ok (.istore_n 2, 1) := by decide +kernel
theorem dX1_bestLift_68 : decode cX1_bestLift 68 = .ok (.iinc 3 1, 3) := by decide +kernel
theorem dX1_bestLift_71 : decode cX1_bestLift 71 = .ok (.goto (-57), 3) := by decide +kernel
theorem dX1_bestLift_74 : decode cX1_bestLift 74 = .ok (.iload_n 1, 1) := by decide +kernel
theorem dX1_bestLift_75 : decode cX1_bestLift 75 = .ok (.ireturn, 1) := by decide +kernel
set_option maxRecDepth 20000 in
theorem ggX1_meanDebt_X1_all : GoodIn wsX1_meanDebt wsX1_all := goodIn_r _ [7, 2, 8, 9, 10, 11, 12, 13, 14, 15, 16, 17, 18, 19, 20, 21, 22, 23, 24, 25, 26] (by decide +kernel) (by decide +kernel)
set_option maxRecDepth 20000 in
theorem gX1_meanDebt_X1_all : GoodIn wsX1_meanDebt (wsV RX1 142 RX1 yX1_all wsX1_all) := goodIn_app (goodIn_of _ (by decide +kernel)) ggX1_meanDebt_X1_all
theorem dX1_meanDebt_0 : decode cX1_meanDebt 0 = .ok (.aload_n 0, 1) := by decide +kernel
theorem dX1_meanDebt_1 : decode cX1_meanDebt 1 = .ok (.iconst 0, 1) := by decide +kernel
theorem dX1_meanDebt_2 : decode cX1_meanDebt 2 = .ok (.putfield 47, 3) := by decide +kernel
theorem dX1_meanDebt_5 : decode cX1_meanDebt 5 = .ok (.aload_n 0, 1) := by decide +kernel
theorem dX1_meanDebt_6 : decode cX1_meanDebt 6 = .ok (.getfield 61, 3) := by decide +kernel
theorem dX1_meanDebt_9 : decode cX1_meanDebt 9 = .ok (.ifCond .ne 7, 3) := by decide +kernel
theorem dX1_meanDebt_12 : decode cX1_meanDebt 12 = .ok (.dconst 0, 1) := by decide +kernel
theorem dX1_meanDebt_13 : decode cX1_meanDebt 13 = .ok (.goto 14, 3) := by decide +kernel
theorem dX1_meanDebt_16 : decode cX1_meanDebt 16 = .ok (.aload_n 0, 1) := by decide +kernel
theorem dX1_meanDebt_17 : decode cX1_meanDebt 17 = .ok (.invokevirtual 142, 3) := by decide +kernel
theorem dX1_meanDebt_20 : decode cX1_meanDebt 20 = .ok (.i2d, 1) := by decide +kernel
theorem dX1_meanDebt_21 : decode cX1_meanDebt 21 = .ok (.aload_n 0, 1) := by decide +kernel
theorem dX1_meanDebt_22 : decode cX1_meanDebt 22 = .ok (.getfield 61, 3) := by decide +kernel
theorem dX1_meanDebt_25 : decode cX1_meanDebt 25 = .ok (.i2d, 1) := by decide +kernel
theorem dX1_meanDebt_26 : decode cX1_meanDebt 26 = .ok (.ddiv, 1) := by decide +kernel
theorem dX1_meanDebt_27 : decode cX1_meanDebt 27 = .ok (.dreturn, 1) := by decide +kernel
set_option maxRecDepth 20000 in
theorem ggX1_digest_X1_dusk : GoodIn wsX1_digest wsX1_dusk := goodIn_r _ [23, 7, 24, 25, 22, 26, 56, 57, 58, 59, 60, 61, 62, 63, 64, 65, 66, 67, 68, 69, 70, 71, 72, 73] (by decide +kernel) (by decide +kernel)
set_option maxRecDepth 20000 in
theorem gX1_digest_X1_dusk : GoodIn wsX1_digest (wsV RX1 71 RX1 yX1_dusk wsX1_dusk) := goodIn_app (goodIn_of _ (by decide +kernel)) ggX1_digest_X1_dusk
set_option maxRecDepth 20000 in
theorem ggX1_digest_X1_dawn : GoodIn wsX1_digest wsX1_dawn := goodIn_r _ [29, 24, 25, 22, 26] (by decide +kernel) (by decide +kernel)
set_option maxRecDepth 20000 in
theorem gX1_digest_X1_dawn : GoodIn wsX1_digest (va_wsS RX1 74 yX1_dawn wsX1_dawn) := goodIn_app (goodIn_of _ (by decide +kernel)) ggX1_digest_X1_dawn
set_option maxRecDepth 20000 in
theorem ggX1_digest_X1_manyOn : GoodIn wsX1_digest wsX1_manyOn := goodIn_r _ [33, 5, 2, 34, 35, 36, 22, 37, 13, 38, 39, 40, 41, 42, 43, 19, 20, 21, 23, 7, 24, 25, 26, 27, 28, 29, 56, 57, 58, 59, 60, 61, 62, 63, 64, 65, 66, 67, 68, 69, 70, 71, 72, 73] (by decide +kernel) (by decide +kernel)
set_option maxRecDepth 20000 in
theorem gX1_digest_X1_manyOn : GoodIn wsX1_digest (wsV RX1 138 RX1 yX1_manyOn wsX1_manyOn) := goodIn_app (goodIn_of _ (by decide +kernel)) ggX1_digest_X1_manyOn
set_option maxRecDepth 20000 in
theorem ggX1_digest_X1_onAt : GoodIn wsX1_digest wsX1_onAt := goodIn_r _ [37, 13, 38, 39, 40, 22, 41, 42, 43, 19, 20, 21, 23, 7, 24, 25, 26, 27, 28, 29, 56, 57, 58, 59, 60, 61, 62, 63, 64, 65, 66, 67, 68, 69, 70, 71, 72, 73] (by decide +kernel) (by decide +kernel)
set_option maxRecDepth 20000 in
theorem gX1_digest_X1_onAt : GoodIn wsX1_digest (wsV RX1 81 RX1 yX1_onAt wsX1_onAt) := goodIn_app (goodIn_of _ (by decide +kernel)) ggX1_digest_X1_onAt
set_option maxRecDepth 20000 in
theorem ggX1_digest_X1_barred : GoodIn wsX1_digest wsX1_barred := goodIn_r _ [47, 6, 11, 2, 48, 49, 50, 22, 51, 14, 15, 34, 35, 36, 37, 13, 38, 39, 40, 41, 42, 43, 19, 20, 21, 23, 7, 24, 25, 26, 27, 28, 29, 56, 57, 58, 59, 60, 61, 62, 63, 64, 65, 66, 67, 68, 69, 70, 71, 72, 73] (by decide +kernel) (by decide +kernel)
set_option maxRecDepth 20000 in
theorem gX1_digest_X1_barred : GoodIn wsX1_digest (wsV RX1 125 RX1 yX1_barred wsX1_barred) := goodIn_app (goodIn_of _ (by decide +kernel)) ggX1_digest_X1_barred
set_option maxRecDepth 20000 in
theorem ggX1_digest_X1_against : GoodIn wsX1_digest wsX1_against := goodIn_r _ [55, 5, 48, 49, 50, 22, 51, 11, 14, 15, 34, 35, 36, 37, 13, 38, 39, 40, 41, 42, 43, 19, 20, 21, 23, 7, 24, 25, 26, 27, 28, 29, 56, 57, 58, 59, 60, 61, 62, 63, 64, 65, 66, 67, 68, 69, 70, 71, 72, 73] (by decide +kernel) (by decide +kernel)
set_option maxRecDepth 20000 in
theorem gX1_digest_X1_against : GoodIn wsX1_digest (wsV RX1 128 RX1 yX1_against wsX1_against) := goodIn_app (goodIn_of _ (by decide +kernel)) ggX1_digest_X1_against
theorem dX1_digest_0 : decode cX1_digest 0 = .ok (.aload_n 0, 1) := by decide +kernel
theorem dX1_digest_1 : decode cX1_digest 1 = .ok (.iconst 0, 1) := by decide +kernel
theorem dX1_digest_2 : decode cX1_digest 2 = .ok (.putfield 47, 3) := by decide +kernel
theorem dX1_digest_5 : decode cX1_digest 5 = .ok (.aload_n 0, 1) := by decide +kernel
theorem dX1_digest_6 : decode cX1_digest 6 = .ok (.getfield 122, 3) := by decide +kernel
theorem dX1_digest_9 : decode cX1_digest 9 = .ok (.bipush 48, 2) := by decide +kernel
theorem dX1_digest_11 : decode cX1_digest 11 = .ok (.idiv, 1) := by decide +kernel
theorem dX1_digest_12 : decode cX1_digest 12 = .ok (.istore_n 1, 1) := by decide +kernel
theorem dX1_digest_13 : decode cX1_digest 13 = .ok (.bipush 9, 2) := by decide +kernel
theorem dX1_digest_15 : decode cX1_digest 15 = .ok (.newarray .int, 2) := by decide +kernel
theorem dX1_digest_17 : decode cX1_digest 17 = .ok (.dup, 1) := by decide +kernel
theorem dX1_digest_18 : decode cX1_digest 18 = .ok (.iconst 0, 1) := by decide +kernel
theorem dX1_digest_19 : decode cX1_digest 19 = .ok (.iload_n 1, 1) := by decide +kernel
theorem dX1_digest_20 : decode cX1_digest 20 = .ok (.iastore, 1) := by decide +kernel
theorem dX1_digest_21 : decode cX1_digest 21 = .ok (.dup, 1) := by decide +kernel
theorem dX1_digest_22 : decode cX1_digest 22 = .ok (.iconst 1, 1) := by decide +kernel
theorem dX1_digest_23 : decode cX1_digest 23 = .ok (.aload_n 0, 1) := by decide +kernel
theorem dX1_digest_24 : decode cX1_digest 24 = .ok (.getfield 122, 3) := by decide +kernel
theorem dX1_digest_27 : decode cX1_digest 27 = .ok (.bipush 48, 2) := by decide +kernel
theorem dX1_digest_29 : decode cX1_digest 29 = .ok (.irem, 1) := by decide +kernel
theorem dX1_digest_30 : decode cX1_digest 30 = .ok (.iastore, 1) := by decide +kernel
theorem dX1_digest_31 : decode cX1_digest 31 = .ok (.dup, 1) := by decide +kernel
theorem dX1_digest_32 : decode cX1_digest 32 = .ok (.iconst 2, 1) := by decide +kernel
theorem dX1_digest_33 : decode cX1_digest 33 = .ok (.aload_n 0, 1) := by decide +kernel
theorem dX1_digest_34 : decode cX1_digest 34 = .ok (.iload_n 1, 1) := by decide +kernel
theorem dX1_digest_35 : decode cX1_digest 35 = .ok (.invokevirtual 71, 3) := by decide +kernel
theorem dX1_digest_38 : decode cX1_digest 38 = .ok (.iastore, 1) := by decide +kernel
theorem dX1_digest_39 : decode cX1_digest 39 = .ok (.dup, 1) := by decide +kernel
theorem dX1_digest_40 : decode cX1_digest 40 = .ok (.iconst 3, 1) := by decide +kernel
theorem dX1_digest_41 : decode cX1_digest 41 = .ok (.iload_n 1, 1) := by decide +kernel
theorem dX1_digest_42 : decode cX1_digest 42 = .ok (.invokestatic 74, 3) := by decide +kernel
theorem dX1_digest_45 : decode cX1_digest 45 = .ok (.iastore, 1) := by decide +kernel
theorem dX1_digest_46 : decode cX1_digest 46 = .ok (.dup, 1) := by decide +kernel
theorem dX1_digest_47 : decode cX1_digest 47 = .ok (.iconst 4, 1) := by decide +kernel
theorem dX1_digest_48 : decode cX1_digest 48 = .ok (.aload_n 0, 1) := by decide +kernel
theorem dX1_digest_49 : decode cX1_digest 49 = .ok (.getfield 51, 3) := by decide +kernel
theorem dX1_digest_52 : decode cX1_digest 52 = .ok (.iastore, 1) := by decide +kernel
theorem dX1_digest_53 : decode cX1_digest 53 = .ok (.dup, 1) := by decide +kernel
theorem dX1_digest_54 : decode cX1_digest 54 = .ok (.iconst 5, 1) := by decide +kernel
theorem dX1_digest_55 : decode cX1_digest 55 = .ok (.aload_n 0, 1) := by decide +kernel
theorem dX1_digest_56 : decode cX1_digest 56 = .ok (.getfield 58, 3) := by decide +kernel
theorem dX1_digest_59 : decode cX1_digest 59 = .ok (.iastore, 1) := by decide +kernel
theorem dX1_digest_60 : decode cX1_digest 60 = .ok (.dup, 1) := by decide +kernel
theorem dX1_digest_61 : decode cX1_digest 61 = .ok (.bipush 6, 2) := by decide +kernel
theorem dX1_digest_63 : decode cX1_digest 63 = .ok (.aload_n 0, 1) := by decide +kernel
theorem dX1_digest_64 : decode cX1_digest 64 = .ok (.getfield 61, 3) := by decide +kernel
theorem dX1_digest_67 : decode cX1_digest 67 = .ok (.iastore, 1) := by decide +kernel
theorem dX1_digest_68 : decode cX1_digest 68 = .ok (.dup, 1) := by decide +kernel
theorem dX1_digest_69 : decode cX1_digest 69 = .ok (.bipush 7, 2) := by decide +kernel
theorem dX1_digest_71 : decode cX1_digest 71 = .ok (.aload_n 0, 1) := by decide +kernel
theorem dX1_digest_72 : decode cX1_digest 72 = .ok (.invokevirtual 138, 3) := by decide +kernel
theorem dX1_digest_75 : decode cX1_digest 75 = .ok (.iastore, 1) := by decide +kernel
theorem dX1_digest_76 : decode cX1_digest 76 = .ok (.dup, 1) := by decide +kernel
theorem dX1_digest_77 : decode cX1_digest 77 = .ok (.bipush 8, 2) := by decide +kernel
theorem dX1_digest_79 : decode cX1_digest 79 = .ok (.aload_n 0, 1) := by decide +kernel
theorem dX1_digest_80 : decode cX1_digest 80 = .ok (.getfield 68, 3) := by decide +kernel
theorem dX1_digest_83 : decode cX1_digest 83 = .ok (.iastore, 1) := by decide +kernel
theorem dX1_digest_84 : decode cX1_digest 84 = .ok (.astore_n 2, 1) := by decide +kernel
theorem dX1_digest_85 : decode cX1_digest 85 = .ok (.ldc2_w 148, 3) := by decide +kernel
theorem dX1_digest_88 : decode cX1_digest 88 = .ok (.lstore_n 3, 1) := by decide +kernel
theorem dX1_digest_89 : decode cX1_digest 89 = .ok (.aload_n 2, 1) := by decide +kernel
theorem dX1_digest_90 : decode cX1_digest 90 = .ok (.astore 5, 2) := by decide +kernel
theorem dX1_digest_92 : decode cX1_digest 92 = .ok (.aload 5, 2) := by decide +kernel
theorem dX1_digest_94 : decode cX1_digest 94 = .ok (.arraylength, 1) := by decide +kernel
theorem dX1_digest_95 : decode cX1_digest 95 = .ok (.istore 6, 2) := by decide +kernel
theorem dX1_digest_97 : decode cX1_digest 97 = .ok (.iconst 0, 1) := by decide +kernel
theorem dX1_digest_98 : decode cX1_digest 98 = .ok (.istore 7, 2) := by decide +kernel
theorem dX1_digest_100 : decode cX1_digest 100 = .ok (.iload 7, 2) := by decide +kernel
theorem dX1_digest_102 : decode cX1_digest 102 = .ok (.iload 6, 2) := by decide +kernel
theorem dX1_digest_104 : decode cX1_digest 104 = .ok (.if_icmp .ge 26, 3) := by decide +kernel
theorem dX1_digest_107 : decode cX1_digest 107 = .ok (.aload 5, 2) := by decide +kernel
theorem dX1_digest_109 : decode cX1_digest 109 = .ok (.iload 7, 2) := by decide +kernel
theorem dX1_digest_111 : decode cX1_digest 111 = .ok (.iaload, 1) := by decide +kernel
theorem dX1_digest_112 : decode cX1_digest 112 = .ok (.istore 8, 2) := by decide +kernel
theorem dX1_digest_114 : decode cX1_digest 114 = .ok (.lload_n 3, 1) := by decide +kernel
theorem dX1_digest_115 : decode cX1_digest 115 = .ok (.ldc2_w 150, 3) := by decide +kernel
theorem dX1_digest_118 : decode cX1_digest 118 = .ok (.lmul, 1) := by decide +kernel
theorem dX1_digest_119 : decode cX1_digest 119 = .ok (.iload 8, 2) := by decide +kernel
theorem dX1_digest_121 : decode cX1_digest 121 = .ok (.i2l, 1) := by decide +kernel
theorem dX1_digest_122 : decode cX1_digest 122 = .ok (.ladd, 1) := by decide +kernel
theorem dX1_digest_123 : decode cX1_digest 123 = .ok (.lstore_n 3, 1) := by decide +kernel
theorem dX1_digest_124 : decode cX1_digest 124 = .ok (.iinc 7 1, 3) := by decide +kernel
theorem dX1_digest_127 : decode cX1_digest 127 = .ok (.goto (-27), 3) := by decide +kernel
theorem dX1_digest_130 : decode cX1_digest 130 = .ok (.iconst 0, 1) := by decide +kernel
theorem dX1_digest_131 : decode cX1_digest 131 = .ok (.istore 5, 2) := by decide +kernel
theorem dX1_digest_133 : decode cX1_digest 133 = .ok (.iload 5, 2) := by decide +kernel
theorem dX1_digest_135 : decode cX1_digest 135 = .ok (.iconst 4, 1) := by decide +kernel
theorem dX1_digest_136 : decode cX1_digest 136 = .ok (.if_icmp .ge 24, 3) := by decide +kernel
theorem dX1_digest_139 : decode cX1_digest 139 = .ok (.lload_n 3, 1) := by decide +kernel
theorem dX1_digest_140 : decode cX1_digest 140 = .ok (.ldc2_w 150, 3) := by decide +kernel
theorem dX1_digest_143 : decode cX1_digest 143 = .ok (.lmul, 1) := by decide +kernel
theorem dX1_digest_144 : decode cX1_digest 144 = .ok (.aload_n 0, 1) := by decide +kernel
theorem dX1_digest_145 : decode cX1_digest 145 = .ok (.getfield 41, 3) := by decide +kernel
theorem dX1_digest_148 : decode cX1_digest 148 = .ok (.iload 5, 2) := by decide +kernel
theorem dX1_digest_150 : decode cX1_digest 150 = .ok (.iaload, 1) := by decide +kernel
theorem dX1_digest_151 : decode cX1_digest 151 = .ok (.i2l, 1) := by decide +kernel
theorem dX1_digest_152 : decode cX1_digest 152 = .ok (.ladd, 1) := by decide +kernel
theorem dX1_digest_153 : decode cX1_digest 153 = .ok (.lstore_n 3, 1) := by decide +kernel
theorem dX1_digest_154 : decode cX1_digest 154 = .ok (.iinc 5 1, 3) := by decide +kernel
theorem dX1_digest_157 : decode cX1_digest 157 = .ok (.goto (-24), 3) := by decide +kernel
theorem dX1_digest_160 : decode cX1_digest 160 = .ok (.iconst 0, 1) := by decide +kernel
theorem dX1_digest_161 : decode cX1_digest 161 = .ok (.istore 5, 2) := by decide +kernel
theorem dX1_digest_163 : decode cX1_digest 163 = .ok (.iload 5, 2) := by decide +kernel
theorem dX1_digest_165 : decode cX1_digest 165 = .ok (.aload_n 0, 1) := by decide +kernel
theorem dX1_digest_166 : decode cX1_digest 166 = .ok (.getfield 58, 3) := by decide +kernel
theorem dX1_digest_169 : decode cX1_digest 169 = .ok (.if_icmp .ge 138, 3) := by decide +kernel
theorem dX1_digest_172 : decode cX1_digest 172 = .ok (.lload_n 3, 1) := by decide +kernel
theorem dX1_digest_173 : decode cX1_digest 173 = .ok (.ldc2_w 150, 3) := by decide +kernel
theorem dX1_digest_176 : decode cX1_digest 176 = .ok (.lmul, 1) := by decide +kernel
theorem dX1_digest_177 : decode cX1_digest 177 = .ok (.aload_n 0, 1) := by decide +kernel
theorem dX1_digest_178 : decode cX1_digest 178 = .ok (.getfield 9, 3) := by decide +kernel
theorem dX1_digest_181 : decode cX1_digest 181 = .ok (.iload 5, 2) := by decide +kernel
theorem dX1_digest_183 : decode cX1_digest 183 = .ok (.iaload, 1) := by decide +kernel
theorem dX1_digest_184 : decode cX1_digest 184 = .ok (.i2l, 1) := by decide +kernel
theorem dX1_digest_185 : decode cX1_digest 185 = .ok (.ladd, 1) := by decide +kernel
theorem dX1_digest_186 : decode cX1_digest 186 = .ok (.lstore_n 3, 1) := by decide +kernel
theorem dX1_digest_187 : decode cX1_digest 187 = .ok (.lload_n 3, 1) := by decide +kernel
theorem dX1_digest_188 : decode cX1_digest 188 = .ok (.ldc2_w 150, 3) := by decide +kernel
theorem dX1_digest_191 : decode cX1_digest 191 = .ok (.lmul, 1) := by decide +kernel
theorem dX1_digest_192 : decode cX1_digest 192 = .ok (.aload_n 0, 1) := by decide +kernel
theorem dX1_digest_193 : decode cX1_digest 193 = .ok (.getfield 19, 3) := by decide +kernel
theorem dX1_digest_196 : decode cX1_digest 196 = .ok (.iload 5, 2) := by decide +kernel
theorem dX1_digest_198 : decode cX1_digest 198 = .ok (.iaload, 1) := by decide +kernel
theorem dX1_digest_199 : decode cX1_digest 199 = .ok (.i2l, 1) := by decide +kernel
theorem dX1_digest_200 : decode cX1_digest 200 = .ok (.ladd, 1) := by decide +kernel
theorem dX1_digest_201 : decode cX1_digest 201 = .ok (.lstore_n 3, 1) := by decide +kernel
theorem dX1_digest_202 : decode cX1_digest 202 = .ok (.lload_n 3, 1) := by decide +kernel
theorem dX1_digest_203 : decode cX1_digest 203 = .ok (.ldc2_w 150, 3) := by decide +kernel
theorem dX1_digest_206 : decode cX1_digest 206 = .ok (.lmul, 1) := by decide +kernel
theorem dX1_digest_207 : decode cX1_digest 207 = .ok (.aload_n 0, 1) := by decide +kernel
theorem dX1_digest_208 : decode cX1_digest 208 = .ok (.getfield 25, 3) := by decide +kernel
theorem dX1_digest_211 : decode cX1_digest 211 = .ok (.iload 5, 2) := by decide +kernel
theorem dX1_digest_213 : decode cX1_digest 213 = .ok (.baload, 1) := by decide +kernel
theorem dX1_digest_214 : decode cX1_digest 214 = .ok (.ifCond .eq 7, 3) := by decide +kernel
theorem dX1_digest_217 : decode cX1_digest 217 = .ok (.iconst 1, 1) := by decide +kernel
theorem dX1_digest_218 : decode cX1_digest 218 = .ok (.goto 4, 3) := by decide +kernel
theorem dX1_digest_221 : decode cX1_digest 221 = .ok (.iconst 0, 1) := by decide +kernel
theorem dX1_digest_222 : decode cX1_digest 222 = .ok (.i2l, 1) := by decide +kernel
theorem dX1_digest_223 : decode cX1_digest 223 = .ok (.ladd, 1) := by decide +kernel
theorem dX1_digest_224 : decode cX1_digest 224 = .ok (.lstore_n 3, 1) := by decide +kernel
theorem dX1_digest_225 : decode cX1_digest 225 = .ok (.lload_n 3, 1) := by decide +kernel
theorem dX1_digest_226 : decode cX1_digest 226 = .ok (.ldc2_w 150, 3) := by decide +kernel
theorem dX1_digest_229 : decode cX1_digest 229 = .ok (.lmul, 1) := by decide +kernel
theorem dX1_digest_230 : decode cX1_digest 230 = .ok (.aload_n 0, 1) := by decide +kernel
theorem dX1_digest_231 : decode cX1_digest 231 = .ok (.iload 5, 2) := by decide +kernel
theorem dX1_digest_233 : decode cX1_digest 233 = .ok (.aload_n 0, 1) := by decide +kernel
theorem dX1_digest_234 : decode cX1_digest 234 = .ok (.getfield 122, 3) := by decide +kernel
theorem dX1_digest_237 : decode cX1_digest 237 = .ok (.invokevirtual 81, 3) := by decide +kernel
theorem dX1_digest_240 : decode cX1_digest 240 = .ok (.ifCond .eq 7, 3) := by decide +kernel
theorem dX1_digest_243 : decode cX1_digest 243 = .ok (.iconst 1, 1) := by decide +kernel
theorem dX1_digest_244 : decode cX1_digest 244 = .ok (.goto 4, 3) := by decide +kernel
theorem dX1_digest_247 : decode cX1_digest 247 = .ok (.iconst 0, 1) := by decide +kernel
theorem dX1_digest_248 : decode cX1_digest 248 = .ok (.i2l, 1) := by decide +kernel
theorem dX1_digest_249 : decode cX1_digest 249 = .ok (.ladd, 1) := by decide +kernel
theorem dX1_digest_250 : decode cX1_digest 250 = .ok (.lstore_n 3, 1) := by decide +kernel
theorem dX1_digest_251 : decode cX1_digest 251 = .ok (.lload_n 3, 1) := by decide +kernel
theorem dX1_digest_252 : decode cX1_digest 252 = .ok (.ldc2_w 150, 3) := by decide +kernel
theorem dX1_digest_255 : decode cX1_digest 255 = .ok (.lmul, 1) := by decide +kernel
theorem dX1_digest_256 : decode cX1_digest 256 = .ok (.aload_n 0, 1) := by decide +kernel
theorem dX1_digest_257 : decode cX1_digest 257 = .ok (.iload 5, 2) := by decide +kernel
theorem dX1_digest_259 : decode cX1_digest 259 = .ok (.invokevirtual 125, 3) := by decide +kernel
theorem dX1_digest_262 : decode cX1_digest 262 = .ok (.i2l, 1) := by decide +kernel
theorem dX1_digest_263 : decode cX1_digest 263 = .ok (.ladd, 1) := by decide +kernel
theorem dX1_digest_264 : decode cX1_digest 264 = .ok (.lstore_n 3, 1) := by decide +kernel
theorem dX1_digest_265 : decode cX1_digest 265 = .ok (.iconst 0, 1) := by decide +kernel
theorem dX1_digest_266 : decode cX1_digest 266 = .ok (.istore 6, 2) := by decide +kernel
theorem dX1_digest_268 : decode cX1_digest 268 = .ok (.iload 6, 2) := by decide +kernel
theorem dX1_digest_270 : decode cX1_digest 270 = .ok (.bipush 8, 2) := by decide +kernel
theorem dX1_digest_272 : decode cX1_digest 272 = .ok (.if_icmp .ge 29, 3) := by decide +kernel
theorem dX1_digest_275 : decode cX1_digest 275 = .ok (.lload_n 3, 1) := by decide +kernel
theorem dX1_digest_276 : decode cX1_digest 276 = .ok (.ldc2_w 150, 3) := by decide +kernel
theorem dX1_digest_279 : decode cX1_digest 279 = .ok (.lmul, 1) := by decide +kernel
theorem dX1_digest_280 : decode cX1_digest 280 = .ok (.aload_n 0, 1) := by decide +kernel
theorem dX1_digest_281 : decode cX1_digest 281 = .ok (.getfield 22, 3) := by decide +kernel
theorem dX1_digest_284 : decode cX1_digest 284 = .ok (.iload 5, 2) := by decide +kernel
theorem dX1_digest_286 : decode cX1_digest 286 = .ok (.iaload, 1) := by decide +kernel
theorem dX1_digest_287 : decode cX1_digest 287 = .ok (.iload 6, 2) := by decide +kernel
theorem dX1_digest_289 : decode cX1_digest 289 = .ok (.ishr, 1) := by decide +kernel
theorem dX1_digest_290 : decode cX1_digest 290 = .ok (.iconst 1, 1) := by decide +kernel
theorem dX1_digest_291 : decode cX1_digest 291 = .ok (.iand, 1) := by decide +kernel
theorem dX1_digest_292 : decode cX1_digest 292 = .ok (.i2l, 1) := by decide +kernel
theorem dX1_digest_293 : decode cX1_digest 293 = .ok (.ladd, 1) := by decide +kernel
theorem dX1_digest_294 : decode cX1_digest 294 = .ok (.lstore_n 3, 1) := by decide +kernel
theorem dX1_digest_295 : decode cX1_digest 295 = .ok (.iinc 6 1, 3) := by decide +kernel
theorem dX1_digest_298 : decode cX1_digest 298 = .ok (.goto (-30), 3) := by decide +kernel
theorem dX1_digest_301 : decode cX1_digest 301 = .ok (.iinc 5 1, 3) := by decide +kernel
theorem dX1_digest_304 : decode cX1_digest 304 = .ok (.goto (-141), 3) := by decide +kernel
theorem dX1_digest_307 : decode cX1_digest 307 = .ok (.iconst 0, 1) := by decide +kernel
theorem dX1_digest_308 : decode cX1_digest 308 = .ok (.istore 5, 2) := by decide +kernel
theorem dX1_digest_310 : decode cX1_digest 310 = .ok (.iload 5, 2) := by decide +kernel
theorem dX1_digest_312 : decode cX1_digest 312 = .ok (.aload_n 0, 1) := by decide +kernel
theorem dX1_digest_313 : decode cX1_digest 313 = .ok (.getfield 61, 3) := by decide +kernel
theorem dX1_digest_316 : decode cX1_digest 316 = .ok (.if_icmp .ge 127, 3) := by decide +kernel
theorem dX1_digest_319 : decode cX1_digest 319 = .ok (.lload_n 3, 1) := by decide +kernel
theorem dX1_digest_320 : decode cX1_digest 320 = .ok (.ldc2_w 150, 3) := by decide +kernel
theorem dX1_digest_323 : decode cX1_digest 323 = .ok (.lmul, 1) := by decide +kernel
theorem dX1_digest_324 : decode cX1_digest 324 = .ok (.aload_n 0, 1) := by decide +kernel
theorem dX1_digest_325 : decode cX1_digest 325 = .ok (.getfield 29, 3) := by decide +kernel
theorem dX1_digest_328 : decode cX1_digest 328 = .ok (.iload 5, 2) := by decide +kernel
theorem dX1_digest_330 : decode cX1_digest 330 = .ok (.iaload, 1) := by decide +kernel
theorem dX1_digest_331 : decode cX1_digest 331 = .ok (.i2l, 1) := by decide +kernel
theorem dX1_digest_332 : decode cX1_digest 332 = .ok (.ladd, 1) := by decide +kernel
theorem dX1_digest_333 : decode cX1_digest 333 = .ok (.lstore_n 3, 1) := by decide +kernel
theorem dX1_digest_334 : decode cX1_digest 334 = .ok (.lload_n 3, 1) := by decide +kernel
theorem dX1_digest_335 : decode cX1_digest 335 = .ok (.ldc2_w 150, 3) := by decide +kernel
theorem dX1_digest_338 : decode cX1_digest 338 = .ok (.lmul, 1) := by decide +kernel
theorem dX1_digest_339 : decode cX1_digest 339 = .ok (.aload_n 0, 1) := by decide +kernel
theorem dX1_digest_340 : decode cX1_digest 340 = .ok (.getfield 35, 3) := by decide +kernel
theorem dX1_digest_343 : decode cX1_digest 343 = .ok (.iload 5, 2) := by decide +kernel
theorem dX1_digest_345 : decode cX1_digest 345 = .ok (.iaload, 1) := by decide +kernel
theorem dX1_digest_346 : decode cX1_digest 346 = .ok (.i2l, 1) := by decide +kernel
theorem dX1_digest_347 : decode cX1_digest 347 = .ok (.ladd, 1) := by decide +kernel
theorem dX1_digest_348 : decode cX1_digest 348 = .ok (.lstore_n 3, 1) := by decide +kernel
theorem dX1_digest_349 : decode cX1_digest 349 = .ok (.lload_n 3, 1) := by decide +kernel
theorem dX1_digest_350 : decode cX1_digest 350 = .ok (.ldc2_w 150, 3) := by decide +kernel
theorem dX1_digest_353 : decode cX1_digest 353 = .ok (.lmul, 1) := by decide +kernel
theorem dX1_digest_354 : decode cX1_digest 354 = .ok (.aload_n 0, 1) := by decide +kernel
theorem dX1_digest_355 : decode cX1_digest 355 = .ok (.getfield 32, 3) := by decide +kernel
theorem dX1_digest_358 : decode cX1_digest 358 = .ok (.iload 5, 2) := by decide +kernel
theorem dX1_digest_360 : decode cX1_digest 360 = .ok (.iaload, 1) := by decide +kernel
theorem dX1_digest_361 : decode cX1_digest 361 = .ok (.i2l, 1) := by decide +kernel
theorem dX1_digest_362 : decode cX1_digest 362 = .ok (.ladd, 1) := by decide +kernel
theorem dX1_digest_363 : decode cX1_digest 363 = .ok (.lstore_n 3, 1) := by decide +kernel
theorem dX1_digest_364 : decode cX1_digest 364 = .ok (.iconst 0, 1) := by decide +kernel
theorem dX1_digest_365 : decode cX1_digest 365 = .ok (.istore 6, 2) := by decide +kernel
theorem dX1_digest_367 : decode cX1_digest 367 = .ok (.iload 6, 2) := by decide +kernel
theorem dX1_digest_369 : decode cX1_digest 369 = .ok (.iconst 4, 1) := by decide +kernel
theorem dX1_digest_370 : decode cX1_digest 370 = .ok (.if_icmp .ge 29, 3) := by decide +kernel
theorem dX1_digest_373 : decode cX1_digest 373 = .ok (.lload_n 3, 1) := by decide +kernel
theorem dX1_digest_374 : decode cX1_digest 374 = .ok (.ldc2_w 150, 3) := by decide +kernel
theorem dX1_digest_377 : decode cX1_digest 377 = .ok (.lmul, 1) := by decide +kernel
theorem dX1_digest_378 : decode cX1_digest 378 = .ok (.aload_n 0, 1) := by decide +kernel
theorem dX1_digest_379 : decode cX1_digest 379 = .ok (.getfield 38, 3) := by decide +kernel
theorem dX1_digest_382 : decode cX1_digest 382 = .ok (.iconst 4, 1) := by decide +kernel
theorem dX1_digest_383 : decode cX1_digest 383 = .ok (.iload 5, 2) := by decide +kernel
theorem dX1_digest_385 : decode cX1_digest 385 = .ok (.imul, 1) := by decide +kernel
theorem dX1_digest_386 : decode cX1_digest 386 = .ok (.iload 6, 2) := by decide +kernel
theorem dX1_digest_388 : decode cX1_digest 388 = .ok (.iadd, 1) := by decide +kernel
theorem dX1_digest_389 : decode cX1_digest 389 = .ok (.iaload, 1) := by decide +kernel
theorem dX1_digest_390 : decode cX1_digest 390 = .ok (.i2l, 1) := by decide +kernel
theorem dX1_digest_391 : decode cX1_digest 391 = .ok (.ladd, 1) := by decide +kernel
theorem dX1_digest_392 : decode cX1_digest 392 = .ok (.lstore_n 3, 1) := by decide +kernel
theorem dX1_digest_393 : decode cX1_digest 393 = .ok (.iinc 6 1, 3) := by decide +kernel
theorem dX1_digest_396 : decode cX1_digest 396 = .ok (.goto (-29), 3) := by decide +kernel
theorem dX1_digest_399 : decode cX1_digest 399 = .ok (.iconst 0, 1) := by decide +kernel
theorem dX1_digest_400 : decode cX1_digest 400 = .ok (.istore 6, 2) := by decide +kernel
theorem dX1_digest_402 : decode cX1_digest 402 = .ok (.iload 6, 2) := by decide +kernel
theorem dX1_digest_404 : decode cX1_digest 404 = .ok (.aload_n 0, 1) := by decide +kernel
theorem dX1_digest_405 : decode cX1_digest 405 = .ok (.getfield 51, 3) := by decide +kernel
theorem dX1_digest_408 : decode cX1_digest 408 = .ok (.if_icmp .ge 29, 3) := by decide +kernel
theorem dX1_digest_411 : decode cX1_digest 411 = .ok (.lload_n 3, 1) := by decide +kernel
theorem dX1_digest_412 : decode cX1_digest 412 = .ok (.ldc2_w 150, 3) := by decide +kernel
theorem dX1_digest_415 : decode cX1_digest 415 = .ok (.lmul, 1) := by decide +kernel
theorem dX1_digest_416 : decode cX1_digest 416 = .ok (.aload_n 0, 1) := by decide +kernel
theorem dX1_digest_417 : decode cX1_digest 417 = .ok (.iload 5, 2) := by decide +kernel
theorem dX1_digest_419 : decode cX1_digest 419 = .ok (.iload 6, 2) := by decide +kernel
theorem dX1_digest_421 : decode cX1_digest 421 = .ok (.aload_n 0, 1) := by decide +kernel
theorem dX1_digest_422 : decode cX1_digest 422 = .ok (.getfield 122, 3) := by decide +kernel
theorem dX1_digest_425 : decode cX1_digest 425 = .ok (.invokevirtual 128, 3) := by decide +kernel
theorem dX1_digest_428 : decode cX1_digest 428 = .ok (.i2l, 1) := by decide +kernel
theorem dX1_digest_429 : decode cX1_digest 429 = .ok (.ladd, 1) := by decide +kernel
theorem dX1_digest_430 : decode cX1_digest 430 = .ok (.lstore_n 3, 1) := by decide +kernel
theorem dX1_digest_431 : decode cX1_digest 431 = .ok (.iinc 6 1, 3) := by decide +kernel
theorem dX1_digest_434 : decode cX1_digest 434 = .ok (.goto (-32), 3) := by decide +kernel
theorem dX1_digest_437 : decode cX1_digest 437 = .ok (.iinc 5 1, 3) := by decide +kernel
theorem dX1_digest_440 : decode cX1_digest 440 = .ok (.goto (-130), 3) := by decide +kernel
theorem dX1_digest_443 : decode cX1_digest 443 = .ok (.lload_n 3, 1) := by decide +kernel
theorem dX1_digest_444 : decode cX1_digest 444 = .ok (.lreturn, 1) := by decide +kernel
theorem dJ9_max_7cf53_0 : decode cJ9_max_7cf53 0 = .ok (.iload_n 0, 1) := by decide +kernel
theorem dJ9_max_7cf53_1 : decode cJ9_max_7cf53 1 = .ok (.iload_n 1, 1) := by decide +kernel
theorem dJ9_max_7cf53_2 : decode cJ9_max_7cf53 2 = .ok (.if_icmp .lt 7, 3) := by decide +kernel
theorem dJ9_max_7cf53_5 : decode cJ9_max_7cf53 5 = .ok (.iload_n 0, 1) := by decide +kernel
theorem dJ9_max_7cf53_6 : decode cJ9_max_7cf53 6 = .ok (.goto 4, 3) := by decide +kernel
theorem dJ9_max_7cf53_9 : decode cJ9_max_7cf53 9 = .ok (.iload_n 1, 1) := by decide +kernel
theorem dJ9_max_7cf53_10 : decode cJ9_max_7cf53 10 = .ok (.ireturn, 1) := by decide +kernel
theorem dJ9_min_7cf53_0 : decode cJ9_min_7cf53 0 = .ok (.iload_n 0, 1) := by decide +kernel
theorem dJ9_min_7cf53_1 : decode cJ9_min_7cf53 1 = .ok (.iload_n 1, 1) := by decide +kernel
theorem dJ9_min_7cf53_2 : decode cJ9_min_7cf53 2 = .ok (.if_icmp .gt 7, 3) := by decide +kernel
theorem dJ9_min_7cf53_5 : decode cJ9_min_7cf53 5 = .ok (.iload_n 0, 1) := by decide +kernel
theorem dJ9_min_7cf53_6 : decode cJ9_min_7cf53 6 = .ok (.goto 4, 3) := by decide +kernel
theorem dJ9_min_7cf53_9 : decode cJ9_min_7cf53 9 = .ok (.iload_n 1, 1) := by decide +kernel
theorem dJ9_min_7cf53_10 : decode cJ9_min_7cf53 10 = .ok (.ireturn, 1) := by decide +kernel
end
section
section STA
/-- the desk's cells: its object h, its arrays a 0 .. a 10 with contents F 0 .. F 10 -/
def Dk (cI cZ : ClassId) (h : Nat) (a : Nat → Nat) (F : Nat → Nat → Int32) (nq no np : Nat) (sh nw : Int32) : va_W := [
  (h, .inr (0, [.ref (a 0), .ref (a 1), .ref (a 2), .ref (a 3), .ref (a 4), .ref (a 5), .ref (a 6), .ref (a 7), .ref (a 8), .ref (a 9), .ref (a 10), .int (nI nq), .int (nI no), .int (nI np), .int sh, .int nw])),
  (a 0, .inl (cI, 10, .inl (F 0))), (a 1, .inl (cI, 10, .inl (F 1))), (a 2, .inl (cI, 10, .inl (F 2))), (a 3, .inl (cI, 10, .inl (F 3))), (a 4, .inl (cZ, 10, .inl (F 4))), (a 5, .inl (cI, 10, .inl (F 5))),
  (a 6, .inl (cI, 20, .inl (F 6))), (a 7, .inl (cI, 20, .inl (F 7))), (a 8, .inl (cI, 20, .inl (F 8))), (a 9, .inl (cI, 80, .inl (F 9))), (a 10, .inl (cI, 4, .inl (F 10)))]
/-- the reference's cells: the same contents in its own order, and two things of its own: thrown, wanted -/
def Mk (cI cZ : ClassId) (h : Nat) (a : Nat → Nat) (F : Nat → Nat → Int32) (nq no np : Nat) (sh nw th : Int32) (wt : Nat → Int32) : va_W := [
  (h, .inr (1, [.int th, .int nw, .int sh, .int (nI nq), .int (nI no), .int (nI np), .ref (a 0), .ref (a 1), .ref (a 2), .ref (a 3), .ref (a 5), .ref (a 4), .ref (a 6), .ref (a 7), .ref (a 8), .ref (a 9), .ref (a 10), .ref (a 11)])),
  (a 0, .inl (cI, 10, .inl (F 0))), (a 1, .inl (cI, 10, .inl (F 1))), (a 2, .inl (cI, 10, .inl (F 2))), (a 3, .inl (cI, 10, .inl (F 3))), (a 4, .inl (cZ, 10, .inl (F 4))), (a 5, .inl (cI, 10, .inl (F 5))),
  (a 6, .inl (cI, 20, .inl (F 6))), (a 7, .inl (cI, 20, .inl (F 7))), (a 8, .inl (cI, 20, .inl (F 8))), (a 9, .inl (cI, 80, .inl (F 9))), (a 10, .inl (cI, 4, .inl (F 10))), (a 11, .inl (cI, 4, .inl wt))]
abbrev ty2 (cI cZ : ClassId) : List (ClassId × FieldType) := [(cI, .int), (cZ, .boolean)]
/-- a world at a state -/
def wP (G : va_G) (tys : List (ClassId × FieldType)) (ww : va_W) (A : Nat → Prop) (t : State) : Prop := va_P G vwCl ww t.heap ∧ va_K G vwCl tys t ∧ va_D A ww
/-- a method's start over a world -/
def wPre (G : va_G) (tys : List (ClassId × FieldType)) (ww : va_W) (sz : Nat) (U : State) : Prop := U.heap.size = sz ∧ va_P G vwCl ww U.heap ∧ va_K G vwCl tys U ∧ va_D (fun _ => True) ww
theorem wPre_blind {G : va_G} {tys : List (ClassId × FieldType)} {ww : va_W} {sz : Nat} {vs : List Value} : FrameBlind (va_Pc vs (wPre G tys ww sz)) := by
  intro a U g mk q
  obtain ⟨q0, q1, qP, qK, qD⟩ := q
  exact ⟨q0, q1, qP, va_K.moved (u := U) (U := U.calling g mk a) (Vm.Alike.refl U.vm) qK, qD⟩
theorem w_pre {s : State} {H : Heap} {G : va_G} {tys : List (ClassId × FieldType)} {ww : va_W} {A : Nat → Prop} {vs : List Value} (hK : va_K G vwCl tys s) (hP : va_P G vwCl ww H) (hD : va_D A ww) : ∀ U : State, U.heap = H → s.WarmedH U.vm → va_Pc vs (wPre G tys ww H.size) vs.toArray U :=
  fun U hU hW => ⟨rfl, by rw [hU], by rw [hU]; exact hP, va_K.moved hW.alike hK, hD.weaken (fun _ _ _ _ => trivial)⟩
/-- the start of a method's walk -/
theorem w_met {l : Launch} {y : MethodName} {ws ws' : List Cond} {rm : Room} {Qc : Array Value → State → Outcome → State → Prop} {mc ms : Nat} {cc : ByteArray} {maxL : Nat} {ret : Option FieldType} {G : va_G} {tys : List (ClassId × FieldType)} {ww : va_W} {sz : Nat} {vs : List Value}
    (hy : plainName y.cls = true) (hw : ws = Cond.code y cc maxL ret :: ws') (hn : (lg_sl vs).length ≤ maxL)
    (body : ∀ (p : Program) (e : Env) (s : State) (m : MethodId) (below : List Frame) (meth : Method) (c : Code), p.tables.exec = Jvm.exec → c.code = cc → c.maxLocals = maxL → meth.sig.returnType = ret → (∀ w ∈ ws, w.before vs.toArray s = true) → s.vm.findClass y.cls = some m.cls → meth.locks = false → meth.name = y.name →
      va_K G vwCl tys s → s.heap.size = sz → va_P G vwCl ww s.heap → va_D (va_A ww sz) ww → (∀ q : Nat, s.heap.size ≤ q → va_A ww sz q) → va_S (va_A ww sz) s.heap s.heap [] → ∀ ls : Array Slot, lv_has ls maxL (lv_args 0 vs) →
      W p l e rm s m vs.toArray below meth c s.heap [] 0 0 (MQ below Qc vs.toArray s mc ms (va_A ww sz)) (F0 m 0 ls [])) :
    Met l y ws rm (va_Pc vs (wPre G tys ww sz)) Qc mc ms (va_A ww sz) := by
  refine Met.ofW (cc := cc) (maxL := maxL) (ret := ret) hy hw ?_
  intro p e s m args below meth c s₁ B hml hv
  obtain ⟨rfl, hsz, hP, hK, hD0⟩ := hv
  have hts := atoms_spec (ws := ws) B.pre
  have hl := lv_entry vs (n := maxL) hn
  rw [lg_entry_eq]
  generalize (lg_sl vs ++ List.replicate (maxL - (lg_sl vs).length) Slot.unset).toArray = ls at hl ⊢
  exact body p e s m below meth c B.exec B.bytes hml B.returns hts (findClass_of_methodNamed B.named) B.notSynchronized (name_of_methodNamed B.named B.method).1 hK hsz hP (hD0.self (sz := sz)) (fun q h => Or.inr (by rw [← hsz]; exact h)) va_S.rf ls hl
section WK
variable {p : Program} {l : Launch} {e : Env} {R : Room} {s : State} {m : MethodId} {args : Array Value} {below : List Frame} {meth : Method} {c : Code} {H : Heap} {locs : List Loc} {cells slots : Nat} {Q : State → Prop}
variable {cc : ByteArray} {pc : Nat} {ls : Array Slot} {rest st0 : List Value} {G : va_G} {tys tysC : List (ClassId × FieldType)} {ww wc wr : va_W} {A : Nat → Prop} {H0 : Heap} {mc ms : Nat} {aa : Array Value}
theorem w_free (hD : va_D A ww) (hS : va_S A H0 H locs) (hA : ∀ q : Nat, H0.size ≤ q → A q) : ∀ q, va_A ww H.size q → A q := fun q h => by
  rcases h with ⟨k, e, hk⟩ | h
  · exact hD.2 k _ hk
  · exact hA q (Nat.le_trans hS.1 h)
/-! ends -/
theorem w_iret {S : Type} {post : Int32 → S → Prop} {w1 : S → va_W} {v : Int32} (u : S) (hx : p.tables.exec = Jvm.exec) (hb : c.code = cc) (hr : meth.sig.returnType = some .int) (hlocks : meth.locks = false)
    (hK : va_K G vwCl tys s) (hP : va_P G vwCl (w1 u) H) (hD : va_D A (w1 u)) (hS : va_S A s.heap H locs) (hc : cells ≤ mc) (hs : slots ≤ ms) (hdg : decode cc pc = .ok (.ireturn, 1)) (hq : post v u) :
    W p l e R s m args below meth c H locs cells slots (MQ below (va_Qi post (fun u => wP G tys (w1 u) A) A) args s mc ms A) (F0 m pc ls [.int v]) :=
  W.widen hc hs (W.iret hx hb hr (fun t ht hW => ⟨⟨v, u, rfl, hq, by rw [ht]; exact hP, va_K.moved hW.alike hK, hD⟩, hS.F ht⟩) hS.2.2 hdg hlocks)
theorem w_zret {S : Type} {post : Int32 → S → Prop} {w1 : S → va_W} {v : Int32} (u : S) (hx : p.tables.exec = Jvm.exec) (hb : c.code = cc) (hr : meth.sig.returnType = some .boolean) (hlocks : meth.locks = false)
    (hK : va_K G vwCl tys s) (hP : va_P G vwCl (w1 u) H) (hD : va_D A (w1 u)) (hS : va_S A s.heap H locs) (hc : cells ≤ mc) (hs : slots ≤ ms) (hdg : decode cc pc = .ok (.ireturn, 1)) (hn : narrow .boolean (.int v) = .int v) (hq : post v u) :
    W p l e R s m args below meth c H locs cells slots (MQ below (va_Qi post (fun u => wP G tys (w1 u) A) A) args s mc ms A) (F0 m pc ls [.int v]) :=
  W.widen hc hs (W.zret hx hb hr hn (fun t ht hW => ⟨⟨v, u, rfl, hq, by rw [ht]; exact hP, va_K.moved hW.alike hK, hD⟩, hS.F ht⟩) hS.2.2 hdg hlocks)
theorem w_lret {S : Type} {post : Int64 → S → Prop} {w1 : S → va_W} {v : Int64} (u : S) (hx : p.tables.exec = Jvm.exec) (hb : c.code = cc) (hr : meth.sig.returnType = some .long) (hlocks : meth.locks = false)
    (hK : va_K G vwCl tys s) (hP : va_P G vwCl (w1 u) H) (hD : va_D A (w1 u)) (hS : va_S A s.heap H locs) (hc : cells ≤ mc) (hs : slots ≤ ms) (hdg : decode cc pc = .ok (.lreturn, 1)) (hq : post v u) :
    W p l e R s m args below meth c H locs cells slots (MQ below (va_Ql post (fun u => wP G tys (w1 u) A) A) args s mc ms A) (F0 m pc ls [.long v]) :=
  W.widen hc hs (W.lret hx hb hr (fun t ht hW => ⟨⟨v, u, rfl, hq, by rw [ht]; exact hP, va_K.moved hW.alike hK, hD⟩, hS.F ht⟩) hS.2.2 hdg hlocks)
theorem w_dret {S : Type} {post : UInt64 → S → Prop} {w1 : S → va_W} {v : UInt64} (u : S) (hx : p.tables.exec = Jvm.exec) (hb : c.code = cc) (hr : meth.sig.returnType = some .double) (hlocks : meth.locks = false)
    (hK : va_K G vwCl tys s) (hP : va_P G vwCl (w1 u) H) (hD : va_D A (w1 u)) (hS : va_S A s.heap H locs) (hc : cells ≤ mc) (hs : slots ≤ ms) (hdg : decode cc pc = .ok (.dreturn, 1)) (hq : post v u) :
    W p l e R s m args below meth c H locs cells slots (MQ below (va_Qd post (fun u => wP G tys (w1 u) A) A) args s mc ms A) (F0 m pc ls [.double v]) :=
  W.widen hc hs (W.dret hx hb hr (fun t ht hW => ⟨⟨v, u, rfl, hq, by rw [ht]; exact hP, va_K.moved hW.alike hK, hD⟩, hS.F ht⟩) hS.2.2 hdg hlocks)
theorem w_vret {S : Type} {post : S → Prop} {w1 : S → va_W} (u : S) (hx : p.tables.exec = Jvm.exec) (hb : c.code = cc) (hr : meth.sig.returnType = none) (hlocks : meth.locks = false)
    (hK : va_K G vwCl tys s) (hP : va_P G vwCl (w1 u) H) (hD : va_D A (w1 u)) (hS : va_S A s.heap H locs) (hc : cells ≤ mc) (hs : slots ≤ ms) (hdg : decode cc pc = .ok (.return_, 1)) (hq : post u) :
    W p l e R s m args below meth c H locs cells slots (MQ below (va_Qv post (fun u => wP G tys (w1 u) A) A) args s mc ms A) (F0 m pc ls []) :=
  W.widen hc hs (W.vret hx hb hr (fun t ht hW => ⟨⟨u, rfl, hq, by rw [ht]; exact hP, va_K.moved hW.alike hK, hD⟩, hS.F ht⟩) hS.2.2 hdg hlocks)
/-! calls over the whole world -/
theorem w_in_i {S : Type} {post : Int32 → S → Prop} {w1 : S → va_W} (hr : va_Run p l e R s m args below meth c H locs cells slots mc ms (F0 m pc ls st0) rest (va_Qi post (fun u => wP G tys (w1 u) (va_A ww H.size)) (va_A ww H.size) aa) (va_A ww H.size))
    (hD : va_D A ww) (hS : va_S A H0 H locs) (hA : ∀ q : Nat, H0.size ≤ q → A q)
    (kk : ∀ (r : Int32) (u : S) (H1 : Heap) (locs1 : List Loc), post r u → va_P G vwCl (w1 u) H1 → va_D A (w1 u) → va_S A H0 H1 locs1 → W p l e R s m args below meth c H1 locs1 (cells + mc) (slots + ms) Q (F0 m (pc + 3) ls (.int r :: rest))) : W p l e R s m args below meth c H locs cells slots Q (F0 m pc ls st0) := by
  have hF := w_free hD hS hA
  refine va_calli hr hS (fun q _ h => hF q h) hF (fun r u t H1 locs1 ht hvm hw hB hz hk hS1 => ?_)
  obtain ⟨hP1, hK1, hD1⟩ := hB
  rw [ht] at hP1
  exact kk r u H1 locs1 hw hP1 (hD1.weaken (fun _ _ _ h => hF _ h)) hS1
theorem w_in_l {S : Type} {post : Int64 → S → Prop} {w1 : S → va_W} (hr : va_Run p l e R s m args below meth c H locs cells slots mc ms (F0 m pc ls st0) rest (va_Ql post (fun u => wP G tys (w1 u) (va_A ww H.size)) (va_A ww H.size) aa) (va_A ww H.size))
    (hD : va_D A ww) (hS : va_S A H0 H locs) (hA : ∀ q : Nat, H0.size ≤ q → A q)
    (kk : ∀ (r : Int64) (u : S) (H1 : Heap) (locs1 : List Loc), post r u → va_P G vwCl (w1 u) H1 → va_D A (w1 u) → va_S A H0 H1 locs1 → W p l e R s m args below meth c H1 locs1 (cells + mc) (slots + ms) Q (F0 m (pc + 3) ls (.long r :: rest))) : W p l e R s m args below meth c H locs cells slots Q (F0 m pc ls st0) := by
  have hF := w_free hD hS hA
  refine va_calll hr hS (fun q _ h => hF q h) hF (fun r u t H1 locs1 ht hvm hw hB hz hk hS1 => ?_)
  obtain ⟨hP1, hK1, hD1⟩ := hB
  rw [ht] at hP1
  exact kk r u H1 locs1 hw hP1 (hD1.weaken (fun _ _ _ h => hF _ h)) hS1
theorem w_in_v {S : Type} {post : S → Prop} {w1 : S → va_W} (hr : va_Run p l e R s m args below meth c H locs cells slots mc ms (F0 m pc ls st0) rest (va_Qv post (fun u => wP G tys (w1 u) (va_A ww H.size)) (va_A ww H.size) aa) (va_A ww H.size))
    (hD : va_D A ww) (hS : va_S A H0 H locs) (hA : ∀ q : Nat, H0.size ≤ q → A q)
    (kk : ∀ (u : S) (H1 : Heap) (locs1 : List Loc), post u → va_P G vwCl (w1 u) H1 → va_D A (w1 u) → va_S A H0 H1 locs1 → W p l e R s m args below meth c H1 locs1 (cells + mc) (slots + ms) Q (F0 m (pc + 3) ls rest)) : W p l e R s m args below meth c H locs cells slots Q (F0 m pc ls st0) := by
  have hF := w_free hD hS hA
  refine va_callv hr hS (fun q _ h => hF q h) hF (fun u t H1 locs1 ht hvm hw hB hz hk hS1 => ?_)
  obtain ⟨hP1, hK1, hD1⟩ := hB
  rw [ht] at hP1
  exact kk u H1 locs1 hw hP1 (hD1.weaken (fun _ _ _ h => hF _ h)) hS1
/-! calls of static methods without a world -/
theorem w_keep0 (hP : va_P G vwCl ww H) {H1 : Heap} (hk : ∀ q : Nat, q < H.size → ¬ va_A [] H.size q → H1[q]? = H[q]?) : va_P G vwCl ww H1 := hP.kept (fun k q hq => hk q.1 ((hP k q hq).lt) (fun h => by
  rcases h with ⟨k, e, hk⟩ | h
  · simp at hk
  · exact absurd ((hP _ q hq).lt) (Nat.not_lt.mpr h)))
theorem w_free0 (hS : va_S A H0 H locs) (hA : ∀ q : Nat, H0.size ≤ q → A q) : ∀ q, va_A [] H.size q → A q := fun q h => by
  rcases h with ⟨k, e, hk⟩ | h
  · simp at hk
  · exact hA q (Nat.le_trans hS.1 h)
theorem w_st_i {S : Type} {post : Int32 → S → Prop} {B : S → State → Prop} (hr : va_Run p l e R s m args below meth c H locs cells slots mc ms (F0 m pc ls st0) rest (va_Qi post B (va_A [] H.size) aa) (va_A [] H.size))
    (hP : va_P G vwCl ww H) (hS : va_S A H0 H locs) (hA : ∀ q : Nat, H0.size ≤ q → A q)
    (kk : ∀ (r : Int32) (u : S) (H1 : Heap) (locs1 : List Loc), post r u → va_P G vwCl ww H1 → va_S A H0 H1 locs1 → W p l e R s m args below meth c H1 locs1 (cells + mc) (slots + ms) Q (F0 m (pc + 3) ls (.int r :: rest))) : W p l e R s m args below meth c H locs cells slots Q (F0 m pc ls st0) := by
  have hF := w_free0 hS hA
  exact va_calli hr hS (fun q _ h => hF q h) hF (fun r u t H1 locs1 ht hvm hw hB hz hk hS1 => kk r u H1 locs1 hw (w_keep0 hP hk) hS1)
theorem w_st_l {S : Type} {post : Int64 → S → Prop} {B : S → State → Prop} (hr : va_Run p l e R s m args below meth c H locs cells slots mc ms (F0 m pc ls st0) rest (va_Ql post B (va_A [] H.size) aa) (va_A [] H.size))
    (hP : va_P G vwCl ww H) (hS : va_S A H0 H locs) (hA : ∀ q : Nat, H0.size ≤ q → A q)
    (kk : ∀ (r : Int64) (u : S) (H1 : Heap) (locs1 : List Loc), post r u → va_P G vwCl ww H1 → va_S A H0 H1 locs1 → W p l e R s m args below meth c H1 locs1 (cells + mc) (slots + ms) Q (F0 m (pc + 3) ls (.long r :: rest))) : W p l e R s m args below meth c H locs cells slots Q (F0 m pc ls st0) := by
  have hF := w_free0 hS hA
  exact va_calll hr hS (fun q _ h => hF q h) hF (fun r u t H1 locs1 ht hvm hw hB hz hk hS1 => kk r u H1 locs1 hw (w_keep0 hP hk) hS1)
theorem w_st_v {S : Type} {post : S → Prop} {B : S → State → Prop} (hr : va_Run p l e R s m args below meth c H locs cells slots mc ms (F0 m pc ls st0) rest (va_Qv post B (va_A [] H.size) aa) (va_A [] H.size))
    (hP : va_P G vwCl ww H) (hS : va_S A H0 H locs) (hA : ∀ q : Nat, H0.size ≤ q → A q)
    (kk : ∀ (u : S) (H1 : Heap) (locs1 : List Loc), post u → va_P G vwCl ww H1 → va_S A H0 H1 locs1 → W p l e R s m args below meth c H1 locs1 (cells + mc) (slots + ms) Q (F0 m (pc + 3) ls rest)) : W p l e R s m args below meth c H locs cells slots Q (F0 m pc ls st0) := by
  have hF := w_free0 hS hA
  exact va_callv hr hS (fun q _ h => hF q h) hF (fun u t H1 locs1 ht hvm hw hB hz hk hS1 => kk u H1 locs1 hw (w_keep0 hP hk) hS1)
/-- x ? a : b over two int constants -/
theorem w_selE {x v1 v2 : Int32} {off off3 n1 n2 : Int} (hx : p.tables.exec = Jvm.exec) (hb : c.code = cc) (d0 : decode cc pc = .ok (.ifCond .eq off, 3)) (t0 : (pc : Int) + off = ((pc + 7 : Nat) : Int)) (d1 : decode cc (pc + 3) = .ok (.iconst n1, 1)) (e1 : Int32.ofInt n1 = v1) (d2 : decode cc (pc + 4) = .ok (.goto off3, 3)) (t2 : ((pc + 4 : Nat) : Int) + off3 = ((pc + 8 : Nat) : Int)) (d3 : decode cc (pc + 7) = .ok (.iconst n2, 1)) (e2 : Int32.ofInt n2 = v2)
    (kk : W p l e R s m args below meth c H locs cells slots Q (F0 m (pc + 8) ls (.int (if x = 0 then v2 else v1) :: rest))) : W p l e R s m args below meth c H locs cells slots Q (F0 m pc ls (.int x :: rest)) := by
  refine lv_if_eq hx hb d0 t0 (fun h => ?_) (fun h => ?_)
  · rw [if_pos h] at kk
    exact lv_iconst hx hb d3 e2 kk
  · rw [if_neg h] at kk
    exact lv_iconst hx hb d1 e1 (lv_goto hx hb d2 t2 kk)
end WK
end STA
end
section
section STX
/-! what a throw stands on: two statics of Throwable, that a class can be cast to itself, the texts -/
def xI : String := "java/lang/IndexOutOfBoundsException"
def xA : String := "java/lang/IllegalArgumentException"
def xS : String := "java/lang/IllegalStateException"
abbrev xN : List String := ["java/lang/RuntimeException", "java/lang/Exception"]
def zB : List Cond := [.castable xI xI, .castable xA xA, .castable xS xS, .declares (Bundle.initS "java/lang/RuntimeException"), .declares (Bundle.initS "java/lang/Exception"), .declares (Bundle.initS Bundle.tN)]
def zT : List (Nat × String) := [(192, "no such quarter"), (195, "no such order"), (197, "no such person"), (199, "no such trade"), (201, "no such colour"), (205, "out of the range that is allowed"), (50, "the town has all its quarters"), (62, "the town has all its people"), (77, "the town has all its orders")]
def zX (A : Nat → Prop) (U : State) (H : Heap) : Prop :=
  vx_Zq Bundle.tN "UNASSIGNED_STACK" Bundle.steD A U H ∧ vx_Zq Bundle.tN "SUPPRESSED_SENTINEL" Bundle.listD A U H ∧ (∀ w ∈ zB, ∀ a' : Array Value, w.before a' U = true) ∧ ∀ q ∈ zT, ∃ sa : Nat, vk_R RX0 q.1 q.2 sa U
theorem zB_moved {s U : State} (h : s.vm.Alike U.vm) {w : Cond} (hw : w ∈ zB) (hc : ∀ a' : Array Value, w.before a' s = true) (a' : Array Value) : w.before a' U = true := by
  have hf : w.faceAtom = true ∧ w.onTables = true := by
    simp only [zB, List.mem_cons, List.not_mem_nil, or_false] at hw
    rcases hw with rfl | rfl | rfl | rfl | rfl | rfl <;> exact ⟨rfl, rfl⟩
  have h1 := Cond.faceAtom_setVm (args := a') h w hf.1 (hc a')
  rw [Cond.onTables_vm (A' := a') (U' := U) U.vm _ hf.2, State.setVm_self] at h1
  exact h1
theorem zX.go {A B : Nat → Prop} {s U : State} {H H1 : Heap} (hW : s.WarmedH U.vm) (hk : ∀ q : Nat, q < H.size → ¬ A q → H1[q]? = H[q]?) (hAB : ∀ q, B q → A q) (h : zX A s H) : zX B U H1 := by
  obtain ⟨h1, h2, h3, h4⟩ := h
  refine ⟨(vx_Zq.moved hW.alike (h1.kept hk)).narrow hAB, (vx_Zq.moved hW.alike (h2.kept hk)).narrow hAB, fun w hw a' => zB_moved hW.alike hw (h3 w hw) a', fun q hq => ?_⟩
  obtain ⟨sa, hsa⟩ := h4 q hq
  exact ⟨sa, vk_R.warm hW hsa⟩
/-- a throwing method's start over a world -/
def wPreX (G : va_G) (tys : List (ClassId × FieldType)) (ww : va_W) (sz : Nat) (U : State) : Prop := wPre G tys ww sz U ∧ zX (va_A ww sz) U U.heap
theorem wPreX_blind {G : va_G} {tys : List (ClassId × FieldType)} {ww : va_W} {sz : Nat} {vs : List Value} : FrameBlind (va_Pc vs (wPreX G tys ww sz)) := by
  intro a U g mk q
  obtain ⟨q0, q1, qZ⟩ := q
  exact ⟨q0, (wPre_blind (vs := vs) a U g mk ⟨q0, q1⟩).2, qZ.go (State.WarmedH.refl U) (fun _ _ _ => rfl) (fun _ h => h)⟩
theorem w_preX {s : State} {H : Heap} {locs : List Loc} {G : va_G} {tysC : List (ClassId × FieldType)} {wc : va_W} {A : Nat → Prop} {vs : List Value} (hK : va_K G vwCl tysC s) (hP : va_P G vwCl wc H) (hD : va_D A wc) (hF : ∀ q, va_A wc H.size q → A q) (hS : va_S A s.heap H locs) (hZ : zX A s s.heap) : ∀ U : State, U.heap = H → s.WarmedH U.vm → va_Pc vs (wPreX G tysC wc H.size) vs.toArray U :=
  fun U hU hW => ⟨rfl, (w_pre (vs := vs) hK hP hD U hU hW).2, hZ.go hW (fun q h1 h2 => by rw [hU]; exact hS.2.1 q h1 h2) hF⟩
/-- how a method of the desk throws: which class, the world as it was -/
def wXC (bad : String → Prop) (G : va_G) (tys : List (ClassId × FieldType)) (ww : va_W) (A : Nat → Prop) : String → State → State → Prop := vx_X (fun _ : Unit => True) (fun E _ t => bad E ∧ wP G tys ww A t) A
theorem w_metX {l : Launch} {y : MethodName} {ws ws' : List Cond} {rm : Room} {Qc : Array Value → State → Outcome → State → Prop} {XC : String → State → State → Prop} {mc ms : Nat} {cc : ByteArray} {maxL : Nat} {ret : Option FieldType} {G : va_G} {tys : List (ClassId × FieldType)} {ww : va_W} {sz : Nat} {vs : List Value}
    (hy : plainName y.cls = true) (hw : ws = Cond.code y cc maxL ret :: ws') (hn : (lg_sl vs).length ≤ maxL)
    (body : ∀ (p : Program) (e : Env) (s : State) (m : MethodId) (below : List Frame) (meth : Method) (c : Code), p.tables.exec = Jvm.exec → c.code = cc → c.maxLocals = maxL → meth.sig.returnType = ret → (∀ w ∈ ws, w.before vs.toArray s = true) → s.vm.findClass y.cls = some m.cls → meth.locks = false → meth.name = y.name → (∀ x ∈ c.exceptionTable.toList, False) → zX (va_A ww sz) s s.heap →
      va_K G vwCl tys s → s.heap.size = sz → va_P G vwCl ww s.heap → va_D (va_A ww sz) ww → (∀ q : Nat, s.heap.size ≤ q → va_A ww sz q) → va_S (va_A ww sz) s.heap s.heap [] → ∀ ls : Array Slot, lv_has ls maxL (lv_args 0 vs) →
      W p l e rm s m vs.toArray below meth c s.heap [] 0 0 (vx_MQ below Qc XC vs.toArray s mc ms (va_A ww sz)) (F0 m 0 ls [])) :
    vx_Met l y ws rm (va_Pc vs (wPreX G tys ww sz)) Qc XC mc ms (va_A ww sz) := by
  refine vx_ofW (cc := cc) (maxL := maxL) (ret := ret) hy hw ?_
  intro p e s m args below meth c s₁ B hml hno hv
  obtain ⟨rfl, ⟨hsz, hP, hK, hD0⟩, hZ⟩ := hv
  have hts := atoms_spec (ws := ws) B.pre
  have hl := lv_entry vs (n := maxL) hn
  rw [lg_entry_eq]
  generalize (lg_sl vs ++ List.replicate (maxL - (lg_sl vs).length) Slot.unset).toArray = ls at hl ⊢
  exact body p e s m below meth c B.exec B.bytes hml B.returns hts (findClass_of_methodNamed B.named) B.notSynchronized (name_of_methodNamed B.named B.method).1 hno hZ hK hsz hP (hD0.self (sz := sz)) (fun q h => Or.inr (by rw [← hsz]; exact h)) va_S.rf ls hl
section WX
variable {p : Program} {l : Launch} {e : Env} {R : Room} {s : State} {m : MethodId} {args : Array Value} {below : List Frame} {meth : Method} {c : Code} {H : Heap} {locs : List Loc} {cells slots : Nat} {Q : State → Prop}
variable {cc : ByteArray} {pc : Nat} {ls : Array Slot} {rest st0 : List Value} {G : va_G} {tys tysC : List (ClassId × FieldType)} {ww wc wr : va_W} {A : Nat → Prop} {H0 : Heap} {mc ms mc1 ms1 : Nat} {aa : Array Value} {Qc : Array Value → State → Outcome → State → Prop}
theorem w_throw {own cls text : String} {ik is ic : Nat} {bad : String → Prop} {Ts : List Cond} (hx : p.tables.exec = Jvm.exec) (hb : c.code = cc) (hfl : l.flags = flags0) (hts : ∀ w ∈ Ts, w.before args s = true) (hown : s.vm.findClass own = some m.cls) (hlocks : meth.locks = false) (hno : ∀ x ∈ c.exceptionTable.toList, False) (hZ : zX A s s.heap)
    (hK : va_K G vwCl tys s) (hP : va_P G vwCl ww H) (hD : va_D A ww) (hS : va_S A s.heap H locs) (hsize : ls.size = c.maxLocals)
    (hcls : Bundle.fit cls = true) (hnames : ∀ n ∈ xN, Bundle.fit n = true) (hk : Cond.classLink own ik cls ∈ Ts) (hini : Cond.initialized cls ∈ Ts) (ho : own = RX0) (hstr : (is, text) ∈ zT)
    (h1 : ∀ w ∈ (vx_atS own ic cls xN).filter goodWord, w ∈ Ts) (h2 : ∀ w ∈ (vx_atS own ic cls xN).filter (fun w => !goodWord w), w ∈ zB) (hgood : ∀ w ∈ Cond.classLink own ik cls :: Cond.initialized cls :: vx_atS own ic cls xN, vx_ot w = true)
    (d0 : decode cc pc = .ok (.new ik, 3)) (d3 : decode cc (pc + 3) = .ok (.dup, 1)) (d4 : decode cc (pc + 4) = .ok (.ldc is, 2)) (d6 : decode cc (pc + 6) = .ok (.invokespecial ic, 3)) (d9 : decode cc (pc + 9) = .ok (.athrow, 1))
    (hRf : 5 < R.frames) (hRl : (rest.map fun v => v.category).sum + 82 ≤ R.locals) (hRc : cells + 1 ≤ R.cells) (hRs : slots + 6 ≤ R.slots) (hc : cells + 1 ≤ mc) (hs : slots + 6 ≤ ms) (hbad : bad cls) :
    W p l e R s m args below meth c H locs cells slots (vx_MQ below Qc (wXC bad G tys ww A) args s mc ms A) (F0 m pc ls rest) := by
  subst ho
  obtain ⟨sa, hsa⟩ := hZ.2.2.2 _ hstr
  have hst : l.stackTraces = false := by rw [Launch.stackTraces, hfl]; decide +kernel
  exact vx_throwS hx hb hst (names := xN) hown hcls hnames (hts _ hk) (hts _ hini) hsa (vx_hat (fun w hw => hts w (h1 w hw)) h2 (fun w hw => hZ.2.2.1 w hw args)) hgood hZ.1 hZ.2.1 hS hsize d0 d3 d4 d6 d9 (fun x hx => (hno x hx).elim) hRf hRl hRc hRs hlocks
    (fun t hal hz hq => ⟨(), trivial, ⟨hbad, hP.kept (fun k q hk => hq q.1 ((hP k q hk).lt)), va_K.moved hal hK, hD⟩, ⟨Nat.le_trans hS.1 hz, fun q h1 h2 => by rw [hq q (Nat.lt_of_lt_of_le h1 hS.1)]; exact hS.2.1 q h1 h2⟩⟩) hS.2.2 hc hs
/-- a callee over the whole world that may throw: what it throws goes on -/
theorem w_prop_v {bad badM : String → Prop} {S : Type} {post : S → Prop} {w1 : S → va_W} (hr : vx_Run p l e R s m args below meth c H locs cells slots mc1 ms1 (F0 m pc ls st0) rest (va_Qv post (fun u => wP G tys (w1 u) (va_A ww H.size)) (va_A ww H.size) aa) (wXC bad G tys ww (va_A ww H.size)) (va_A ww H.size))
    (hK : va_K G vwCl tys s) (hD : va_D A ww) (hS : va_S A s.heap H locs) (hA : ∀ q : Nat, s.heap.size ≤ q → A q) (hno : ∀ x ∈ c.exceptionTable.toList, False) (hlocks : meth.locks = false) (hc : cells + mc1 ≤ mc) (hs : slots + ms1 ≤ ms) (hE : ∀ E, bad E → badM E)
    (kk : ∀ (u : S) (H1 : Heap) (locs1 : List Loc), post u → va_P G vwCl (w1 u) H1 → va_D A (w1 u) → va_S A s.heap H1 locs1 → W p l e R s m args below meth c H1 locs1 (cells + mc1) (slots + ms1) (vx_MQ below Qc (wXC badM G tys ww A) args s mc ms A) (F0 m (pc + 3) ls rest)) : W p l e R s m args below meth c H locs cells slots (vx_MQ below Qc (wXC badM G tys ww A) args s mc ms A) (F0 m pc ls st0) := by
  have hF := w_free hD hS hA
  refine vx_callv hr hS (fun q _ h => hF q h) hF (fun q _ h => hF q h) (fun E ce q9 u t H1 locs1 ht hvm _ hB hz hk hS1 hce hcv hcl => ?_) (fun u t H1 locs1 ht hvm hw hB hz hk hS1 => ?_)
  · obtain ⟨hbad, hP1, hK1, hD1⟩ := hB
    rw [ht] at hP1
    exact vx_out (fun x hx => (hno x hx).elim) hlocks hce hcv hcl (fun t' ht' hal => ⟨(), trivial, ⟨hE E hbad, by rw [ht']; exact hP1, va_K.moved hal hK, hD⟩, hS1.F ht'⟩) hS1.2.2 hc hs
  · obtain ⟨hP1, hK1, hD1⟩ := hB
    rw [ht] at hP1
    exact kk u H1 locs1 hw hP1 (hD1.weaken (fun _ _ _ h => hF _ h)) hS1
/-- a static callee without a world that may throw -/
theorem w_prop0_v {bad badM : String → Prop} {G' : va_G} {tys' : List (ClassId × FieldType)} {S : Type} {post : S → Prop} {B : S → State → Prop} (hr : vx_Run p l e R s m args below meth c H locs cells slots mc1 ms1 (F0 m pc ls st0) rest (va_Qv post B (va_A [] H.size) aa) (wXC bad G' tys' [] (va_A [] H.size)) (va_A [] H.size))
    (hK : va_K G vwCl tys s) (hP : va_P G vwCl ww H) (hD : va_D A ww) (hS : va_S A s.heap H locs) (hA : ∀ q : Nat, s.heap.size ≤ q → A q) (hno : ∀ x ∈ c.exceptionTable.toList, False) (hlocks : meth.locks = false) (hc : cells + mc1 ≤ mc) (hs : slots + ms1 ≤ ms) (hE : ∀ E, bad E → badM E)
    (kk : ∀ (u : S) (H1 : Heap) (locs1 : List Loc), post u → va_P G vwCl ww H1 → va_S A s.heap H1 locs1 → W p l e R s m args below meth c H1 locs1 (cells + mc1) (slots + ms1) (vx_MQ below Qc (wXC badM G tys ww A) args s mc ms A) (F0 m (pc + 3) ls rest)) : W p l e R s m args below meth c H locs cells slots (vx_MQ below Qc (wXC badM G tys ww A) args s mc ms A) (F0 m pc ls st0) := by
  have hF := w_free0 hS hA
  refine vx_callv hr hS (fun q _ h => hF q h) hF (fun q _ h => hF q h) (fun E ce q9 u t H1 locs1 ht hvm _ hB hz hk hS1 hce hcv hcl => ?_) (fun u t H1 locs1 ht hvm hw hB hz hk hS1 => kk u H1 locs1 hw (w_keep0 hP hk) hS1)
  obtain ⟨hbad, -, -, -⟩ := hB
  exact vx_out (fun x hx => (hno x hx).elim) hlocks hce hcv hcl (fun t' ht' hal => ⟨(), trivial, ⟨hE E hbad, by rw [ht']; exact w_keep0 hP hk, va_K.moved hal hK, hD⟩, hS1.F ht'⟩) hS1.2.2 hc hs
end WX
end STX
end
section
section ROW
/-! array rows with a counted index -/
section RW1
variable {p : Program} {l : Launch} {e : Env} {R : Room} {s : State} {m : MethodId} {args : Array Value} {below : List Frame} {meth : Method} {c : Code} {H : Heap} {locs : List Loc} {cells slots : Nat} {Q : State → Prop}
variable {cc : ByteArray} {pc : Nat} {ls : Array Slot} {rest : List Value} {D : va_G} {cl : List vw_C} {A : Nat → Prop} {a : Nat} {tys : List (ClassId × FieldType)} {ws : va_W} {H0 : Heap}
theorem w_iald (hexec : p.tables.exec = Jvm.exec) (hb : c.code = cc) (hK : va_K D cl tys s) (hP : va_P D cl ws H) (q0 t0 : Nat) {cA : ClassId} {n : Nat} {f : Nat → Int32} (ha : ws[q0]? = some (a, .inl (cA, n, .inl f))) (ht : tys[t0]? = some (cA, .int)) {j : Nat} (hj : j < n) (hn : n < 2 ^ 31) (hdg : decode cc pc = .ok (.iaload, 1))
    (kk : W p l e R s m args below meth c H locs cells slots Q (F0 m (pc + 1) ls (.int (f j) :: rest))) : W p l e R s m args below meth c H locs cells slots Q (F0 m pc ls (.int (nI j) :: .ref a :: rest)) :=
  va_iald hexec hb hK hP q0 t0 ha ht (vp_in_nI hj hn) hdg (by rw [nI_clamp (by omega)]; exact kk)
theorem w_zald (hexec : p.tables.exec = Jvm.exec) (hb : c.code = cc) (hK : va_K D cl tys s) (hP : va_P D cl ws H) (q0 t0 : Nat) {cA : ClassId} {n : Nat} {f : Nat → Int32} (ha : ws[q0]? = some (a, .inl (cA, n, .inl f))) (ht : tys[t0]? = some (cA, .boolean)) {j : Nat} (hj : j < n) (hn : n < 2 ^ 31) (hdg : decode cc pc = .ok (.baload, 1))
    (kk : W p l e R s m args below meth c H locs cells slots Q (F0 m (pc + 1) ls (.int (f j) :: rest))) : W p l e R s m args below meth c H locs cells slots Q (F0 m pc ls (.int (nI j) :: .ref a :: rest)) :=
  va_zald hexec hb hK hP q0 t0 ha ht (vp_in_nI hj hn) hdg (by rw [nI_clamp (by omega)]; exact kk)
theorem w_iast (hexec : p.tables.exec = Jvm.exec) (hb : c.code = cc) (hK : va_K D cl tys s) (hP : va_P D cl ws H) (hD : va_D A ws) (hS : va_S A H0 H locs) (q0 t0 : Nat) {cA : ClassId} {n : Nat} {f : Nat → Int32} (ha : ws[q0]? = some (a, .inl (cA, n, .inl f))) (ht : tys[t0]? = some (cA, .int)) {j : Nat} {x : Int32} (hj : j < n) (hn : n < 2 ^ 31) (hdg : decode cc pc = .ok (.iastore, 1))
    (kk : ∀ (H1 : Heap) (locs1 : List Loc), va_P D cl (ws.set q0 (a, .inl (cA, n, .inl (upd f j x)))) H1 → va_D A (ws.set q0 (a, .inl (cA, n, .inl (upd f j x)))) → va_S A H0 H1 locs1 → W p l e R s m args below meth c H1 locs1 cells slots Q (F0 m (pc + 1) ls rest)) : W p l e R s m args below meth c H locs cells slots Q (F0 m pc ls (.int x :: .int (nI j) :: .ref a :: rest)) :=
  va_iast hexec hb hK hP hD hS q0 t0 ha ht (vp_in_nI hj hn) hdg (by rw [nI_clamp (by omega)]; exact kk)
/-- a boolean stored that is 0 or 1 -/
theorem w_zast (hexec : p.tables.exec = Jvm.exec) (hb : c.code = cc) (hK : va_K D cl tys s) (hP : va_P D cl ws H) (hD : va_D A ws) (hS : va_S A H0 H locs) (q0 t0 : Nat) {cA : ClassId} {n : Nat} {f : Nat → Int32} (ha : ws[q0]? = some (a, .inl (cA, n, .inl f))) (ht : tys[t0]? = some (cA, .boolean)) {j : Nat} {x : Int32} (hj : j < n) (hn : n < 2 ^ 31) (hx : vp_nar .boolean x = x) (hdg : decode cc pc = .ok (.bastore, 1))
    (kk : ∀ (H1 : Heap) (locs1 : List Loc), va_P D cl (ws.set q0 (a, .inl (cA, n, .inl (upd f j x)))) H1 → va_D A (ws.set q0 (a, .inl (cA, n, .inl (upd f j x)))) → va_S A H0 H1 locs1 → W p l e R s m args below meth c H1 locs1 cells slots Q (F0 m (pc + 1) ls rest)) : W p l e R s m args below meth c H locs cells slots Q (F0 m pc ls (.int x :: .int (nI j) :: .ref a :: rest)) :=
  va_zast hexec hb hK hP hD hS q0 t0 ha ht (vp_in_nI hj hn) hdg (by rw [nI_clamp (by omega), hx]; exact kk)
theorem w_selN {x v1 v2 : Int32} {off off3 n1 n2 : Int} (hx : p.tables.exec = Jvm.exec) (hb : c.code = cc) (d0 : decode cc pc = .ok (.ifCond .ne off, 3)) (t0 : (pc : Int) + off = ((pc + 7 : Nat) : Int)) (d1 : decode cc (pc + 3) = .ok (.iconst n1, 1)) (e1 : Int32.ofInt n1 = v1) (d2 : decode cc (pc + 4) = .ok (.goto off3, 3)) (t2 : ((pc + 4 : Nat) : Int) + off3 = ((pc + 8 : Nat) : Int)) (d3 : decode cc (pc + 7) = .ok (.iconst n2, 1)) (e2 : Int32.ofInt n2 = v2)
    (kk : W p l e R s m args below meth c H locs cells slots Q (F0 m (pc + 8) ls (.int (if x = 0 then v1 else v2) :: rest))) : W p l e R s m args below meth c H locs cells slots Q (F0 m pc ls (.int x :: rest)) := by
  refine lv_if_ne hx hb d0 t0 (fun h => ?_) (fun h => ?_)
  · rw [if_neg h] at kk
    exact lv_iconst hx hb d3 e2 kk
  · rw [if_pos h] at kk
    exact lv_iconst hx hb d1 e1 (lv_goto hx hb d2 t2 kk)
theorem w_selQ {x y v1 v2 : Int32} {off off3 n1 n2 : Int} (hx : p.tables.exec = Jvm.exec) (hb : c.code = cc) (d0 : decode cc pc = .ok (.if_icmp .ne off, 3)) (t0 : (pc : Int) + off = ((pc + 7 : Nat) : Int)) (d1 : decode cc (pc + 3) = .ok (.iconst n1, 1)) (e1 : Int32.ofInt n1 = v1) (d2 : decode cc (pc + 4) = .ok (.goto off3, 3)) (t2 : ((pc + 4 : Nat) : Int) + off3 = ((pc + 8 : Nat) : Int)) (d3 : decode cc (pc + 7) = .ok (.iconst n2, 1)) (e2 : Int32.ofInt n2 = v2)
    (kk : W p l e R s m args below meth c H locs cells slots Q (F0 m (pc + 8) ls (.int (if x = y then v1 else v2) :: rest))) : W p l e R s m args below meth c H locs cells slots Q (F0 m pc ls (.int y :: .int x :: rest)) := by
  refine lv_icmp_ne hx hb d0 t0 (fun h => ?_) (fun h => ?_)
  · rw [if_neg h] at kk
    exact lv_iconst hx hb d3 e2 kk
  · rw [if_pos h] at kk
    exact lv_iconst hx hb d1 e1 (lv_goto hx hb d2 t2 kk)
end RW1
theorem w_P0 {G : va_G} {H : Heap} : va_P G vwCl [] H := fun k q h => by simp at h
theorem w_D0 {A : Nat → Prop} : va_D A [] := ⟨fun i j p q h => by simp at h, fun k q h => by simp at h⟩
/-! the pure picture: numbers as the machine has them, F the arrays' contents, sh the shift -/
def b2i (b : Bool) : Int32 := if b then 1 else 0
theorem b2i_0 {b : Bool} : b2i b = 0 ↔ b = false := by cases b <;> simp [b2i]
theorem b2i_1 {b : Bool} : ¬ b2i b = 0 ↔ b = true := by cases b <;> simp [b2i]
theorem b2i_n (b : Bool) : narrow .boolean (.int (b2i b)) = .int (b2i b) := by cases b <;> rfl
theorem b2i_v (b : Bool) : vp_nar .boolean (b2i b) = b2i b := by cases b <;> rfl
theorem b2i_sel (b : Bool) : (if b2i b = 0 then (0 : Int32) else 1) = b2i b := by cases b <;> simp [b2i]
theorem b2i_sel' (b : Bool) : (if b2i b = 0 then (1 : Int32) else 0) = b2i (!b) := by cases b <;> simp [b2i]
theorem b2i_z (x : Int32) : (if x = 0 then (0 : Int32) else 1) = b2i (!decide (x = 0)) := by by_cases h : x = 0 <;> simp [b2i, h]
theorem b2i_nz (x : Int32) : (if x = 0 then (1 : Int32) else 0) = b2i (decide (x = 0)) := by by_cases h : x = 0 <;> simp [b2i, h]
theorem b2i_q (x y : Int32) : (if x = y then (1 : Int32) else 0) = b2i (decide (x = y)) := by by_cases h : x = y <;> simp [b2i, h]
theorem b2i_o (b : Bool) : b2i (!decide (b2i b = 0)) = b2i b := by cases b <;> simp [b2i]
theorem b2i_T : b2i true = 1 := rfl
theorem b2i_F : b2i false = 0 := rfl
/-- an index that lies in 0 .. n - 1; a number in a .. b -/
def p_in (x : Int32) (n : Nat) : Bool := decide (0 ≤ x.toInt) && decide (x.toInt < (n : Int))
def p_wi (x a b : Int32) : Bool := decide (a ≤ x) && decide (x ≤ b)
theorem i32_lt0 (x : Int32) : x < 0 ↔ x.toInt < 0 := by
  have h0 : (0 : Int32).toInt = 0 := by decide
  rw [Int32.lt_iff_toInt_lt, h0]
theorem pin_neg {x : Int32} {n : Nat} (h : x < 0) : p_in x n = false := by
  rw [i32_lt0] at h
  simp [p_in]; omega
theorem pin_ge {x : Int32} {n : Nat} (hn : n < 2 ^ 31) (h : ¬ x < nI n) : p_in x n = false := by
  rw [Int32.lt_iff_toInt_lt, nI_toInt hn] at h
  simp [p_in]; omega
theorem pin_ok {x : Int32} {n : Nat} (hn : n < 2 ^ 31) (h0 : ¬ x < 0) (h : x < nI n) : p_in x n = true := by
  rw [i32_lt0] at h0
  rw [Int32.lt_iff_toInt_lt, nI_toInt hn] at h
  simp [p_in]; omega
theorem pin_of {x : Int32} {n : Nat} (h : p_in x n = true) : ∃ j : Nat, j < n ∧ x = nI j := by
  simp only [p_in, Bool.and_eq_true, decide_eq_true_eq] at h
  have h9 := Int32.toInt_lt x
  refine ⟨x.toInt.toNat, by omega, Int32.toInt_inj.mp ?_⟩
  rw [nI_toInt (by omega)]
  omega
theorem pin_nI {j n : Nat} (hj : j < n) (hn : j < 2 ^ 31) : p_in (nI j) n = true := by
  simp [p_in, nI_toInt hn, hj]
theorem pin_vp {x : Int32} {n : Nat} (h : p_in x n = true) : vp_in x n := by
  simp only [p_in, Bool.and_eq_true, decide_eq_true_eq] at h
  exact vp_in_iff.mpr h
theorem pwi_of {x : Int32} {b : Nat} (hb : b < 2 ^ 31) (h : p_wi x 0 (nI b) = true) : ∃ j : Nat, j ≤ b ∧ x = nI j := by
  simp only [p_wi, Bool.and_eq_true, decide_eq_true_eq, Int32.le_iff_toInt_le] at h
  have h0 : (0 : Int32).toInt = 0 := by decide
  rw [h0, nI_toInt hb] at h
  refine ⟨x.toInt.toNat, by omega, Int32.toInt_inj.mp ?_⟩
  rw [nI_toInt (by omega)]
  omega
theorem pwi_lt {x a b : Int32} (h : x < a) : p_wi x a b = false := by
  rw [Int32.lt_iff_toInt_lt] at h
  simp [p_wi, Int32.le_iff_toInt_le]; omega
theorem pwi_gt {x a b : Int32} (h : ¬ x ≤ b) : p_wi x a b = false := by
  simp [p_wi, h]
theorem pwi_ok {x a b : Int32} (h : ¬ x < a) (h2 : x ≤ b) : p_wi x a b = true := by
  rw [Int32.lt_iff_toInt_lt] at h
  simp [p_wi, Int32.le_iff_toInt_le] at *; omega
def p_tide (d : Int32) : Int32 := if 20 ≤ d - d / 40 * 40 then (39 - (d - d / 40 * 40)) / 4 else (d - d / 40 * 40) / 4
def p_dusk (d sh : Int32) : Int32 := 34 + p_tide d + sh
def p_dawn (d : Int32) : Int32 := 14 - p_tide d
def p_at (F : Nat → Nat → Int32) (sh : Int32) (o : Nat) (t : Int32) : Bool := decide (p_dusk (t / 48) sh - F 1 o ≤ t - t / 48 * 48) || !decide (p_dawn (t / 48) + F 2 o ≤ t - t / 48 * 48)
def p_on (F : Nat → Nat → Int32) (sh : Int32) (o : Nat) (t : Int32) : Bool := !decide (F 4 o = 0) && p_at F sh o t
def p_ex (F : Nat → Nat → Int32) (o : Nat) (tr : Int32) : Bool := !decide (F 5 o >>> (tr &&& 31) &&& 1 = 0)
def p_bars (F : Nat → Nat → Int32) (sh : Int32) (o p : Nat) (q t : Int32) : Bool := decide (F 0 o = q) && (!p_ex F o (F 6 p) && p_on F sh o t)
/-! counts and sums -/
def p_ct (b : Nat → Bool) : Nat → Nat
  | 0 => 0
  | n + 1 => p_ct b n + (if b n then 1 else 0)
def p_sm (f : Nat → Int32) : Nat → Int32
  | 0 => 0
  | n + 1 => p_sm f n + f n
theorem ct_t {b : Nat → Bool} {n : Nat} (h : b n = true) : p_ct b (n + 1) = p_ct b n + 1 := by simp [p_ct, h]
theorem ct_f {b : Nat → Bool} {n : Nat} (h : b n = false) : p_ct b (n + 1) = p_ct b n := by simp [p_ct, h]
theorem nct_t {b : Nat → Bool} {n : Nat} (h : b n = true) : nI (p_ct b n) + 1 = nI (p_ct b (n + 1)) := by rw [ct_t h, nI_1]
theorem nct_f {b : Nat → Bool} {n : Nat} (h : b n = false) : nI (p_ct b n) = nI (p_ct b (n + 1)) := by rw [ct_f h]
theorem nct_b {b : Nat → Bool} {n : Nat} : nI (p_ct b n) + b2i (b n) = nI (p_ct b (n + 1)) := by
  cases h : b n
  · rw [ct_f h, b2i_F, Int32.add_zero]
  · rw [ct_t h, b2i_T, nI_1]
theorem ct_le (b : Nat → Bool) : ∀ n, p_ct b n ≤ n
  | 0 => Nat.le_refl 0
  | n + 1 => by have := ct_le b n; simp only [p_ct]; split <;> omega
theorem ct_mono (b : Nat → Bool) {i n : Nat} (h : i ≤ n) : p_ct b i ≤ p_ct b n := by
  induction n with
  | zero => have : i = 0 := by omega
            subst this; exact Nat.le_refl _
  | succ n ih =>
    rcases Nat.lt_or_ge i (n + 1) with q | q
    · have := ih (by omega); simp only [p_ct]; omega
    · have : i = n + 1 := by omega
      subst this; exact Nat.le_refl _
theorem ct_pos {b : Nat → Bool} {i n : Nat} (h : i < n) (hb : b i = true) : p_ct b n ≠ 0 := by
  have h1 := ct_mono b (show i + 1 ≤ n by omega)
  rw [ct_t hb] at h1
  omega
theorem ct_cong {b d : Nat → Bool} : ∀ {n : Nat}, (∀ k, k < n → b k = d k) → p_ct b n = p_ct d n
  | 0, _ => rfl
  | n + 1, h => by simp only [p_ct]; rw [ct_cong (fun k hk => h k (by omega)), h n (by omega)]
theorem sm_cong {b d : Nat → Int32} : ∀ {n : Nat}, (∀ k, k < n → b k = d k) → p_sm b n = p_sm d n
  | 0, _ => rfl
  | n + 1, h => by simp only [p_sm]; rw [sm_cong (fun k hk => h k (by omega)), h n (by omega)]
def p_ag (F : Nat → Nat → Int32) (sh : Int32) (no p : Nat) (q t : Int32) : Nat := p_ct (fun o => p_bars F sh o p q t) no
def p_bd (F : Nat → Nat → Int32) (sh : Int32) (np o : Nat) (t : Int32) : Nat := p_ct (fun p => p_bars F sh o p (F 0 o) t) np
def p_mo (F : Nat → Nat → Int32) (sh : Int32) (no : Nat) (t : Int32) : Nat := p_ct (fun o => p_on F sh o t) no
def p_max0 (y : Int32) : Int32 := if 0 < y then y else 0
def p_need (F : Nat → Nat → Int32) (sh : Int32) (p : Nat) (q t : Int32) (sp : Int32) (c : Nat) (o : Nat) : Bool := !decide (nI o = sp) && (decide (F 3 o = nI c) && p_bars F sh o p q t)
def p_lack (F : Nat → Nat → Int32) (sh : Int32) (no p : Nat) (q t : Int32) (sp : Int32) (c : Nat) : Int32 := p_max0 (nI (p_ct (p_need F sh p q t sp c) no) - F 9 (p * 4 + c))
def p_miss (F : Nat → Nat → Int32) (sh : Int32) (no p : Nat) (q t : Int32) (sp : Int32) : Int32 := p_sm (p_lack F sh no p q t sp) 4
def p_fr (F : Nat → Nat → Int32) (sh : Int32) (no : Nat) (t : Int32) (o p : Nat) : Bool := !decide (p_miss F sh no p (F 0 o) t (-1) ≤ 0) && decide (p_miss F sh no p (F 0 o) t (nI o) = 0)
def p_bl (f : Nat → Nat) : Nat → Int32 × Nat
  | 0 => (-1, 0)
  | o + 1 => if (p_bl f o).2 < f o then (nI o, f o) else p_bl f o
def p_tb (F : Nat → Nat → Int32) (sh nw : Int32) (o w : Nat) : Bool := p_on F sh o (nw + nI (w + 1)) && !p_on F sh o (nw + nI w)
def p_ff (P : Nat → Bool) : Nat → Nat → Int32
  | _, 0 => -1
  | k, n + 1 => if P k then nI k else p_ff P (k + 1) n
def p_use (F : Nat → Nat → Int32) (p c : Nat) : Nat → Nat → Int32 := va_up (va_up F 9 (upd (F 9) (p * 4 + c) (F 9 (p * 4 + c) - 1))) 10 (upd (F 10) c (F 10 c + 1))
def p_us (F : Nat → Nat → Int32) (p c : Nat) : Nat → Nat → Int32 := if F 9 (p * 4 + c) = 0 then F else p_use F p c
def p_go (F : Nat → Nat → Int32) (sh : Int32) (p : Nat) (q t : Int32) : Nat → (Nat → Nat → Int32) × Bool
  | 0 => (F, false)
  | o + 1 => if p_bars F sh o p q t then (p_us (p_go F sh p q t o).1 p (F 3 o).toNatClampNeg, (p_go F sh p q t o).2 || decide ((p_go F sh p q t o).1 9 (p * 4 + (F 3 o).toNatClampNeg) = 0)) else p_go F sh p q t o
def p_fine (F : Nat → Nat → Int32) (p : Nat) : Nat → Nat → Int32 := va_up (va_up F 7 (upd (F 7) p (F 7 p + 1))) 8 (upd (F 8) p (F 8 p + 10 * (F 7 p + 1)))
def p_fold (d : Int64) (x : Int32) : Int64 := d * 31 + x.toInt64
def p_fl (f : Nat → Int32) (d : Int64) : Nat → Int64
  | 0 => d
  | n + 1 => p_fold (p_fl f d n) (f n)
def p_fg (g : Nat → Int64 → Int64) (d : Int64) : Nat → Int64
  | 0 => d
  | n + 1 => g n (p_fg g d n)
def p_fo (F : Nat → Nat → Int32) (sh : Int32) (np : Nat) (t : Int32) (o : Nat) (d : Int64) : Int64 :=
  p_fl (fun tr => b2i (p_ex F o (nI tr))) (p_fold (p_fold (p_fold (p_fold (p_fold d (F 0 o)) (F 3 o)) (b2i (!decide (F 4 o = 0)))) (b2i (p_on F sh o t))) (nI (p_bd F sh np o t))) 8
def p_fp (F : Nat → Nat → Int32) (sh : Int32) (nq no : Nat) (t : Int32) (p : Nat) (d : Int64) : Int64 :=
  p_fl (fun q => nI (p_ag F sh no p (nI q) t)) (p_fl (fun c => F 9 (p * 4 + c)) (p_fold (p_fold (p_fold d (F 6 p)) (F 8 p)) (F 7 p)) 4) nq
def p_dig (F : Nat → Nat → Int32) (nq no np : Nat) (sh nw : Int32) : Int64 :=
  p_fg (p_fp F sh nq no nw) (p_fg (p_fo F sh np nw) (p_fl (F 10)
    (p_fold (p_fold (p_fold (p_fold (p_fold (p_fold (p_fold (p_fold (p_fold 1879 (nw / 48)) (nw - nw / 48 * 48)) (p_dusk (nw / 48) sh)) (p_dawn (nw / 48))) (nI nq)) (nI no)) (nI np)) (nI (p_mo F sh no nw))) sh) 4) no) np
/-! which exception a call throws, by number; 0: none -/
def k1 (b : Bool) : Int32 := if b then 0 else 1
def k2 (b d : Bool) : Int32 := if b then (if d then 0 else 2) else 1
def k3 (b d e : Bool) : Int32 := if b then (if d then (if e then 0 else 3) else 2) else 1
theorem pwi_ofn {x a : Int32} {b : Nat} (ha : 0 ≤ a.toInt) (hb : b < 2 ^ 31) (h : p_wi x a (nI b) = true) : ∃ j : Nat, j ≤ b ∧ x = nI j := by
  simp only [p_wi, Bool.and_eq_true, decide_eq_true_eq, Int32.le_iff_toInt_le] at h
  rw [nI_toInt hb] at h
  refine ⟨x.toInt.toNat, by omega, Int32.toInt_inj.mp ?_⟩
  rw [nI_toInt (by omega)]
  omega
def p_pl (p c : Int32) : Nat := p.toNatClampNeg * 4 + c.toNatClampNeg
def p_cap (y : Int32) : Int32 := if y < 9 then y else 9
/-! what a call leaves behind, where it throws nothing -/
def n_ex (F : Nat → Nat → Int32) (o : Nat) (t : Int32) : Nat → Nat → Int32 := va_up F 5 (upd (F 5) o (F 5 o ^^^ (1 <<< (t &&& 31))))
def n_fo (F : Nat → Nat → Int32) (o : Nat) : Nat → Nat → Int32 := va_up F 4 (upd (F 4) o (b2i (decide (F 4 o = 0))))
def n_st (F : Nat → Nat → Int32) (k : Nat) (v : Int32) : Nat → Nat → Int32 := va_up F 9 (upd (F 9) k v)
def n_pe (F : Nat → Nat → Int32) (np : Nat) (t : Int32) : Nat → Nat → Int32 := va_up F 6 (upd (F 6) np t)
def n_or (F : Nat → Nat → Int32) (no : Nat) (q a b c : Int32) : Nat → Nat → Int32 := va_up (va_up (va_up (va_up (va_up F 0 (upd (F 0) no q)) 1 (upd (F 1) no a)) 2 (upd (F 2) no b)) 3 (upd (F 3) no c)) 4 (upd (F 4) no 1)
def n_go (F : Nat → Nat → Int32) (sh : Int32) (no p : Nat) (q t : Int32) : Nat → Nat → Int32 := if (p_go F sh p q t no).2 then p_fine (p_go F sh p q t no).1 p else (p_go F sh p q t no).1
def a_go (F : Nat → Nat → Int32) (sh : Int32) (no p : Nat) (q t : Int32) : Int32 := if (p_go F sh p q t no).2 then 10 * (F 7 p + 1) else 0
def a_pa (F : Nat → Nat → Int32) (sh nw : Int32) (no hh : Nat) : Int32 := p_sm (fun o => nI (p_ct (p_tb F sh nw o) hh)) no
def p_hP (F : Nat → Nat → Int32) (sh nw : Int32) (no p : Nat) (q : Int32) (k : Nat) : Bool := decide (p_ag F sh no p q (nw + nI k) = 0)
def a_hu (F : Nat → Nat → Int32) (sh nw : Int32) (no p : Nat) (q : Int32) : Int32 := p_ff (p_hP F sh nw no p q) 0 49
def p_hB (F : Nat → Nat → Int32) (sh nw : Int32) (o w : Nat) : Bool := p_at F sh o (nw + nI w)
def p_bf (F : Nat → Nat → Int32) (sh nw : Int32) (no np o : Nat) : Nat := p_ct (p_fr F sh no nw o) np
def a_me (F : Nat → Nat → Int32) (np : Nat) : UInt64 := if np = 0 then FP.dconst0 else FP.ddiv (FP.i2d (p_sm (F 8) np)) (FP.i2d (nI np))
theorem ff_t {P : Nat → Bool} {i N : Nat} (h : i < N) (hp : P i = true) : p_ff P i (N - i) = nI i := by
  obtain ⟨k, hk⟩ : ∃ k, N - i = k + 1 := ⟨N - i - 1, by omega⟩
  rw [hk, p_ff, if_pos hp]
theorem ff_f {P : Nat → Bool} {i N : Nat} (h : i < N) (hp : P i = false) : p_ff P i (N - i) = p_ff P (i + 1) (N - (i + 1)) := by
  obtain ⟨k, hk⟩ : ∃ k, N - i = k + 1 := ⟨N - i - 1, by omega⟩
  rw [hk, p_ff, if_neg (by rw [hp]; decide), show N - (i + 1) = k by omega]
theorem bl_t {f : Nat → Nat} {i : Nat} (h : (p_bl f i).2 < f i) : p_bl f (i + 1) = (nI i, f i) := by rw [p_bl, if_pos h]
theorem bl_f {f : Nat → Nat} {i : Nat} (h : ¬ (p_bl f i).2 < f i) : p_bl f (i + 1) = p_bl f i := by rw [p_bl, if_neg h]
theorem bl_le {f : Nat → Nat} {b : Nat} (h : ∀ o, f o ≤ b) : ∀ i, (p_bl f i).2 ≤ b
  | 0 => Nat.zero_le _
  | i + 1 => by rw [p_bl]; split; exact h i; exact bl_le h i
theorem go_keep (F : Nat → Nat → Int32) (sh : Int32) (p : Nat) (q t : Int32) (k : Nat) (h9 : k ≠ 9) (h10 : k ≠ 10) : ∀ o, (p_go F sh p q t o).1 k = F k
  | 0 => rfl
  | o + 1 => by
    rw [p_go]
    split
    · rw [← go_keep F sh p q t k h9 h10 o]
      simp only [p_us, p_use]
      split
      · rfl
      · rw [va_up_ne _ _ h10, va_up_ne _ _ h9]
    · exact go_keep F sh p q t k h9 h10 o
theorem bars_cong {F F' : Nat → Nat → Int32} (h : ∀ k, k ≠ 9 → k ≠ 10 → F' k = F k) (sh : Int32) (o p : Nat) (q t : Int32) : p_bars F' sh o p q t = p_bars F sh o p q t := by
  simp only [p_bars, p_on, p_at, p_ex, h 0 (by decide) (by decide), h 1 (by decide) (by decide), h 2 (by decide) (by decide), h 4 (by decide) (by decide), h 5 (by decide) (by decide), h 6 (by decide) (by decide)]
theorem pl_eq (j c : Nat) : 4 * nI j + nI c = nI (j * 4 + c) := by rw [show (4 : Int32) = nI 4 from rfl, pk_mul, nI_add, Nat.mul_comm]
theorem pwi_gt2 {x a b : Int32} (h : b < x) : p_wi x a b = false := by
  rw [Int32.lt_iff_toInt_lt] at h
  simp [p_wi, Int32.le_iff_toInt_le]; omega
theorem pwi_ok2 {x a b : Int32} (h : ¬ x < a) (h2 : ¬ b < x) : p_wi x a b = true := by
  rw [Int32.lt_iff_toInt_lt] at h h2
  simp [p_wi, Int32.le_iff_toInt_le] at *; omega
theorem pwi_lit (x : Int32) {k : Nat} (hk : k < 2 ^ 31) : p_wi x 0 (nI k) = p_in x (k + 1) := by
  have h0 : (0 : Int32).toInt = 0 := by decide
  simp only [p_wi, p_in, Int32.le_iff_toInt_le, h0, nI_toInt hk]
  congr 1
  exact decide_eq_decide.mpr (by omega)
theorem pwi_in (x : Int32) {n : Nat} (hn : n < 2 ^ 31) : p_wi x 0 (nI n - 1) = p_in x n := by
  cases n with
  | zero =>
    have h0 : (0 : Int32).toInt = 0 := by decide
    have h1 : (nI 0 - 1 : Int32).toInt = -1 := by decide
    simp only [p_wi, p_in, Int32.le_iff_toInt_le, h0, h1]
    congr 1
    exact decide_eq_decide.mpr (by omega)
  | succ k => rw [nI_pred, pwi_lit x (by omega)]
theorem and1 (x : Int32) : x &&& 1 = 0 ∨ x &&& 1 = 1 := by
  obtain ⟨j, hj, e⟩ := pk_andE x (m := 1) 1 (by decide)
  rcases (show j = 0 ∨ j = 1 by omega) with rfl | rfl
  · exact Or.inl e
  · exact Or.inr e
theorem and1_q (x : Int32) : decide (x &&& 1 = 1) = !decide (x &&& 1 = 0) := by
  rcases and1 x with h | h <;> rw [h] <;> rfl
theorem and1_b (x : Int32) : x &&& 1 = b2i (!decide (x &&& 1 = 0)) := by
  rcases and1 x with h | h <;> rw [h] <;> rfl
theorem ex_t {F : Nat → Nat → Int32} {o : Nat} {t : Int32} (h : F 5 o >>> (t &&& 31) &&& 1 = 1) : p_ex F o t = true := by rw [p_ex, h]; rfl
theorem ex_f {F : Nat → Nat → Int32} {o : Nat} {t : Int32} (h : ¬ F 5 o >>> (t &&& 31) &&& 1 = 1) : p_ex F o t = false := by
  rcases and1 (F 5 o >>> (t &&& 31)) with q | q
  · rw [p_ex, q]; rfl
  · exact absurd q h
theorem ne_t {n k : Nat} (h : ¬ nI n = nI k) : (!decide (n = k)) = true := by
  rw [decide_eq_false (fun e => h (by rw [e]))]; rfl
theorem ne_f {n k : Nat} (hn : n < 2 ^ 31) (hk : k < 2 ^ 31) (h : nI n = nI k) : (!decide (n = k)) = false := by
  rw [decide_eq_true ((nI_eq hn hk).mp h)]; rfl
/-- what a call leaves: y where it throws nothing, x as it was else -/
def nx {α : Type} (k : Int32) (y x : α) : α := if k = 0 then y else x
theorem nx0 {α : Type} {y x : α} : nx 0 y x = y := if_pos rfl
theorem nx1 {α : Type} {y x : α} : nx 1 y x = x := if_neg (by decide)
theorem nx2 {α : Type} {y x : α} : nx 2 y x = x := if_neg (by decide)
theorem nx3 {α : Type} {y x : α} : nx 3 y x = x := if_neg (by decide)
theorem pred1 (n : Nat) : nI (n + 1) - 1 = nI n := nI_pred n
/-! the reference's own ways of counting -/
def p_pB (F : Nat → Nat → Int32) (sh nw : Int32) (k o : Nat) : Bool := p_on F sh o (nw + nI k + 1) && !p_on F sh o (nw + nI k)
def p_w0 (F : Nat → Nat → Int32) (wt : Nat → Int32) (p : Nat) : Nat → Nat → Int32
  | 0 => wt
  | i + 1 => upd (p_w0 F wt p i) i (-F 9 (p * 4 + i))
def p_w1 (F : Nat → Nat → Int32) (sh : Int32) (w0 : Nat → Int32) (p : Nat) (q t : Int32) : Nat → Nat → Int32
  | 0 => w0
  | o + 1 => if p_bars F sh o p q t then upd (p_w1 F sh w0 p q t o) (F 3 o).toNatClampNeg (p_w1 F sh w0 p q t o (F 3 o).toNatClampNeg + 1) else p_w1 F sh w0 p q t o
def p_sn (f : Nat → Nat) : Nat → Nat
  | 0 => 0
  | n + 1 => p_sn f n + f n
def p_pq (F : Nat → Nat → Int32) (sh : Int32) (no : Nat) (t : Int32) (p q : Nat) : Bool := decide (p_miss F sh no p (nI q) t (-1) = 0)
def p_pr (F : Nat → Nat → Int32) (sh : Int32) (nq no np : Nat) (t : Int32) : Nat := p_sn (fun p => p_ct (p_pq F sh no t p) nq) np
def p_lf (F : Nat → Nat → Int32) (o : Nat) : Nat → Nat → Int32 := va_up F 4 (upd (F 4) o 0)
def p_bM (F : Nat → Nat → Int32) (sh : Int32) (nq no np : Nat) (t : Int32) : Nat → Int32 × Nat
  | 0 => (-1, p_pr F sh nq no np t)
  | o + 1 => if F 4 o = 0 then p_bM F sh nq no np t o else if (p_bM F sh nq no np t o).2 < p_pr (p_lf F o) sh nq no np t then (nI o, p_pr (p_lf F o) sh nq no np t) else p_bM F sh nq no np t o
theorem lf_back {F : Nat → Nat → Int32} {o : Nat} (h : F 4 o = 1) : va_up F 4 (upd (upd (F 4) o 0) o 1) = F := by
  funext k
  by_cases hk : k = 4
  · subst hk
    rw [va_up_self]
    funext i
    by_cases hi : i = o
    · subst hi; simp [upd, h]
    · simp [upd, hi]
  · rw [va_up_ne _ _ hk]
theorem sn_le {f : Nat → Nat} {b : Nat} (h : ∀ k, f k ≤ b) : ∀ n, p_sn f n ≤ n * b
  | 0 => Nat.zero_le _
  | n + 1 => by have := sn_le h n; have := h n; simp only [p_sn, Nat.succ_mul]; omega
theorem pr_le (F : Nat → Nat → Int32) (sh : Int32) {nq no np : Nat} (t : Int32) (hq : nq ≤ 6) (hp : np ≤ 20) : p_pr F sh nq no np t ≤ 120 := by
  have h := sn_le (f := fun p => p_ct (p_pq F sh no t p) nq) (b := 6) (fun k => Nat.le_trans (ct_le _ _) hq) np
  unfold p_pr
  omega
theorem nn_vf {r : UInt64} (h : FP.Core.dIsNaN r = false) : vf_n64 r := by
  rw [← Bool.not_eq_true, FP.Core.isNaN_bits] at h
  unfold vf_n64
  rw [UInt64.le_iff_toNat_le, UInt64.toNat_and]
  have h1 : (0x7fffffffffffffff : UInt64).toNat = 2 ^ 63 - 1 := by decide
  have h2 : (0x7ff0000000000000 : UInt64).toNat = 9218868437227405312 := by decide
  rw [h1, h2, Nat.and_two_pow_sub_one_eq_mod]
  omega
theorem nn_div (x : Int32) {y : Int32} (h : y ≠ 0) : FP.Core.dIsNaN (FP.ddiv (FP.i2d x) (FP.i2d y)) = false := by
  show FP.Core.dIsNaN (FP.Core.ddiv (FP.Core.i2d x) (FP.Core.i2d y)) = false
  exact FP.Core.ddiv_out ((FP.Core.notNaN_iff _).mpr (FP.Core.i2d_fin x).ne_nan) (FP.Core.i2d_fin y) (mt (FP.Core.zero_bits2 _).mp (FP.Core.i2d_ne_zero h))
end ROW
end
section
section PU2
theorem w0_at (F : Nat → Nat → Int32) (wt : Nat → Int32) (p c : Nat) : ∀ i, p_w0 F wt p i c = if c < i then -F 9 (p * 4 + c) else wt c
  | 0 => by simp [p_w0]
  | i + 1 => by
    simp only [p_w0, upd]
    by_cases h : c = i
    · subst h; simp
    · rw [if_neg h, w0_at F wt p c i]
      by_cases h2 : c < i
      · rw [if_pos h2, if_pos (by omega)]
      · rw [if_neg h2, if_neg (by omega)]
theorem w1_at (F : Nat → Nat → Int32) (sh : Int32) (w0 : Nat → Int32) (p : Nat) (q t : Int32) (c : Nat) : ∀ o, p_w1 F sh w0 p q t o c = w0 c + nI (p_ct (fun o => decide ((F 3 o).toNatClampNeg = c) && p_bars F sh o p q t) o)
  | 0 => by simp only [p_w1, p_ct]; rw [show nI 0 = 0 from nI_0, Int32.add_zero]
  | o + 1 => by
    have ih := w1_at F sh w0 p q t c o
    simp only [p_w1, p_ct]
    rcases Bool.eq_false_or_eq_true (p_bars F sh o p q t) with hb | hb
    rotate_left
    · simp only [hb, Bool.and_false, Bool.false_eq_true, if_false, Nat.add_zero]
      exact ih
    · simp only [hb, if_true, Bool.and_true, decide_eq_true_eq, upd]
      by_cases h : c = (F 3 o).toNatClampNeg
      · rw [if_pos h, if_pos h.symm, ← h, ih, Int32.add_assoc, nI_1]
      · rw [if_neg h, if_neg (fun e => h e.symm), ih, Nat.add_zero]
theorem nI_m1 {o : Nat} (h : o < 1000) : (!decide (nI o = -1)) = true := by
  have h1 : ¬ nI o = -1 := fun e => by
    have h2 := congrArg Int32.toInt e
    rw [nI_toInt (by omega), show (-1 : Int32).toInt = -1 by decide] at h2
    omega
  rw [decide_eq_false h1]; rfl
theorem miss_eq {F : Nat → Nat → Int32} {sh : Int32} {no p : Nat} {q t : Int32} (wt : Nat → Int32) (hno : no ≤ 10) (H3 : ∀ o, o < no → ∃ c, c < 4 ∧ F 3 o = nI c) :
    p_sm (fun c => p_max0 (p_w1 F sh (p_w0 F wt p 4) p q t no c)) 4 = p_miss F sh no p q t (-1) := by
  unfold p_miss
  refine sm_cong (fun c hc => ?_)
  unfold p_lack
  rw [w1_at, w0_at, if_pos hc, Int32.add_comm, ← Int32.sub_eq_add_neg]
  rw [ct_cong (d := p_need F sh p q t (-1) c) (fun o ho => ?_)]
  obtain ⟨k, hk, ek⟩ := H3 o ho
  unfold p_need
  rw [nI_m1 (by omega), Bool.true_and, ek, nI_clamp (by omega)]
  congr 1
  exact decide_eq_decide.mpr (nI_eq (by omega) (by omega)).symm
theorem sm_add (f g : Nat → Int32) : ∀ n, p_sm (fun k => f k + g k) n = p_sm f n + p_sm g n
  | 0 => by simp only [p_sm]; rw [Int32.add_zero]
  | n + 1 => by
    simp only [p_sm]
    rw [sm_add f g n]
    simp only [Int32.add_assoc]
    congr 1
    rw [← Int32.add_assoc, Int32.add_comm (p_sm g n) (f n), Int32.add_assoc]
theorem sm_b2i (b : Nat → Bool) : ∀ n, p_sm (fun k => b2i (b k)) n = nI (p_ct b n)
  | 0 => nI_0.symm
  | n + 1 => by rw [← nct_b, ← sm_b2i b n]; rfl
theorem sm_swap (b : Nat → Nat → Bool) (n : Nat) : ∀ m, p_sm (fun k => nI (p_ct (fun o => b o k) n)) m = p_sm (fun o => nI (p_ct (b o) m)) n
  | 0 => by
    simp only [p_sm]
    have h : ∀ j, (0 : Int32) = p_sm (fun o => nI (p_ct (b o) 0)) j := fun j => by
      induction j with
      | zero => rfl
      | succ j ih => simp only [p_sm]; rw [← ih]; rfl
    exact h n
  | m + 1 => by
    simp only [p_sm]
    rw [sm_swap b n m, ← sm_b2i, ← sm_add]
    exact sm_cong (fun o _ => nct_b)
theorem pa_eq (F : Nat → Nat → Int32) (sh nw : Int32) (no hh : Nat) : p_sm (fun k => nI (p_ct (p_pB F sh nw k) no)) hh = a_pa F sh nw no hh := by
  have h : ∀ k o, p_pB F sh nw k o = p_tb F sh nw o k := fun k o => by
    unfold p_pB p_tb
    rw [Int32.add_assoc, nI_1]
  unfold a_pa
  rw [← sm_swap (fun o w => p_tb F sh nw o w) no hh]
  refine sm_cong (fun k _ => ?_)
  rw [ct_cong (fun o _ => h k o)]
/-! missing stamps, counted -/
theorem max0_sub {n s : Nat} (hn : n ≤ 10) (hs : s ≤ 9) : p_max0 (nI n - nI s) = nI (n - s) := by
  unfold p_max0
  by_cases h : s < n
  · rw [pk_sub (Nat.le_of_lt h)]
    exact if_pos (show (0 : Int32) < nI (n - s) from nI_lt (a := 0) (b := n - s) (by omega) (by omega))
  · have h2 : (nI n - nI s).toInt = (n : Int) - s := pk_sub_toInt (by omega) (by omega)
    have h3 : ¬ (0 : Int32) < nI n - nI s := by
      rw [Int32.lt_iff_toInt_lt, h2, show (0 : Int32).toInt = 0 by decide]
      omega
    rw [if_neg h3, show n - s = 0 by omega]
    rfl
theorem sm_nI (f : Nat → Nat) : ∀ n, p_sm (fun k => nI (f k)) n = nI (p_sn f n)
  | 0 => nI_0.symm
  | n + 1 => by simp only [p_sm, p_sn]; rw [sm_nI f n, nI_add]
def m_nat (F : Nat → Nat → Int32) (sh : Int32) (S : Nat → Nat) (no p : Nat) (q t sp : Int32) : Nat := p_sn (fun c => p_ct (p_need F sh p q t sp c) no - S (p * 4 + c)) 4
theorem miss_nat {F : Nat → Nat → Int32} {sh : Int32} {S : Nat → Nat} {no p : Nat} {q t sp : Int32} (hno : no ≤ 10) (H9 : ∀ k, S k ≤ 9 ∧ F 9 k = nI (S k)) : p_miss F sh no p q t sp = nI (m_nat F sh S no p q t sp) := by
  unfold p_miss m_nat
  rw [← sm_nI]
  refine sm_cong (fun c _ => ?_)
  unfold p_lack
  rw [(H9 _).2, max0_sub (Nat.le_trans (ct_le _ _) hno) (H9 _).1]
theorem sn_le4 {f : Nat → Nat} {b : Nat} (h : ∀ k, f k ≤ b) : p_sn f 4 ≤ 4 * b := sn_le h 4
theorem m_nat_le {F : Nat → Nat → Int32} {sh : Int32} {S : Nat → Nat} {no p : Nat} {q t sp : Int32} (hno : no ≤ 10) : m_nat F sh S no p q t sp ≤ 40 :=
  sn_le4 (b := 10) (fun c => Nat.le_trans (Nat.sub_le _ _) (Nat.le_trans (ct_le _ _) hno))
theorem sn_mono {f g : Nat → Nat} : ∀ {n : Nat}, (∀ k, k < n → f k ≤ g k) → p_sn f n ≤ p_sn g n
  | 0, _ => Nat.le_refl _
  | n + 1, h => by
    have h1 := sn_mono (f := f) (g := g) (n := n) (fun k hk => h k (by omega))
    have h2 := h n (by omega)
    simp only [p_sn]; omega
theorem sn_cong {f g : Nat → Nat} : ∀ {n : Nat}, (∀ k, k < n → f k = g k) → p_sn f n = p_sn g n
  | 0, _ => rfl
  | n + 1, h => by simp only [p_sn]; rw [sn_cong (fun k hk => h k (by omega)), h n (by omega)]
theorem sn_add (f g : Nat → Nat) : ∀ n, p_sn (fun k => f k + g k) n = p_sn f n + p_sn g n
  | 0 => rfl
  | n + 1 => by have := sn_add f g n; simp only [p_sn]; omega
theorem sn_ct (b : Nat → Bool) : ∀ n, p_sn (fun k => if b k then 1 else 0) n = p_ct b n
  | 0 => rfl
  | n + 1 => by simp only [p_sn, p_ct]; rw [sn_ct b n]
theorem ct_sub {b d : Nat → Bool} : ∀ {n : Nat}, (∀ k, k < n → b k = true → d k = true) → p_ct b n ≤ p_ct d n
  | 0, _ => Nat.le_refl _
  | n + 1, h => by
    have h1 := ct_sub (b := b) (d := d) (n := n) (fun k hk => h k (by omega))
    have h2 := h n (by omega)
    simp only [p_ct]
    cases hb : b n
    · simp only [Bool.false_eq_true, if_false]; split <;> omega
    · rw [h2 hb]; simp only [if_true]; omega
/-- two counts that differ at one place alone -/
theorem ct_one {b d : Nat → Bool} {i : Nat} (hi : b i = true → d i = true) : ∀ {n : Nat}, i < n → (∀ k, k < n → k ≠ i → b k = d k) → p_ct d n = p_ct b n + (if !b i && d i then 1 else 0)
  | 0, h, _ => absurd h (Nat.not_lt_zero i)
  | n + 1, h, hk => by
    simp only [p_ct]
    by_cases e : i = n
    · subst e
      rw [ct_cong (b := b) (d := d) (n := i) (fun k h1 => hk k (by omega) (by omega))]
      cases hb : b i
      · cases hd : d i <;> simp
      · rw [hi hb]; simp
    · rw [ct_one hi (n := n) (by omega) (fun k h1 h2 => hk k (by omega) h2), hk n (by omega) (by omega)]
      omega
/-! which order had best be lifted: both ways -/
section BL
variable {F : Nat → Nat → Int32} {sh t : Int32} {S : Nat → Nat} {nq no np : Nat}
theorem bars_off {o p : Nat} {q : Int32} (h : F 4 o = 0) : p_bars F sh o p q t = false := by
  simp only [p_bars, p_on, h, decide_true, Bool.not_true, Bool.false_and, Bool.and_false]
theorem bars_lf {o o' p : Nat} {q : Int32} (h : o' ≠ o) : p_bars (p_lf F o) sh o' p q t = p_bars F sh o' p q t := by
  have e4 : p_lf F o 4 o' = F 4 o' := by simp only [p_lf, va_up_self, upd, if_neg h]
  have e0 : p_lf F o 0 = F 0 := va_up_ne _ _ (by decide)
  have e1 : p_lf F o 1 = F 1 := va_up_ne _ _ (by decide)
  have e2 : p_lf F o 2 = F 2 := va_up_ne _ _ (by decide)
  have e5 : p_lf F o 5 = F 5 := va_up_ne _ _ (by decide)
  have e6 : p_lf F o 6 = F 6 := va_up_ne _ _ (by decide)
  simp only [p_bars, p_on, p_at, p_ex, e4, e0, e1, e2, e5, e6]
theorem bars_lf0 {o p : Nat} {q : Int32} : p_bars (p_lf F o) sh o p q t = false := bars_off (by simp only [p_lf, va_up_self, upd, if_true])
theorem nI_ne {a b : Nat} (ha : a < 2 ^ 31) (hb : b < 2 ^ 31) (h : a ≠ b) : (!decide (nI a = nI b)) = true := by
  rw [decide_eq_false (mt (nI_eq ha hb).mp h)]; rfl
theorem need_mono {p c o : Nat} {q : Int32} (hno : no ≤ 10) : ∀ k, k < no → p_need F sh p q t (nI o) c k = true → p_need F sh p q t (-1) c k = true := fun k hk h => by
  simp only [p_need, Bool.and_eq_true] at h ⊢
  exact ⟨nI_m1 (by omega), h.2⟩
theorem m_nat_mono {p o : Nat} {q : Int32} (hno : no ≤ 10) : m_nat F sh S no p q t (nI o) ≤ m_nat F sh S no p q t (-1) := by
  unfold m_nat
  refine sn_mono (fun c _ => ?_)
  have := ct_sub (n := no) (need_mono (F := F) (sh := sh) (t := t) (p := p) (c := c) (o := o) (q := q) hno)
  omega
theorem m_nat_off {p o : Nat} {q : Int32} (hno : no ≤ 10) (ho : o < no) (h : F 4 o = 0) : m_nat F sh S no p q t (nI o) = m_nat F sh S no p q t (-1) := by
  unfold m_nat
  refine sn_cong (fun c _ => ?_)
  rw [ct_cong (fun k hk => ?_)]
  unfold p_need
  by_cases e : k = o
  · subst e; rw [bars_off h]; simp
  · rw [nI_ne (by omega) (by omega) e, nI_m1 (by omega)]
/-- the order lifted, seen from a quarter: its own or another -/
theorem m_nat_lf {p o qo q : Nat} (hno : no ≤ 10) (ho : o < no) (hq : q < 2 ^ 31) (hqo : qo < 2 ^ 31) (e0 : F 0 o = nI qo) :
    m_nat (p_lf F o) sh S no p (nI q) t (-1) = if q = qo then m_nat F sh S no p (nI qo) t (nI o) else m_nat F sh S no p (nI q) t (-1) := by
  have e3 : p_lf F o 3 = F 3 := va_up_ne _ _ (by decide)
  by_cases h : q = qo
  · subst h
    rw [if_pos rfl]
    unfold m_nat
    refine sn_cong (fun c _ => ?_)
    rw [ct_cong (fun k hk => ?_)]
    unfold p_need
    rw [e3, nI_m1 (by omega)]
    by_cases e : k = o
    · subst e; rw [bars_lf0]; simp
    · rw [bars_lf e, nI_ne (by omega) (by omega) e]
  · rw [if_neg h]
    unfold m_nat
    refine sn_cong (fun c _ => ?_)
    rw [ct_cong (fun k hk => ?_)]
    unfold p_need
    rw [e3]
    by_cases e : k = o
    · subst e
      have hb : p_bars F sh k p (nI q) t = false := by
        simp only [p_bars, e0]
        rw [decide_eq_false (mt (nI_eq hqo hq).mp (fun z => h z.symm))]
        rfl
      rw [bars_lf0, hb]
    · rw [bars_lf e]
theorem dec0 {n : Nat} (h : n < 2 ^ 31) : decide (nI n = 0) = decide (n = 0) := decide_eq_decide.mpr (nI_eq (b := 0) h (by omega))
theorem dec0' {n : Nat} (h : n < 2 ^ 31) : decide (nI n ≤ 0) = decide (n = 0) := decide_eq_decide.mpr ((nI_leI (b := 0) h (by omega)).trans (by omega))
theorem fr_eq (H9 : ∀ k, S k ≤ 9 ∧ F 9 k = nI (S k)) (hno : no ≤ 10) (o p : Nat) : p_fr F sh no t o p = (!decide (m_nat F sh S no p (F 0 o) t (-1) = 0) && decide (m_nat F sh S no p (F 0 o) t (nI o) = 0)) := by
  have h1 := m_nat_le (F := F) (sh := sh) (S := S) (p := p) (q := F 0 o) (t := t) (sp := -1) hno
  have h2 := m_nat_le (F := F) (sh := sh) (S := S) (p := p) (q := F 0 o) (t := t) (sp := nI o) hno
  unfold p_fr
  rw [miss_nat hno H9, miss_nat hno H9, dec0 (by omega), dec0' (by omega)]
theorem pq_eq (H9 : ∀ k, S k ≤ 9 ∧ F 9 k = nI (S k)) (hno : no ≤ 10) (p q : Nat) : p_pq F sh no t p q = decide (m_nat F sh S no p (nI q) t (-1) = 0) := by
  have h1 := m_nat_le (F := F) (sh := sh) (S := S) (p := p) (q := nI q) (t := t) (sp := -1) hno
  unfold p_pq
  rw [miss_nat hno H9, dec0 (by omega)]
theorem fr_off (H9 : ∀ k, S k ≤ 9 ∧ F 9 k = nI (S k)) (hno : no ≤ 10) {o : Nat} (ho : o < no) (h : F 4 o = 0) : p_bf F sh t no np o = 0 := by
  unfold p_bf
  rw [ct_cong (d := fun _ => false) (fun p _ => ?_)]
  · have : ∀ n, p_ct (fun _ => false) n = 0 := fun n => by
      induction n with
      | zero => rfl
      | succ n ih => simp [p_ct, ih]
    exact this np
  · rw [fr_eq H9 hno, m_nat_off hno ho h]
    cases decide (m_nat F sh S no p (F 0 o) t (-1) = 0) <;> rfl
theorem pr_lf (H9 : ∀ k, S k ≤ 9 ∧ F 9 k = nI (S k)) (hno : no ≤ 10) (hnq : nq ≤ 6) {o qo : Nat} (ho : o < no) (hqo : qo < nq) (e0 : F 0 o = nI qo) : p_pr (p_lf F o) sh nq no np t = p_pr F sh nq no np t + p_bf F sh t no np o := by
  have e9 : p_lf F o 9 = F 9 := va_up_ne _ _ (by decide)
  have H9' : ∀ k, S k ≤ 9 ∧ p_lf F o 9 k = nI (S k) := fun k => by rw [e9]; exact H9 k
  unfold p_pr p_bf
  rw [← sn_ct, ← sn_add]
  refine sn_cong (fun p _ => ?_)
  have hd : ∀ q, q < nq → p_pq (p_lf F o) sh no t p q = decide ((if q = qo then m_nat F sh S no p (nI qo) t (nI o) else m_nat F sh S no p (nI q) t (-1)) = 0) := fun q hq => by
    rw [pq_eq H9' hno, m_nat_lf hno ho (by omega) (by omega) e0]
  have hm := m_nat_mono (F := F) (sh := sh) (t := t) (S := S) (p := p) (o := o) (q := nI qo) hno
  rw [ct_cong hd, ct_cong (b := p_pq F sh no t p) (d := fun q => decide (m_nat F sh S no p (nI q) t (-1) = 0)) (fun q _ => pq_eq H9 hno p q)]
  rw [ct_one (b := fun q => decide (m_nat F sh S no p (nI q) t (-1) = 0)) (i := qo) (fun h => ?_) hqo (fun k hk hne => ?_)]
  · rw [fr_eq H9 hno, e0]
    simp only [if_true]
  · simp only [if_true, decide_eq_true_eq] at h ⊢
    omega
  · simp only [if_neg hne]
theorem bl_eq (H9 : ∀ k, S k ≤ 9 ∧ F 9 k = nI (S k)) (hno : no ≤ 10) (hnq : nq ≤ 6) (H0 : ∀ o, o < no → ∃ k, k < nq ∧ F 0 o = nI k) : ∀ i, i ≤ no → (p_bM F sh nq no np t i).1 = (p_bl (p_bf F sh t no np) i).1 ∧ (p_bM F sh nq no np t i).2 = p_pr F sh nq no np t + (p_bl (p_bf F sh t no np) i).2
  | 0, _ => ⟨rfl, rfl⟩
  | i + 1, hi => by
    obtain ⟨h1, h2⟩ := bl_eq H9 hno hnq H0 i (by omega)
    obtain ⟨qo, hqo, e0⟩ := H0 i (by omega)
    simp only [p_bM, p_bl]
    by_cases h4 : F 4 i = 0
    · rw [if_pos h4, if_neg (by rw [fr_off H9 hno (by omega) h4]; omega)]
      exact ⟨h1, h2⟩
    · rw [if_neg h4, pr_lf H9 hno hnq (by omega) hqo e0, h2]
      by_cases hl : (p_bl (p_bf F sh t no np) i).2 < p_bf F sh t no np i
      · rw [if_pos (by omega), if_pos hl]
        exact ⟨rfl, rfl⟩
      · rw [if_neg (by omega), if_neg hl]
        exact ⟨h1, h2⟩
end BL
end PU2
end
section
set_option maxHeartbeats 4000000 in
set_option maxRecDepth 100000 in
theorem c_X1_fail (l : Launch) (G : va_G) (cI cZ : ClassId) (h : Nat) (a : Nat → Nat) (F : Nat → Nat → Int32) (nq no np : Nat) (sh nw : Int32) (th : Int32) (wt : Nat → Int32) (sz : Nat) (k : Int32) : Met l yX1_fail wsX1_fail ({ frames := 0, cells := 0, slots := 0, locals := 0 } : Room) (va_Pc [.ref h, .int k] (wPre G (ty2 cI cZ) (Mk cI cZ h a F nq no np sh nw th wt) sz)) (va_Qi (fun (r : Int32) (_ : Unit) => r = 0) (fun _ => wP G (ty2 cI cZ) (Mk cI cZ h a F nq no np sh nw k wt) (va_A (Mk cI cZ h a F nq no np sh nw th wt) sz)) (va_A (Mk cI cZ h a F nq no np sh nw th wt) sz)) 0 0 (va_A (Mk cI cZ h a F nq no np sh nw th wt) sz) := by
  refine w_met (cc := cX1_fail) (maxL := 2) (ret := (some .int)) (by decide) rfl (Nat.le_of_ble_eq_true rfl) ?_
  intro pg e s m below meth cd hx hb hml hr hts hown hlocks hnm hK hsz hP hD hA hS ls hl
  have hown : s.vm.findClass RX1 = some m.cls := hown
  have hin : ∀ w ∈ wsX10, w ∈ wsX1_fail := by decide +kernel
  have hl : lv_has ls 2 [(0, .ref h), (1, .int k)] := hl
  generalize hAe : va_A (Mk cI cZ h a F nq no np sh nw th wt) sz = A at hD hA hS ⊢
  refine lv_aload_n hx hb dX1_fail_0 rfl (lv_at hl 0 rfl) ?_
  refine lv_iload_n hx hb dX1_fail_1 rfl (lv_at hl 1 rfl) ?_
  refine va_put (ci := 1) (v := .int k) (ty := .int) (C := RX1) (T := TX1) (N := 18) hx hb hts hin tyX1 tyX1_ok nmX1 hown hK hP hD hS 0 rfl rfl 0 (by decide) (hts (.fieldLink RX1 47 "CurfewDeskModel" "thrown" "I") (by decide +kernel)) (fun _ h9 => h9) rfl (by decide +kernel) rfl rfl (Nat.le_of_ble_eq_true rfl) dX1_fail_2 (fun H locs hP hD hS => ?_)
  have hP : va_P G vwCl (Mk cI cZ h a F nq no np sh nw k wt) H := hP
  have hD : va_D A (Mk cI cZ h a F nq no np sh nw k wt) := hD
  refine lv_iconst (v := 0) hx hb dX1_fail_5 (by decide) ?_
  exact w_iret () hx hb hr hlocks hK hP hD hS (Nat.le_of_ble_eq_true rfl) (Nat.le_of_ble_eq_true rfl) dX1_fail_6 (show 0 = 0 from by rfl)
set_option maxHeartbeats 4000000 in
set_option maxRecDepth 100000 in
theorem c_X1_failed (l : Launch) (G : va_G) (cI cZ : ClassId) (h : Nat) (a : Nat → Nat) (F : Nat → Nat → Int32) (nq no np : Nat) (sh nw : Int32) (th : Int32) (wt : Nat → Int32) (sz : Nat) (k : Int32) : Met l yX1_failed wsX1_failed ({ frames := 0, cells := 0, slots := 0, locals := 0 } : Room) (va_Pc [.ref h, .int k] (wPre G (ty2 cI cZ) (Mk cI cZ h a F nq no np sh nw th wt) sz)) (va_Qi (fun (r : Int32) (_ : Unit) => r = 0) (fun _ => wP G (ty2 cI cZ) (Mk cI cZ h a F nq no np sh nw k wt) (va_A (Mk cI cZ h a F nq no np sh nw th wt) sz)) (va_A (Mk cI cZ h a F nq no np sh nw th wt) sz)) 0 0 (va_A (Mk cI cZ h a F nq no np sh nw th wt) sz) := by
  refine w_met (cc := cX1_failed) (maxL := 2) (ret := (some .boolean)) (by decide) rfl (Nat.le_of_ble_eq_true rfl) ?_
  intro pg e s m below meth cd hx hb hml hr hts hown hlocks hnm hK hsz hP hD hA hS ls hl
  have hown : s.vm.findClass RX1 = some m.cls := hown
  have hin : ∀ w ∈ wsX10, w ∈ wsX1_failed := by decide +kernel
  have hl : lv_has ls 2 [(0, .ref h), (1, .int k)] := hl
  generalize hAe : va_A (Mk cI cZ h a F nq no np sh nw th wt) sz = A at hD hA hS ⊢
  refine lv_aload_n hx hb dX1_failed_0 rfl (lv_at hl 0 rfl) ?_
  refine lv_iload_n hx hb dX1_failed_1 rfl (lv_at hl 1 rfl) ?_
  refine va_put (ci := 1) (v := .int k) (ty := .int) (C := RX1) (T := TX1) (N := 18) hx hb hts hin tyX1 tyX1_ok nmX1 hown hK hP hD hS 0 rfl rfl 0 (by decide) (hts (.fieldLink RX1 47 "CurfewDeskModel" "thrown" "I") (by decide +kernel)) (fun _ h9 => h9) rfl (by decide +kernel) rfl rfl (Nat.le_of_ble_eq_true rfl) dX1_failed_2 (fun H locs hP hD hS => ?_)
  have hP : va_P G vwCl (Mk cI cZ h a F nq no np sh nw k wt) H := hP
  have hD : va_D A (Mk cI cZ h a F nq no np sh nw k wt) := hD
  refine lv_iconst (v := 0) hx hb dX1_failed_5 (by decide) ?_
  exact w_zret () hx hb hr hlocks hK hP hD hS (Nat.le_of_ble_eq_true rfl) (Nat.le_of_ble_eq_true rfl) dX1_failed_6 rfl (show 0 = 0 from by rfl)
set_option maxHeartbeats 4000000 in
set_option maxRecDepth 100000 in
theorem c_X1_thrown (l : Launch) (G : va_G) (cI cZ : ClassId) (h : Nat) (a : Nat → Nat) (F : Nat → Nat → Int32) (nq no np : Nat) (sh nw : Int32) (th : Int32) (wt : Nat → Int32) (sz : Nat) : Met l yX1_thrown wsX1_thrown ({ frames := 0, cells := 0, slots := 0, locals := 0 } : Room) (va_Pc [.ref h] (wPre G (ty2 cI cZ) (Mk cI cZ h a F nq no np sh nw th wt) sz)) (va_Qi (fun (r : Int32) (_ : Unit) => r = th) (fun _ => wP G (ty2 cI cZ) (Mk cI cZ h a F nq no np sh nw th wt) (va_A (Mk cI cZ h a F nq no np sh nw th wt) sz)) (va_A (Mk cI cZ h a F nq no np sh nw th wt) sz)) 0 0 (va_A (Mk cI cZ h a F nq no np sh nw th wt) sz) := by
  refine w_met (cc := cX1_thrown) (maxL := 1) (ret := (some .int)) (by decide) rfl (Nat.le_of_ble_eq_true rfl) ?_
  intro pg e s m below meth cd hx hb hml hr hts hown hlocks hnm hK hsz hP hD hA hS ls hl
  have hown : s.vm.findClass RX1 = some m.cls := hown
  have hin : ∀ w ∈ wsX10, w ∈ wsX1_thrown := by decide +kernel
  have hl : lv_has ls 1 [(0, .ref h)] := hl
  generalize hAe : va_A (Mk cI cZ h a F nq no np sh nw th wt) sz = A at hD hA hS ⊢
  refine lv_aload_n hx hb dX1_thrown_0 rfl (lv_at hl 0 rfl) ?_
  refine va_get (ci := 1) (v := .int th) (C := RX1) (T := TX1) (N := 18) hx hb hts hin hown hK hP 0 rfl rfl 0 (by decide) (hts (.fieldLink RX1 47 "CurfewDeskModel" "thrown" "I") (by decide +kernel)) (fun _ h9 => h9) rfl dX1_thrown_1 ?_
  exact w_iret () hx hb hr hlocks hK hP hD hS (Nat.le_of_ble_eq_true rfl) (Nat.le_of_ble_eq_true rfl) dX1_thrown_4 (show th = th from by rfl)
set_option maxHeartbeats 4000000 in
set_option maxRecDepth 100000 in
theorem c_X1_isIn (l : Launch) (G : va_G) (sz : Nat) (x : Int32) (a9 : Int32) (b9 : Int32) : Met l yX1_isIn wsX1_isIn ({ frames := 0, cells := 0, slots := 0, locals := 0 } : Room) (va_Pc [.int x, .int a9, .int b9] (wPre G [] [] sz)) (va_Qi (fun (r : Int32) (_ : Unit) => r = b2i (p_wi x a9 b9)) (fun _ => wP G [] [] (va_A [] sz)) (va_A [] sz)) 0 0 (va_A [] sz) := by
  refine w_met (cc := cX1_isIn) (maxL := 3) (ret := (some .boolean)) (by decide) rfl (Nat.le_of_ble_eq_true rfl) ?_
  intro pg e s m below meth cd hx hb hml hr hts hown hlocks hnm hK hsz hP hD hA hS ls hl
  have hown : s.vm.findClass RX1 = some m.cls := hown
  have hl : lv_has ls 3 [(0, .int x), (1, .int a9), (2, .int b9)] := hl
  generalize hAe : va_A [] sz = A at hD hA hS ⊢
  refine lv_iload_n hx hb dX1_isIn_0 rfl (lv_at hl 0 rfl) ?_
  refine lv_iload_n hx hb dX1_isIn_1 rfl (lv_at hl 1 rfl) ?_
  refine lv_icmp_lt (tgt := 14) hx hb dX1_isIn_2 (by decide) (fun c2 => ?_) (fun c2 => ?_)
  · refine lv_iconst (v := 0) hx hb dX1_isIn_14 (by decide) ?_
    exact w_zret () hx hb hr hlocks hK hP hD hS (Nat.le_of_ble_eq_true rfl) (Nat.le_of_ble_eq_true rfl) dX1_isIn_15 rfl (show 0 = b2i (p_wi x a9 b9) from by first | (rw [pwi_lt c2]; rfl) | (rw [pwi_gt2 c7]; rfl) | (rw [pwi_ok2 c2 c7]; rfl))
  · refine lv_iload_n hx hb dX1_isIn_5 rfl (lv_at hl 0 rfl) ?_
    refine lv_iload_n hx hb dX1_isIn_6 rfl (lv_at hl 2 rfl) ?_
    refine lv_icmp_gt (tgt := 14) hx hb dX1_isIn_7 (by decide) (fun c7 => ?_) (fun c7 => ?_)
    · refine lv_iconst (v := 0) hx hb dX1_isIn_14 (by decide) ?_
      exact w_zret () hx hb hr hlocks hK hP hD hS (Nat.le_of_ble_eq_true rfl) (Nat.le_of_ble_eq_true rfl) dX1_isIn_15 rfl (show 0 = b2i (p_wi x a9 b9) from by first | (rw [pwi_lt c2]; rfl) | (rw [pwi_gt2 c7]; rfl) | (rw [pwi_ok2 c2 c7]; rfl))
    · refine lv_iconst (v := 1) hx hb dX1_isIn_10 (by decide) ?_
      refine lv_goto (tgt := 15) hx hb dX1_isIn_11 (by decide) ?_
      exact w_zret () hx hb hr hlocks hK hP hD hS (Nat.le_of_ble_eq_true rfl) (Nat.le_of_ble_eq_true rfl) dX1_isIn_15 rfl (show 1 = b2i (p_wi x a9 b9) from by first | (rw [pwi_lt c2]; rfl) | (rw [pwi_gt2 c7]; rfl) | (rw [pwi_ok2 c2 c7]; rfl))
set_option maxHeartbeats 4000000 in
set_option maxRecDepth 100000 in
theorem c_X1_isQuarter (l : Launch) (G : va_G) (cI cZ : ClassId) (h : Nat) (a : Nat → Nat) (F : Nat → Nat → Int32) (nq no np : Nat) (sh nw : Int32) (th : Int32) (wt : Nat → Int32) (sz : Nat) (x : Int32) (hnq : nq ≤ 6) : Met l yX1_isQuarter wsX1_isQuarter ({ frames := 1, cells := 0, slots := 0, locals := 22 } : Room) (va_Pc [.ref h, .int x] (wPre G (ty2 cI cZ) (Mk cI cZ h a F nq no np sh nw th wt) sz)) (va_Qi (fun (r : Int32) (_ : Unit) => r = b2i (p_in x nq)) (fun _ => wP G (ty2 cI cZ) (Mk cI cZ h a F nq no np sh nw th wt) (va_A (Mk cI cZ h a F nq no np sh nw th wt) sz)) (va_A (Mk cI cZ h a F nq no np sh nw th wt) sz)) 0 0 (va_A (Mk cI cZ h a F nq no np sh nw th wt) sz) := by
  refine w_met (cc := cX1_isQuarter) (maxL := 2) (ret := (some .boolean)) (by decide) rfl (Nat.le_of_ble_eq_true rfl) ?_
  intro pg e s m below meth cd hx hb hml hr hts hown hlocks hnm hK hsz hP hD hA hS ls hl
  have hown : s.vm.findClass RX1 = some m.cls := hown
  have hin : ∀ w ∈ wsX10, w ∈ wsX1_isQuarter := by decide +kernel
  have hl : lv_has ls 2 [(0, .ref h), (1, .int x)] := hl
  generalize hAe : va_A (Mk cI cZ h a F nq no np sh nw th wt) sz = A at hD hA hS ⊢
  refine lv_iload_n hx hb dX1_isQuarter_0 rfl (lv_at hl 1 rfl) ?_
  refine lv_iconst (v := 0) hx hb dX1_isQuarter_1 (by decide) ?_
  refine lv_aload_n hx hb dX1_isQuarter_2 rfl (lv_at hl 0 rfl) ?_
  refine va_get (ci := 1) (v := .int (nI nq)) (C := RX1) (T := TX1) (N := 18) hx hb hts hin hown hK hP 0 rfl rfl 3 (by decide) (hts (.fieldLink RX1 51 "CurfewDeskModel" "quarters" "I") (by decide +kernel)) (fun _ h9 => h9) rfl dX1_isQuarter_3 ?_
  refine lv_iconst (v := 1) hx hb dX1_isQuarter_6 (by decide) ?_
  refine lv_isub hx hb dX1_isQuarter_7 ?_
  refine w_st_i (va_runS (As := [.int x, .int 0, .int ((nI nq) - 1)]) (rest := []) ⟨hx, hb, hml, hown, hts⟩ (c_X1_isIn l G s.heap.size x 0 ((nI nq) - 1) ) (va_cwS 3 hts gX1_isQuarter_X1_isIn rfl rfl rfl (by decide +kernel) ⟨(Nat.le_of_ble_eq_true rfl), (Nat.le_of_ble_eq_true rfl)⟩) ⟨wPre_blind, w_pre (hK.sub [] rfl) w_P0 (w_D0 (A := A))⟩ rfl rfl hl.1 rfl (lv_room (Nat.le_of_ble_eq_true rfl)) dX1_isQuarter_8 ⟨(Nat.le_of_ble_eq_true rfl), (Nat.le_of_ble_eq_true rfl)⟩) hP hS hA (fun r8 u8 H locs hw8 hP hS => ?_)
  have hw8 : r8 = b2i (p_wi x 0 ((nI nq) - 1)) := hw8
  subst hw8
  exact w_zret () hx hb hr hlocks hK hP hD hS (Nat.le_of_ble_eq_true rfl) (Nat.le_of_ble_eq_true rfl) dX1_isQuarter_11 (b2i_n _) (show (b2i (p_wi x 0 ((nI nq) - 1))) = b2i (p_in x nq) from by rw [pwi_in _ (by omega)])
set_option maxHeartbeats 4000000 in
set_option maxRecDepth 100000 in
theorem c_X1_isOrder (l : Launch) (G : va_G) (cI cZ : ClassId) (h : Nat) (a : Nat → Nat) (F : Nat → Nat → Int32) (nq no np : Nat) (sh nw : Int32) (th : Int32) (wt : Nat → Int32) (sz : Nat) (x : Int32) (hno : no ≤ 10) : Met l yX1_isOrder wsX1_isOrder ({ frames := 1, cells := 0, slots := 0, locals := 22 } : Room) (va_Pc [.ref h, .int x] (wPre G (ty2 cI cZ) (Mk cI cZ h a F nq no np sh nw th wt) sz)) (va_Qi (fun (r : Int32) (_ : Unit) => r = b2i (p_in x no)) (fun _ => wP G (ty2 cI cZ) (Mk cI cZ h a F nq no np sh nw th wt) (va_A (Mk cI cZ h a F nq no np sh nw th wt) sz)) (va_A (Mk cI cZ h a F nq no np sh nw th wt) sz)) 0 0 (va_A (Mk cI cZ h a F nq no np sh nw th wt) sz) := by
  refine w_met (cc := cX1_isOrder) (maxL := 2) (ret := (some .boolean)) (by decide) rfl (Nat.le_of_ble_eq_true rfl) ?_
  intro pg e s m below meth cd hx hb hml hr hts hown hlocks hnm hK hsz hP hD hA hS ls hl
  have hown : s.vm.findClass RX1 = some m.cls := hown
  have hin : ∀ w ∈ wsX10, w ∈ wsX1_isOrder := by decide +kernel
  have hl : lv_has ls 2 [(0, .ref h), (1, .int x)] := hl
  generalize hAe : va_A (Mk cI cZ h a F nq no np sh nw th wt) sz = A at hD hA hS ⊢
  refine lv_iload_n hx hb dX1_isOrder_0 rfl (lv_at hl 1 rfl) ?_
  refine lv_iconst (v := 0) hx hb dX1_isOrder_1 (by decide) ?_
  refine lv_aload_n hx hb dX1_isOrder_2 rfl (lv_at hl 0 rfl) ?_
  refine va_get (ci := 1) (v := .int (nI no)) (C := RX1) (T := TX1) (N := 18) hx hb hts hin hown hK hP 0 rfl rfl 4 (by decide) (hts (.fieldLink RX1 58 "CurfewDeskModel" "orders" "I") (by decide +kernel)) (fun _ h9 => h9) rfl dX1_isOrder_3 ?_
  refine lv_iconst (v := 1) hx hb dX1_isOrder_6 (by decide) ?_
  refine lv_isub hx hb dX1_isOrder_7 ?_
  refine w_st_i (va_runS (As := [.int x, .int 0, .int ((nI no) - 1)]) (rest := []) ⟨hx, hb, hml, hown, hts⟩ (c_X1_isIn l G s.heap.size x 0 ((nI no) - 1) ) (va_cwS 3 hts gX1_isOrder_X1_isIn rfl rfl rfl (by decide +kernel) ⟨(Nat.le_of_ble_eq_true rfl), (Nat.le_of_ble_eq_true rfl)⟩) ⟨wPre_blind, w_pre (hK.sub [] rfl) w_P0 (w_D0 (A := A))⟩ rfl rfl hl.1 rfl (lv_room (Nat.le_of_ble_eq_true rfl)) dX1_isOrder_8 ⟨(Nat.le_of_ble_eq_true rfl), (Nat.le_of_ble_eq_true rfl)⟩) hP hS hA (fun r8 u8 H locs hw8 hP hS => ?_)
  have hw8 : r8 = b2i (p_wi x 0 ((nI no) - 1)) := hw8
  subst hw8
  exact w_zret () hx hb hr hlocks hK hP hD hS (Nat.le_of_ble_eq_true rfl) (Nat.le_of_ble_eq_true rfl) dX1_isOrder_11 (b2i_n _) (show (b2i (p_wi x 0 ((nI no) - 1))) = b2i (p_in x no) from by rw [pwi_in _ (by omega)])
set_option maxHeartbeats 4000000 in
set_option maxRecDepth 100000 in
theorem c_X1_isPerson (l : Launch) (G : va_G) (cI cZ : ClassId) (h : Nat) (a : Nat → Nat) (F : Nat → Nat → Int32) (nq no np : Nat) (sh nw : Int32) (th : Int32) (wt : Nat → Int32) (sz : Nat) (x : Int32) (hnp : np ≤ 20) : Met l yX1_isPerson wsX1_isPerson ({ frames := 1, cells := 0, slots := 0, locals := 22 } : Room) (va_Pc [.ref h, .int x] (wPre G (ty2 cI cZ) (Mk cI cZ h a F nq no np sh nw th wt) sz)) (va_Qi (fun (r : Int32) (_ : Unit) => r = b2i (p_in x np)) (fun _ => wP G (ty2 cI cZ) (Mk cI cZ h a F nq no np sh nw th wt) (va_A (Mk cI cZ h a F nq no np sh nw th wt) sz)) (va_A (Mk cI cZ h a F nq no np sh nw th wt) sz)) 0 0 (va_A (Mk cI cZ h a F nq no np sh nw th wt) sz) := by
  refine w_met (cc := cX1_isPerson) (maxL := 2) (ret := (some .boolean)) (by decide) rfl (Nat.le_of_ble_eq_true rfl) ?_
  intro pg e s m below meth cd hx hb hml hr hts hown hlocks hnm hK hsz hP hD hA hS ls hl
  have hown : s.vm.findClass RX1 = some m.cls := hown
  have hin : ∀ w ∈ wsX10, w ∈ wsX1_isPerson := by decide +kernel
  have hl : lv_has ls 2 [(0, .ref h), (1, .int x)] := hl
  generalize hAe : va_A (Mk cI cZ h a F nq no np sh nw th wt) sz = A at hD hA hS ⊢
  refine lv_iload_n hx hb dX1_isPerson_0 rfl (lv_at hl 1 rfl) ?_
  refine lv_iconst (v := 0) hx hb dX1_isPerson_1 (by decide) ?_
  refine lv_aload_n hx hb dX1_isPerson_2 rfl (lv_at hl 0 rfl) ?_
  refine va_get (ci := 1) (v := .int (nI np)) (C := RX1) (T := TX1) (N := 18) hx hb hts hin hown hK hP 0 rfl rfl 5 (by decide) (hts (.fieldLink RX1 61 "CurfewDeskModel" "people" "I") (by decide +kernel)) (fun _ h9 => h9) rfl dX1_isPerson_3 ?_
  refine lv_iconst (v := 1) hx hb dX1_isPerson_6 (by decide) ?_
  refine lv_isub hx hb dX1_isPerson_7 ?_
  refine w_st_i (va_runS (As := [.int x, .int 0, .int ((nI np) - 1)]) (rest := []) ⟨hx, hb, hml, hown, hts⟩ (c_X1_isIn l G s.heap.size x 0 ((nI np) - 1) ) (va_cwS 3 hts gX1_isPerson_X1_isIn rfl rfl rfl (by decide +kernel) ⟨(Nat.le_of_ble_eq_true rfl), (Nat.le_of_ble_eq_true rfl)⟩) ⟨wPre_blind, w_pre (hK.sub [] rfl) w_P0 (w_D0 (A := A))⟩ rfl rfl hl.1 rfl (lv_room (Nat.le_of_ble_eq_true rfl)) dX1_isPerson_8 ⟨(Nat.le_of_ble_eq_true rfl), (Nat.le_of_ble_eq_true rfl)⟩) hP hS hA (fun r8 u8 H locs hw8 hP hS => ?_)
  have hw8 : r8 = b2i (p_wi x 0 ((nI np) - 1)) := hw8
  subst hw8
  exact w_zret () hx hb hr hlocks hK hP hD hS (Nat.le_of_ble_eq_true rfl) (Nat.le_of_ble_eq_true rfl) dX1_isPerson_11 (b2i_n _) (show (b2i (p_wi x 0 ((nI np) - 1))) = b2i (p_in x np) from by rw [pwi_in _ (by omega)])
set_option maxHeartbeats 4000000 in
set_option maxRecDepth 100000 in
theorem c_X1_isTrade (l : Launch) (G : va_G) (sz : Nat) (x : Int32) : Met l yX1_isTrade wsX1_isTrade ({ frames := 1, cells := 0, slots := 0, locals := 22 } : Room) (va_Pc [.int x] (wPre G [] [] sz)) (va_Qi (fun (r : Int32) (_ : Unit) => r = b2i (p_in x 8)) (fun _ => wP G [] [] (va_A [] sz)) (va_A [] sz)) 0 0 (va_A [] sz) := by
  refine w_met (cc := cX1_isTrade) (maxL := 1) (ret := (some .boolean)) (by decide) rfl (Nat.le_of_ble_eq_true rfl) ?_
  intro pg e s m below meth cd hx hb hml hr hts hown hlocks hnm hK hsz hP hD hA hS ls hl
  have hown : s.vm.findClass RX1 = some m.cls := hown
  have hl : lv_has ls 1 [(0, .int x)] := hl
  generalize hAe : va_A [] sz = A at hD hA hS ⊢
  refine lv_iload_n hx hb dX1_isTrade_0 rfl (lv_at hl 0 rfl) ?_
  refine lv_iconst (v := 0) hx hb dX1_isTrade_1 (by decide) ?_
  refine lv_bipush (v := 7) hx hb dX1_isTrade_2 (by decide) ?_
  refine w_st_i (va_runS (As := [.int x, .int 0, .int 7]) (rest := []) ⟨hx, hb, hml, hown, hts⟩ (c_X1_isIn l G s.heap.size x 0 7 ) (va_cwS 3 hts gX1_isTrade_X1_isIn rfl rfl rfl (by decide +kernel) ⟨(Nat.le_of_ble_eq_true rfl), (Nat.le_of_ble_eq_true rfl)⟩) ⟨wPre_blind, w_pre (hK.sub [] rfl) w_P0 (w_D0 (A := A))⟩ rfl rfl hl.1 rfl (lv_room (Nat.le_of_ble_eq_true rfl)) dX1_isTrade_4 ⟨(Nat.le_of_ble_eq_true rfl), (Nat.le_of_ble_eq_true rfl)⟩) hP hS hA (fun r4 u4 H locs hw4 hP hS => ?_)
  have hw4 : r4 = b2i (p_wi x 0 7) := hw4
  subst hw4
  exact w_zret () hx hb hr hlocks hK hP hD hS (Nat.le_of_ble_eq_true rfl) (Nat.le_of_ble_eq_true rfl) dX1_isTrade_7 (b2i_n _) (show (b2i (p_wi x 0 7)) = b2i (p_in x 8) from by rw [show (7 : Int32) = nI 7 from rfl, pwi_lit _ (by decide)])
set_option maxHeartbeats 4000000 in
set_option maxRecDepth 100000 in
theorem c_X1_isColour (l : Launch) (G : va_G) (sz : Nat) (x : Int32) : Met l yX1_isColour wsX1_isColour ({ frames := 1, cells := 0, slots := 0, locals := 22 } : Room) (va_Pc [.int x] (wPre G [] [] sz)) (va_Qi (fun (r : Int32) (_ : Unit) => r = b2i (p_in x 4)) (fun _ => wP G [] [] (va_A [] sz)) (va_A [] sz)) 0 0 (va_A [] sz) := by
  refine w_met (cc := cX1_isColour) (maxL := 1) (ret := (some .boolean)) (by decide) rfl (Nat.le_of_ble_eq_true rfl) ?_
  intro pg e s m below meth cd hx hb hml hr hts hown hlocks hnm hK hsz hP hD hA hS ls hl
  have hown : s.vm.findClass RX1 = some m.cls := hown
  have hl : lv_has ls 1 [(0, .int x)] := hl
  generalize hAe : va_A [] sz = A at hD hA hS ⊢
  refine lv_iload_n hx hb dX1_isColour_0 rfl (lv_at hl 0 rfl) ?_
  refine lv_iconst (v := 0) hx hb dX1_isColour_1 (by decide) ?_
  refine lv_iconst (v := 3) hx hb dX1_isColour_2 (by decide) ?_
  refine w_st_i (va_runS (As := [.int x, .int 0, .int 3]) (rest := []) ⟨hx, hb, hml, hown, hts⟩ (c_X1_isIn l G s.heap.size x 0 3 ) (va_cwS 3 hts gX1_isColour_X1_isIn rfl rfl rfl (by decide +kernel) ⟨(Nat.le_of_ble_eq_true rfl), (Nat.le_of_ble_eq_true rfl)⟩) ⟨wPre_blind, w_pre (hK.sub [] rfl) w_P0 (w_D0 (A := A))⟩ rfl rfl hl.1 rfl (lv_room (Nat.le_of_ble_eq_true rfl)) dX1_isColour_3 ⟨(Nat.le_of_ble_eq_true rfl), (Nat.le_of_ble_eq_true rfl)⟩) hP hS hA (fun r3 u3 H locs hw3 hP hS => ?_)
  have hw3 : r3 = b2i (p_wi x 0 3) := hw3
  subst hw3
  exact w_zret () hx hb hr hlocks hK hP hD hS (Nat.le_of_ble_eq_true rfl) (Nat.le_of_ble_eq_true rfl) dX1_isColour_6 (b2i_n _) (show (b2i (p_wi x 0 3)) = b2i (p_in x 4) from by rw [show (3 : Int32) = nI 3 from rfl, pwi_lit _ (by decide)])
set_option maxHeartbeats 4000000 in
set_option maxRecDepth 100000 in
theorem c_X1_tide (l : Launch) (G : va_G) (sz : Nat) (d : Int32) : Met l yX1_tide wsX1_tide ({ frames := 0, cells := 0, slots := 0, locals := 0 } : Room) (va_Pc [.int d] (wPre G [] [] sz)) (va_Qi (fun (r : Int32) (_ : Unit) => r = p_tide d) (fun _ => wP G [] [] (va_A [] sz)) (va_A [] sz)) 0 0 (va_A [] sz) := by
  refine w_met (cc := cX1_tide) (maxL := 2) (ret := (some .int)) (by decide) rfl (Nat.le_of_ble_eq_true rfl) ?_
  intro pg e s m below meth cd hx hb hml hr hts hown hlocks hnm hK hsz hP hD hA hS ls hl
  have hown : s.vm.findClass RX1 = some m.cls := hown
  have hl : lv_has ls 2 [(0, .int d)] := hl
  generalize hAe : va_A [] sz = A at hD hA hS ⊢
  refine lv_iload_n hx hb dX1_tide_0 rfl (lv_at hl 0 rfl) ?_
  refine lv_bipush (v := 40) hx hb dX1_tide_1 (by decide) ?_
  refine lv_irem hx hb dX1_tide_3 (by decide) ?_
  refine lv_istore_n (lv' := [(1, .int (d - d / 40 * 40)), (0, .int d)]) hx hb dX1_tide_4 rfl hl (by decide) rfl (fun ls hl => ?_)
  refine lv_iload_n hx hb dX1_tide_5 rfl (lv_at hl 0 rfl) ?_
  refine lv_bipush (v := 20) hx hb dX1_tide_6 (by decide) ?_
  refine lv_icmp_ge (tgt := 15) hx hb dX1_tide_8 (by decide) (fun c8 => ?_) (fun c8 => ?_)
  · refine lv_bipush (v := 39) hx hb dX1_tide_15 (by decide) ?_
    refine lv_iload_n hx hb dX1_tide_17 rfl (lv_at hl 0 rfl) ?_
    refine lv_isub hx hb dX1_tide_18 ?_
    refine lv_iconst (v := 4) hx hb dX1_tide_19 (by decide) ?_
    refine lv_idiv hx hb dX1_tide_20 (by decide) ?_
    exact w_iret () hx hb hr hlocks hK hP hD hS (Nat.le_of_ble_eq_true rfl) (Nat.le_of_ble_eq_true rfl) dX1_tide_21 (show ((39 - (d - d / 40 * 40)) / 4) = p_tide d from by first | rw [p_tide, if_pos c8] | rw [p_tide, if_neg c8])
  · refine lv_iload_n hx hb dX1_tide_11 rfl (lv_at hl 0 rfl) ?_
    refine lv_goto (tgt := 19) hx hb dX1_tide_12 (by decide) ?_
    refine lv_iconst (v := 4) hx hb dX1_tide_19 (by decide) ?_
    refine lv_idiv hx hb dX1_tide_20 (by decide) ?_
    exact w_iret () hx hb hr hlocks hK hP hD hS (Nat.le_of_ble_eq_true rfl) (Nat.le_of_ble_eq_true rfl) dX1_tide_21 (show ((d - d / 40 * 40) / 4) = p_tide d from by first | rw [p_tide, if_pos c8] | rw [p_tide, if_neg c8])
set_option maxHeartbeats 4000000 in
set_option maxRecDepth 100000 in
theorem c_X1_dusk (l : Launch) (G : va_G) (cI cZ : ClassId) (h : Nat) (a : Nat → Nat) (F : Nat → Nat → Int32) (nq no np : Nat) (sh nw : Int32) (th : Int32) (wt : Nat → Int32) (sz : Nat) (d : Int32) : Met l yX1_dusk wsX1_dusk ({ frames := 1, cells := 0, slots := 0, locals := 21 } : Room) (va_Pc [.ref h, .int d] (wPre G (ty2 cI cZ) (Mk cI cZ h a F nq no np sh nw th wt) sz)) (va_Qi (fun (r : Int32) (_ : Unit) => r = p_dusk d sh) (fun _ => wP G (ty2 cI cZ) (Mk cI cZ h a F nq no np sh nw th wt) (va_A (Mk cI cZ h a F nq no np sh nw th wt) sz)) (va_A (Mk cI cZ h a F nq no np sh nw th wt) sz)) 0 0 (va_A (Mk cI cZ h a F nq no np sh nw th wt) sz) := by
  refine w_met (cc := cX1_dusk) (maxL := 2) (ret := (some .int)) (by decide) rfl (Nat.le_of_ble_eq_true rfl) ?_
  intro pg e s m below meth cd hx hb hml hr hts hown hlocks hnm hK hsz hP hD hA hS ls hl
  have hown : s.vm.findClass RX1 = some m.cls := hown
  have hin : ∀ w ∈ wsX10, w ∈ wsX1_dusk := by decide +kernel
  have hl : lv_has ls 2 [(0, .ref h), (1, .int d)] := hl
  generalize hAe : va_A (Mk cI cZ h a F nq no np sh nw th wt) sz = A at hD hA hS ⊢
  refine lv_bipush (v := 34) hx hb dX1_dusk_0 (by decide) ?_
  refine lv_iload_n hx hb dX1_dusk_2 rfl (lv_at hl 1 rfl) ?_
  refine w_st_i (va_runS (As := [.int d]) (rest := [.int 34]) ⟨hx, hb, hml, hown, hts⟩ (c_X1_tide l G s.heap.size d ) (va_cwS 1 hts gX1_dusk_X1_tide rfl rfl rfl (by decide +kernel) ⟨(Nat.le_of_ble_eq_true rfl), (Nat.le_of_ble_eq_true rfl)⟩) ⟨wPre_blind, w_pre (hK.sub [] rfl) w_P0 (w_D0 (A := A))⟩ rfl rfl hl.1 rfl (lv_room (Nat.le_of_ble_eq_true rfl)) dX1_dusk_3 ⟨(Nat.le_of_ble_eq_true rfl), (Nat.le_of_ble_eq_true rfl)⟩) hP hS hA (fun r3 u3 H locs hw3 hP hS => ?_)
  have hw3 : r3 = p_tide d := hw3
  subst hw3
  refine lv_iadd hx hb dX1_dusk_6 ?_
  refine lv_aload_n hx hb dX1_dusk_7 rfl (lv_at hl 0 rfl) ?_
  refine va_get (ci := 1) (v := .int sh) (C := RX1) (T := TX1) (N := 18) hx hb hts hin hown hK hP 0 rfl rfl 2 (by decide) (hts (.fieldLink RX1 68 "CurfewDeskModel" "shift" "I") (by decide +kernel)) (fun _ h9 => h9) rfl dX1_dusk_8 ?_
  refine lv_iadd hx hb dX1_dusk_11 ?_
  exact w_iret () hx hb hr hlocks hK hP hD hS (Nat.le_of_ble_eq_true rfl) (Nat.le_of_ble_eq_true rfl) dX1_dusk_12 (show ((34 + (p_tide d)) + sh) = p_dusk d sh from by rfl)
set_option maxHeartbeats 4000000 in
set_option maxRecDepth 100000 in
theorem c_X1_dawn (l : Launch) (G : va_G) (sz : Nat) (d : Int32) : Met l yX1_dawn wsX1_dawn ({ frames := 1, cells := 0, slots := 0, locals := 21 } : Room) (va_Pc [.int d] (wPre G [] [] sz)) (va_Qi (fun (r : Int32) (_ : Unit) => r = p_dawn d) (fun _ => wP G [] [] (va_A [] sz)) (va_A [] sz)) 0 0 (va_A [] sz) := by
  refine w_met (cc := cX1_dawn) (maxL := 1) (ret := (some .int)) (by decide) rfl (Nat.le_of_ble_eq_true rfl) ?_
  intro pg e s m below meth cd hx hb hml hr hts hown hlocks hnm hK hsz hP hD hA hS ls hl
  have hown : s.vm.findClass RX1 = some m.cls := hown
  have hl : lv_has ls 1 [(0, .int d)] := hl
  generalize hAe : va_A [] sz = A at hD hA hS ⊢
  refine lv_bipush (v := 14) hx hb dX1_dawn_0 (by decide) ?_
  refine lv_iload_n hx hb dX1_dawn_2 rfl (lv_at hl 0 rfl) ?_
  refine w_st_i (va_runS (As := [.int d]) (rest := [.int 14]) ⟨hx, hb, hml, hown, hts⟩ (c_X1_tide l G s.heap.size d ) (va_cwS 1 hts gX1_dawn_X1_tide rfl rfl rfl (by decide +kernel) ⟨(Nat.le_of_ble_eq_true rfl), (Nat.le_of_ble_eq_true rfl)⟩) ⟨wPre_blind, w_pre (hK.sub [] rfl) w_P0 (w_D0 (A := A))⟩ rfl rfl hl.1 rfl (lv_room (Nat.le_of_ble_eq_true rfl)) dX1_dawn_3 ⟨(Nat.le_of_ble_eq_true rfl), (Nat.le_of_ble_eq_true rfl)⟩) hP hS hA (fun r3 u3 H locs hw3 hP hS => ?_)
  have hw3 : r3 = p_tide d := hw3
  subst hw3
  refine lv_isub hx hb dX1_dawn_6 ?_
  exact w_iret () hx hb hr hlocks hK hP hD hS (Nat.le_of_ble_eq_true rfl) (Nat.le_of_ble_eq_true rfl) dX1_dawn_7 (show (14 - (p_tide d)) = p_dawn d from by rfl)
set_option maxHeartbeats 4000000 in
set_option maxRecDepth 100000 in
theorem c_X1_isAt (l : Launch) (G : va_G) (cI cZ : ClassId) (h : Nat) (a : Nat → Nat) (F : Nat → Nat → Int32) (nq no np : Nat) (sh nw : Int32) (th : Int32) (wt : Nat → Int32) (sz : Nat) (o : Nat) (t : Int32) (ho : o < 10) : Met l yX1_isAt wsX1_isAt ({ frames := 2, cells := 0, slots := 0, locals := 42 } : Room) (va_Pc [.ref h, .int (nI o), .int t] (wPre G (ty2 cI cZ) (Mk cI cZ h a F nq no np sh nw th wt) sz)) (va_Qi (fun (r : Int32) (_ : Unit) => r = b2i (p_at F sh o t)) (fun _ => wP G (ty2 cI cZ) (Mk cI cZ h a F nq no np sh nw th wt) (va_A (Mk cI cZ h a F nq no np sh nw th wt) sz)) (va_A (Mk cI cZ h a F nq no np sh nw th wt) sz)) 0 0 (va_A (Mk cI cZ h a F nq no np sh nw th wt) sz) := by
  refine w_met (cc := cX1_isAt) (maxL := 5) (ret := (some .boolean)) (by decide) rfl (Nat.le_of_ble_eq_true rfl) ?_
  intro pg e s m below meth cd hx hb hml hr hts hown hlocks hnm hK hsz hP hD hA hS ls hl
  have hown : s.vm.findClass RX1 = some m.cls := hown
  have hin : ∀ w ∈ wsX10, w ∈ wsX1_isAt := by decide +kernel
  have hl : lv_has ls 5 [(0, .ref h), (1, .int (nI o)), (2, .int t)] := hl
  generalize hAe : va_A (Mk cI cZ h a F nq no np sh nw th wt) sz = A at hD hA hS ⊢
  refine lv_iload_n hx hb dX1_isAt_0 rfl (lv_at hl 2 rfl) ?_
  refine lv_bipush (v := 48) hx hb dX1_isAt_1 (by decide) ?_
  refine lv_idiv hx hb dX1_isAt_3 (by decide) ?_
  refine lv_istore_n (lv' := [(3, .int (t / 48)), (0, .ref h), (1, .int (nI o)), (2, .int t)]) hx hb dX1_isAt_4 rfl hl (by decide) rfl (fun ls hl => ?_)
  refine lv_iload_n hx hb dX1_isAt_5 rfl (lv_at hl 3 rfl) ?_
  refine lv_bipush (v := 48) hx hb dX1_isAt_6 (by decide) ?_
  refine lv_irem hx hb dX1_isAt_8 (by decide) ?_
  refine lv_istore (lv' := [(4, .int (t - t / 48 * 48)), (3, .int (t / 48)), (0, .ref h), (1, .int (nI o)), (2, .int t)]) hx hb dX1_isAt_9 hl (by decide) rfl (fun ls hl => ?_)
  refine lv_iload hx hb dX1_isAt_11 (lv_at hl 0 rfl) ?_
  refine lv_aload_n hx hb dX1_isAt_13 rfl (lv_at hl 2 rfl) ?_
  refine lv_iload_n hx hb dX1_isAt_14 rfl (lv_at hl 1 rfl) ?_
  refine w_in_i (va_runV (As := [.int (t / 48)]) (rest := [.int (t - t / 48 * 48)]) ⟨hx, hb, hml, hown, hts⟩ (c_X1_dusk l G cI cZ h a F nq no np sh nw th wt s.heap.size (t / 48) ) (cwV 1 hts gX1_isAt_X1_dusk rfl rfl rfl (by decide +kernel) ⟨(Nat.le_of_ble_eq_true rfl), (Nat.le_of_ble_eq_true rfl)⟩) ⟨wPre_blind, va_recv hK hP (ci := 1) (q0 := 0) rfl rfl, w_pre hK hP hD⟩ rfl rfl hl.1 rfl (lv_room (Nat.le_of_ble_eq_true rfl)) dX1_isAt_15 ⟨(Nat.le_of_ble_eq_true rfl), (Nat.le_of_ble_eq_true rfl)⟩) hD hS hA (fun r15 u15 H locs hw15 hP hD hS => ?_)
  have hP : va_P G vwCl (Mk cI cZ h a F nq no np sh nw th wt) H := hP
  have hD : va_D A (Mk cI cZ h a F nq no np sh nw th wt) := hD
  have hw15 : r15 = p_dusk (t / 48) sh := hw15
  subst hw15
  refine lv_aload_n hx hb dX1_isAt_18 rfl (lv_at hl 2 rfl) ?_
  refine va_get (ci := 1) (v := .ref (a 1)) (C := RX1) (T := TX1) (N := 18) hx hb hts hin hown hK hP 0 rfl rfl 7 (by decide) (hts (.fieldLink RX1 13 "CurfewDeskModel" "ahead" "[I") (by decide +kernel)) (fun _ h9 => h9) rfl dX1_isAt_19 ?_
  refine lv_iload_n hx hb dX1_isAt_22 rfl (lv_at hl 3 rfl) ?_
  refine w_iald hx hb hK hP 2 0 rfl rfl (f := (F 1)) (j := o) (by omega) (by omega) dX1_isAt_23 ?_
  refine lv_isub hx hb dX1_isAt_24 ?_
  refine lv_icmp_ge (tgt := 44) hx hb dX1_isAt_25 (by decide) (fun c25 => ?_) (fun c25 => ?_)
  · refine lv_iconst (v := 1) hx hb dX1_isAt_44 (by decide) ?_
    refine lv_goto (tgt := 49) hx hb dX1_isAt_45 (by decide) ?_
    exact w_zret () hx hb hr hlocks hK hP hD hS (Nat.le_of_ble_eq_true rfl) (Nat.le_of_ble_eq_true rfl) dX1_isAt_49 rfl (show 1 = b2i (p_at F sh o t) from by simp only [p_at, decide_eq_true c25, Bool.not_true, Bool.not_false, Bool.true_or, Bool.false_or, Bool.or_true, Bool.or_false, Bool.true_and, Bool.false_and, Bool.and_true, Bool.and_false, b2i_T, b2i_F])
  · refine lv_iload hx hb dX1_isAt_28 (lv_at hl 0 rfl) ?_
    refine lv_iload_n hx hb dX1_isAt_30 rfl (lv_at hl 1 rfl) ?_
    refine w_st_i (va_runS (As := [.int (t / 48)]) (rest := [.int (t - t / 48 * 48)]) ⟨hx, hb, hml, hown, hts⟩ (c_X1_dawn l G H.size (t / 48) ) (va_cwS 1 hts gX1_isAt_X1_dawn rfl rfl rfl (by decide +kernel) ⟨(Nat.le_of_ble_eq_true rfl), (Nat.le_of_ble_eq_true rfl)⟩) ⟨wPre_blind, w_pre (hK.sub [] rfl) w_P0 (w_D0 (A := A))⟩ rfl rfl hl.1 rfl (lv_room (Nat.le_of_ble_eq_true rfl)) dX1_isAt_31 ⟨(Nat.le_of_ble_eq_true rfl), (Nat.le_of_ble_eq_true rfl)⟩) hP hS hA (fun r31 u31 H locs hw31 hP hS => ?_)
    have hw31 : r31 = p_dawn (t / 48) := hw31
    subst hw31
    refine lv_aload_n hx hb dX1_isAt_34 rfl (lv_at hl 2 rfl) ?_
    refine va_get (ci := 1) (v := .ref (a 2)) (C := RX1) (T := TX1) (N := 18) hx hb hts hin hown hK hP 0 rfl rfl 8 (by decide) (hts (.fieldLink RX1 16 "CurfewDeskModel" "behind" "[I") (by decide +kernel)) (fun _ h9 => h9) rfl dX1_isAt_35 ?_
    refine lv_iload_n hx hb dX1_isAt_38 rfl (lv_at hl 3 rfl) ?_
    refine w_iald hx hb hK hP 3 0 rfl rfl (f := (F 2)) (j := o) (by omega) (by omega) dX1_isAt_39 ?_
    refine lv_iadd hx hb dX1_isAt_40 ?_
    refine lv_icmp_ge (tgt := 48) hx hb dX1_isAt_41 (by decide) (fun c41 => ?_) (fun c41 => ?_)
    · refine lv_iconst (v := 0) hx hb dX1_isAt_48 (by decide) ?_
      exact w_zret () hx hb hr hlocks hK hP hD hS (Nat.le_of_ble_eq_true rfl) (Nat.le_of_ble_eq_true rfl) dX1_isAt_49 rfl (show 0 = b2i (p_at F sh o t) from by simp only [p_at, decide_eq_false c25, decide_eq_true c41, Bool.not_true, Bool.not_false, Bool.true_or, Bool.false_or, Bool.or_true, Bool.or_false, Bool.true_and, Bool.false_and, Bool.and_true, Bool.and_false, b2i_T, b2i_F])
    · refine lv_iconst (v := 1) hx hb dX1_isAt_44 (by decide) ?_
      refine lv_goto (tgt := 49) hx hb dX1_isAt_45 (by decide) ?_
      exact w_zret () hx hb hr hlocks hK hP hD hS (Nat.le_of_ble_eq_true rfl) (Nat.le_of_ble_eq_true rfl) dX1_isAt_49 rfl (show 1 = b2i (p_at F sh o t) from by simp only [p_at, decide_eq_false c25, decide_eq_false c41, Bool.not_true, Bool.not_false, Bool.true_or, Bool.false_or, Bool.or_true, Bool.or_false, Bool.true_and, Bool.false_and, Bool.and_true, Bool.and_false, b2i_T, b2i_F])
set_option maxHeartbeats 4000000 in
set_option maxRecDepth 100000 in
theorem c_X1_onAt (l : Launch) (G : va_G) (cI cZ : ClassId) (h : Nat) (a : Nat → Nat) (F : Nat → Nat → Int32) (nq no np : Nat) (sh nw : Int32) (th : Int32) (wt : Nat → Int32) (sz : Nat) (o : Nat) (t : Int32) (ho : o < 10) : Met l yX1_onAt wsX1_onAt ({ frames := 3, cells := 0, slots := 0, locals := 66 } : Room) (va_Pc [.ref h, .int (nI o), .int t] (wPre G (ty2 cI cZ) (Mk cI cZ h a F nq no np sh nw th wt) sz)) (va_Qi (fun (r : Int32) (_ : Unit) => r = b2i (p_on F sh o t)) (fun _ => wP G (ty2 cI cZ) (Mk cI cZ h a F nq no np sh nw th wt) (va_A (Mk cI cZ h a F nq no np sh nw th wt) sz)) (va_A (Mk cI cZ h a F nq no np sh nw th wt) sz)) 0 0 (va_A (Mk cI cZ h a F nq no np sh nw th wt) sz) := by
  refine w_met (cc := cX1_onAt) (maxL := 3) (ret := (some .boolean)) (by decide) rfl (Nat.le_of_ble_eq_true rfl) ?_
  intro pg e s m below meth cd hx hb hml hr hts hown hlocks hnm hK hsz hP hD hA hS ls hl
  have hown : s.vm.findClass RX1 = some m.cls := hown
  have hin : ∀ w ∈ wsX10, w ∈ wsX1_onAt := by decide +kernel
  have hl : lv_has ls 3 [(0, .ref h), (1, .int (nI o)), (2, .int t)] := hl
  generalize hAe : va_A (Mk cI cZ h a F nq no np sh nw th wt) sz = A at hD hA hS ⊢
  refine lv_aload_n hx hb dX1_onAt_0 rfl (lv_at hl 0 rfl) ?_
  refine va_get (ci := 1) (v := .ref (a 4)) (C := RX1) (T := TX1) (N := 18) hx hb hts hin hown hK hP 0 rfl rfl 11 (by decide) (hts (.fieldLink RX1 25 "CurfewDeskModel" "force" "[Z") (by decide +kernel)) (fun _ h9 => h9) rfl dX1_onAt_1 ?_
  refine lv_iload_n hx hb dX1_onAt_4 rfl (lv_at hl 1 rfl) ?_
  refine w_zald hx hb hK hP 5 1 rfl rfl (f := (F 4)) (j := o) (by omega) (by omega) dX1_onAt_5 ?_
  refine lv_if_eq (tgt := 22) hx hb dX1_onAt_6 (by decide) (fun c6 => ?_) (fun c6 => ?_)
  · refine lv_iconst (v := 0) hx hb dX1_onAt_22 (by decide) ?_
    exact w_zret () hx hb hr hlocks hK hP hD hS (Nat.le_of_ble_eq_true rfl) (Nat.le_of_ble_eq_true rfl) dX1_onAt_23 rfl (show 0 = b2i (p_on F sh o t) from by simp only [p_on, decide_eq_true c6, Bool.not_true, Bool.not_false, Bool.true_or, Bool.false_or, Bool.or_true, Bool.or_false, Bool.true_and, Bool.false_and, Bool.and_true, Bool.and_false, b2i_T, b2i_F])
  · refine lv_aload_n hx hb dX1_onAt_9 rfl (lv_at hl 0 rfl) ?_
    refine lv_iload_n hx hb dX1_onAt_10 rfl (lv_at hl 1 rfl) ?_
    refine lv_iload_n hx hb dX1_onAt_11 rfl (lv_at hl 2 rfl) ?_
    refine w_in_i (va_runV (As := [.int (nI o), .int t]) (rest := []) ⟨hx, hb, hml, hown, hts⟩ (c_X1_isAt l G cI cZ h a F nq no np sh nw th wt s.heap.size o t (by omega)) (cwV 2 hts gX1_onAt_X1_isAt rfl rfl rfl (by decide +kernel) ⟨(Nat.le_of_ble_eq_true rfl), (Nat.le_of_ble_eq_true rfl)⟩) ⟨wPre_blind, va_recv hK hP (ci := 1) (q0 := 0) rfl rfl, w_pre hK hP hD⟩ rfl rfl hl.1 rfl (lv_room (Nat.le_of_ble_eq_true rfl)) dX1_onAt_12 ⟨(Nat.le_of_ble_eq_true rfl), (Nat.le_of_ble_eq_true rfl)⟩) hD hS hA (fun r12 u12 H locs hw12 hP hD hS => ?_)
    have hP : va_P G vwCl (Mk cI cZ h a F nq no np sh nw th wt) H := hP
    have hD : va_D A (Mk cI cZ h a F nq no np sh nw th wt) := hD
    have hw12 : r12 = b2i (p_at F sh o t) := hw12
    subst hw12
    refine w_selE (v1 := 1) (v2 := 0) hx hb dX1_onAt_15 (by decide) dX1_onAt_18 (by decide) dX1_onAt_19 (by decide) dX1_onAt_22 (by decide) ?_
    rw [b2i_sel]
    exact w_zret () hx hb hr hlocks hK hP hD hS (Nat.le_of_ble_eq_true rfl) (Nat.le_of_ble_eq_true rfl) dX1_onAt_23 (b2i_n _) (show (b2i (p_at F sh o t)) = b2i (p_on F sh o t) from by simp only [p_on, decide_eq_false c6, Bool.not_true, Bool.not_false, Bool.true_or, Bool.false_or, Bool.or_true, Bool.or_false, Bool.true_and, Bool.false_and, Bool.and_true, Bool.and_false, b2i_T, b2i_F])
set_option maxHeartbeats 4000000 in
set_option maxRecDepth 100000 in
theorem c_X1_barsAt (l : Launch) (G : va_G) (cI cZ : ClassId) (h : Nat) (a : Nat → Nat) (F : Nat → Nat → Int32) (nq no np : Nat) (sh nw : Int32) (th : Int32) (wt : Nat → Int32) (sz : Nat) (o : Nat) (p : Nat) (q : Int32) (t : Int32) (ho : o < 10) (hp : p < 20) : Met l yX1_barsAt wsX1_barsAt ({ frames := 4, cells := 0, slots := 0, locals := 88 } : Room) (va_Pc [.ref h, .int (nI o), .int (nI p), .int q, .int t] (wPre G (ty2 cI cZ) (Mk cI cZ h a F nq no np sh nw th wt) sz)) (va_Qi (fun (r : Int32) (_ : Unit) => r = b2i (p_bars F sh o p q t)) (fun _ => wP G (ty2 cI cZ) (Mk cI cZ h a F nq no np sh nw th wt) (va_A (Mk cI cZ h a F nq no np sh nw th wt) sz)) (va_A (Mk cI cZ h a F nq no np sh nw th wt) sz)) 0 0 (va_A (Mk cI cZ h a F nq no np sh nw th wt) sz) := by
  refine w_met (cc := cX1_barsAt) (maxL := 5) (ret := (some .boolean)) (by decide) rfl (Nat.le_of_ble_eq_true rfl) ?_
  intro pg e s m below meth cd hx hb hml hr hts hown hlocks hnm hK hsz hP hD hA hS ls hl
  have hown : s.vm.findClass RX1 = some m.cls := hown
  have hin : ∀ w ∈ wsX10, w ∈ wsX1_barsAt := by decide +kernel
  have hl : lv_has ls 5 [(0, .ref h), (1, .int (nI o)), (2, .int (nI p)), (3, .int q), (4, .int t)] := hl
  generalize hAe : va_A (Mk cI cZ h a F nq no np sh nw th wt) sz = A at hD hA hS ⊢
  refine lv_aload_n hx hb dX1_barsAt_0 rfl (lv_at hl 0 rfl) ?_
  refine va_get (ci := 1) (v := .ref (a 0)) (C := RX1) (T := TX1) (N := 18) hx hb hts hin hown hK hP 0 rfl rfl 6 (by decide) (hts (.fieldLink RX1 9 "CurfewDeskModel" "quarter" "[I") (by decide +kernel)) (fun _ h9 => h9) rfl dX1_barsAt_1 ?_
  refine lv_iload_n hx hb dX1_barsAt_4 rfl (lv_at hl 1 rfl) ?_
  refine w_iald hx hb hK hP 1 0 rfl rfl (f := (F 0)) (j := o) (by omega) (by omega) dX1_barsAt_5 ?_
  refine lv_iload_n hx hb dX1_barsAt_6 rfl (lv_at hl 3 rfl) ?_
  refine lv_icmp_ne (tgt := 42) hx hb dX1_barsAt_7 (by decide) (fun c7 => ?_) (fun c7 => ?_)
  · refine lv_iconst (v := 0) hx hb dX1_barsAt_42 (by decide) ?_
    exact w_zret () hx hb hr hlocks hK hP hD hS (Nat.le_of_ble_eq_true rfl) (Nat.le_of_ble_eq_true rfl) dX1_barsAt_43 rfl (show 0 = b2i (p_bars F sh o p q t) from by simp only [p_bars, p_ex, p_on, decide_eq_false c7, Bool.not_true, Bool.not_false, Bool.true_or, Bool.false_or, Bool.or_true, Bool.or_false, Bool.true_and, Bool.false_and, Bool.and_true, Bool.and_false, b2i_T, b2i_F])
  · refine lv_aload_n hx hb dX1_barsAt_10 rfl (lv_at hl 0 rfl) ?_
    refine va_get (ci := 1) (v := .ref (a 5)) (C := RX1) (T := TX1) (N := 18) hx hb hts hin hown hK hP 0 rfl rfl 10 (by decide) (hts (.fieldLink RX1 22 "CurfewDeskModel" "exempt" "[I") (by decide +kernel)) (fun _ h9 => h9) rfl dX1_barsAt_11 ?_
    refine lv_iload_n hx hb dX1_barsAt_14 rfl (lv_at hl 1 rfl) ?_
    refine w_iald hx hb hK hP 6 0 rfl rfl (f := (F 5)) (j := o) (by omega) (by omega) dX1_barsAt_15 ?_
    refine lv_aload_n hx hb dX1_barsAt_16 rfl (lv_at hl 0 rfl) ?_
    refine va_get (ci := 1) (v := .ref (a 6)) (C := RX1) (T := TX1) (N := 18) hx hb hts hin hown hK hP 0 rfl rfl 12 (by decide) (hts (.fieldLink RX1 29 "CurfewDeskModel" "trade" "[I") (by decide +kernel)) (fun _ h9 => h9) rfl dX1_barsAt_17 ?_
    refine lv_iload_n hx hb dX1_barsAt_20 rfl (lv_at hl 2 rfl) ?_
    refine w_iald hx hb hK hP 7 0 rfl rfl (f := (F 6)) (j := p) (by omega) (by omega) dX1_barsAt_21 ?_
    refine lv_ishr hx hb dX1_barsAt_22 ?_
    refine lv_iconst (v := 1) hx hb dX1_barsAt_23 (by decide) ?_
    refine lv_iand hx hb dX1_barsAt_24 ?_
    refine lv_if_ne (tgt := 42) hx hb dX1_barsAt_25 (by decide) (fun c25 => ?_) (fun c25 => ?_)
    · refine lv_iconst (v := 0) hx hb dX1_barsAt_42 (by decide) ?_
      exact w_zret () hx hb hr hlocks hK hP hD hS (Nat.le_of_ble_eq_true rfl) (Nat.le_of_ble_eq_true rfl) dX1_barsAt_43 rfl (show 0 = b2i (p_bars F sh o p q t) from by simp only [p_bars, p_ex, p_on, decide_eq_true c7, decide_eq_false c25, Bool.not_true, Bool.not_false, Bool.true_or, Bool.false_or, Bool.or_true, Bool.or_false, Bool.true_and, Bool.false_and, Bool.and_true, Bool.and_false, b2i_T, b2i_F])
    · refine lv_aload_n hx hb dX1_barsAt_28 rfl (lv_at hl 0 rfl) ?_
      refine lv_iload_n hx hb dX1_barsAt_29 rfl (lv_at hl 1 rfl) ?_
      refine lv_iload hx hb dX1_barsAt_30 (lv_at hl 4 rfl) ?_
      refine w_in_i (va_runV (As := [.int (nI o), .int t]) (rest := []) ⟨hx, hb, hml, hown, hts⟩ (c_X1_onAt l G cI cZ h a F nq no np sh nw th wt s.heap.size o t (by omega)) (cwV 2 hts gX1_barsAt_X1_onAt rfl rfl rfl (by decide +kernel) ⟨(Nat.le_of_ble_eq_true rfl), (Nat.le_of_ble_eq_true rfl)⟩) ⟨wPre_blind, va_recv hK hP (ci := 1) (q0 := 0) rfl rfl, w_pre hK hP hD⟩ rfl rfl hl.1 rfl (lv_room (Nat.le_of_ble_eq_true rfl)) dX1_barsAt_32 ⟨(Nat.le_of_ble_eq_true rfl), (Nat.le_of_ble_eq_true rfl)⟩) hD hS hA (fun r32 u32 H locs hw32 hP hD hS => ?_)
      have hP : va_P G vwCl (Mk cI cZ h a F nq no np sh nw th wt) H := hP
      have hD : va_D A (Mk cI cZ h a F nq no np sh nw th wt) := hD
      have hw32 : r32 = b2i (p_on F sh o t) := hw32
      subst hw32
      refine w_selE (v1 := 1) (v2 := 0) hx hb dX1_barsAt_35 (by decide) dX1_barsAt_38 (by decide) dX1_barsAt_39 (by decide) dX1_barsAt_42 (by decide) ?_
      rw [b2i_sel]
      exact w_zret () hx hb hr hlocks hK hP hD hS (Nat.le_of_ble_eq_true rfl) (Nat.le_of_ble_eq_true rfl) dX1_barsAt_43 (b2i_n _) (show (b2i (p_on F sh o t)) = b2i (p_bars F sh o p q t) from by simp only [p_bars, p_ex, p_on, decide_eq_true c7, decide_eq_true c25, Bool.not_true, Bool.not_false, Bool.true_or, Bool.false_or, Bool.or_true, Bool.or_false, Bool.true_and, Bool.false_and, Bool.and_true, Bool.and_false, b2i_T, b2i_F])
set_option maxHeartbeats 4000000 in
set_option maxRecDepth 100000 in
theorem c_X1_against (l : Launch) (G : va_G) (cI cZ : ClassId) (h : Nat) (a : Nat → Nat) (F : Nat → Nat → Int32) (nq no np : Nat) (sh nw : Int32) (th : Int32) (wt : Nat → Int32) (sz : Nat) (p : Nat) (q : Int32) (t : Int32) (hp : p < 20) (hno : no ≤ 10) : Met l yX1_against wsX1_against ({ frames := 5, cells := 0, slots := 0, locals := 112 } : Room) (va_Pc [.ref h, .int (nI p), .int q, .int t] (wPre G (ty2 cI cZ) (Mk cI cZ h a F nq no np sh nw th wt) sz)) (va_Qi (fun (r : Int32) (_ : Unit) => r = nI (p_ag F sh no p q t)) (fun _ => wP G (ty2 cI cZ) (Mk cI cZ h a F nq no np sh nw th wt) (va_A (Mk cI cZ h a F nq no np sh nw th wt) sz)) (va_A (Mk cI cZ h a F nq no np sh nw th wt) sz)) 0 0 (va_A (Mk cI cZ h a F nq no np sh nw th wt) sz) := by
  refine w_met (cc := cX1_against) (maxL := 6) (ret := (some .int)) (by decide) rfl (Nat.le_of_ble_eq_true rfl) ?_
  intro pg e s m below meth cd hx hb hml hr hts hown hlocks hnm hK hsz hP hD hA hS ls hl
  have hown : s.vm.findClass RX1 = some m.cls := hown
  have hin : ∀ w ∈ wsX10, w ∈ wsX1_against := by decide +kernel
  have hl : lv_has ls 6 [(0, .ref h), (1, .int (nI p)), (2, .int q), (3, .int t)] := hl
  generalize hAe : va_A (Mk cI cZ h a F nq no np sh nw th wt) sz = A at hD hA hS ⊢
  refine lv_iconst (v := 0) hx hb dX1_against_0 (by decide) ?_
  refine lv_istore (lv' := [(4, .int 0), (0, .ref h), (1, .int (nI p)), (2, .int q), (3, .int t)]) hx hb dX1_against_1 hl (by decide) rfl (fun ls hl => ?_)
  refine lv_iconst (v := 0) hx hb dX1_against_3 (by decide) ?_
  refine lv_istore (lv' := [(5, .int 0), (4, .int 0), (0, .ref h), (1, .int (nI p)), (2, .int q), (3, .int t)]) hx hb dX1_against_4 hl (by decide) rfl (fun ls hl => ?_)
  have key6 : ∀ (n i6 : Nat), i6 ≤ no → no < i6 + n → ∀ (x4 : Int32) (x5 : Int32), x4 = nI (p_ct (fun o => p_bars F sh o p q t) i6) → x5 = nI i6 → ∀ (H : Heap) (locs : List Loc), va_P G vwCl (Mk cI cZ h a F nq no np sh nw th wt) H → va_D A (Mk cI cZ h a F nq no np sh nw th wt) → va_S A s.heap H locs → ∀ ls : Array Slot, lv_has ls 6 [(0, .ref h), (1, .int (nI p)), (2, .int q), (3, .int t), (4, .int x4), (5, .int x5)] → W pg l e ({ frames := 5, cells := 0, slots := 0, locals := 112 } : Room) s m ([.ref h, .int (nI p), .int q, .int t] : List Value).toArray below meth cd H locs (0) (0) (MQ below (va_Qi (fun (r : Int32) (_ : Unit) => r = nI (p_ag F sh no p q t)) (fun _ => wP G (ty2 cI cZ) (Mk cI cZ h a F nq no np sh nw th wt) A) A) ([.ref h, .int (nI p), .int q, .int t] : List Value).toArray s 0 0 A) (F0 m 6 ls []) := by
    intro n
    induction n with
    | zero => intro i6 h1 h2; exact absurd h2 (by omega)
    | succ n ih6 =>
      intro i6 hi_i6 hn_i6 x4 x5 e4 e5 H locs hP hD hS ls hl
      subst e4 e5
      refine lv_iload hx hb dX1_against_6 (lv_at hl 5 rfl) ?_
      refine lv_aload_n hx hb dX1_against_8 rfl (lv_at hl 0 rfl) ?_
      refine va_get (ci := 1) (v := .int (nI no)) (C := RX1) (T := TX1) (N := 18) hx hb hts hin hown hK hP 0 rfl rfl 4 (by decide) (hts (.fieldLink RX1 58 "CurfewDeskModel" "orders" "I") (by decide +kernel)) (fun _ h9 => h9) rfl dX1_against_9 ?_
      refine lv_icmp_ge (tgt := 43) hx hb dX1_against_12 (by decide) (fun c12 => ?_) (fun c12 => ?_)
      · have c12 := (nI_leI (a := no) (b := i6) (by omega) (by omega)).mp c12
        have ei : no = i6 := by omega
        subst ei
        refine lv_iload hx hb dX1_against_43 (lv_at hl 4 rfl) ?_
        exact w_iret () hx hb hr hlocks hK hP hD hS (Nat.le_of_ble_eq_true rfl) (Nat.le_of_ble_eq_true rfl) dX1_against_45 (show (nI (p_ct (fun o => p_bars F sh o p q t) no)) = nI (p_ag F sh no p q t) from by rfl)
      · have c12 := mt (nI_leI (a := no) (b := i6) (by omega) (by omega)).mpr c12
        have hlt_i6 : i6 < no := by omega
        refine lv_iload hx hb dX1_against_15 (lv_at hl 4 rfl) ?_
        refine lv_aload_n hx hb dX1_against_17 rfl (lv_at hl 0 rfl) ?_
        refine lv_iload hx hb dX1_against_18 (lv_at hl 5 rfl) ?_
        refine lv_iload_n hx hb dX1_against_20 rfl (lv_at hl 1 rfl) ?_
        refine lv_iload_n hx hb dX1_against_21 rfl (lv_at hl 2 rfl) ?_
        refine lv_iload_n hx hb dX1_against_22 rfl (lv_at hl 3 rfl) ?_
        refine w_in_i (va_runV (As := [.int (nI i6), .int (nI p), .int q, .int t]) (rest := [.int (nI (p_ct (fun o => p_bars F sh o p q t) i6))]) ⟨hx, hb, hml, hown, hts⟩ (c_X1_barsAt l G cI cZ h a F nq no np sh nw th wt H.size i6 p q t (by omega) (by omega)) (cwV 4 hts gX1_against_X1_barsAt rfl rfl rfl (by decide +kernel) ⟨(Nat.le_of_ble_eq_true rfl), (Nat.le_of_ble_eq_true rfl)⟩) ⟨wPre_blind, va_recv hK hP (ci := 1) (q0 := 0) rfl rfl, w_pre hK hP hD⟩ rfl rfl hl.1 rfl (lv_room (Nat.le_of_ble_eq_true rfl)) dX1_against_23 ⟨(Nat.le_of_ble_eq_true rfl), (Nat.le_of_ble_eq_true rfl)⟩) hD hS hA (fun r23 u23 H locs hw23 hP hD hS => ?_)
        have hP : va_P G vwCl (Mk cI cZ h a F nq no np sh nw th wt) H := hP
        have hD : va_D A (Mk cI cZ h a F nq no np sh nw th wt) := hD
        have hw23 : r23 = b2i (p_bars F sh i6 p q t) := hw23
        subst hw23
        refine w_selE (v1 := 1) (v2 := 0) hx hb dX1_against_26 (by decide) dX1_against_29 (by decide) dX1_against_30 (by decide) dX1_against_33 (by decide) ?_
        rw [b2i_sel]
        refine lv_iadd hx hb dX1_against_34 ?_
        refine lv_istore (lv' := [(4, .int ((nI (p_ct (fun o => p_bars F sh o p q t) i6)) + (b2i (p_bars F sh i6 p q t)))), (0, .ref h), (1, .int (nI p)), (2, .int q), (3, .int t), (5, .int (nI i6))]) hx hb dX1_against_35 hl (by decide) rfl (fun ls hl => ?_)
        refine lv_iinc (v := nI i6 + 1) (lv' := [(5, .int (nI i6 + 1)), (4, .int ((nI (p_ct (fun o => p_bars F sh o p q t) i6)) + (b2i (p_bars F sh i6 p q t)))), (0, .ref h), (1, .int (nI p)), (2, .int q), (3, .int t)]) hx hb dX1_against_37 hl (k := 5) rfl rfl (by decide) rfl (fun ls hl => ?_)
        refine lv_goto (tgt := 6) hx hb dX1_against_40 (by decide) ?_
        exact ih6 (i6 + 1) (by omega) (by omega) ((nI (p_ct (fun o => p_bars F sh o p q t) i6)) + (b2i (p_bars F sh i6 p q t))) (nI i6 + 1) (by exact nct_b) (by first | exact nI_1 _ | exact nct_t (by assumption) | exact nct_f (by assumption) | exact nct_b | rfl) _ _ hP hD hS _ (lv_sub hl [2, 3, 4, 5, 1, 0] rfl)
  exact key6 (no + 1) 0 (by omega) (by omega) 0 0 (by first | rfl | simp [p_ct, p_sm, p_fl, p_fg, nI_0]) (by first | rfl | simp [p_ct, p_sm, p_fl, p_fg, nI_0]) _ _ hP hD hS _ (lv_sub hl [2, 3, 4, 5, 1, 0] rfl)
set_option maxHeartbeats 4000000 in
set_option maxRecDepth 100000 in
theorem c_X1_barred (l : Launch) (G : va_G) (cI cZ : ClassId) (h : Nat) (a : Nat → Nat) (F : Nat → Nat → Int32) (nq no np : Nat) (sh nw : Int32) (th : Int32) (wt : Nat → Int32) (sz : Nat) (o : Nat) (ho : o < 10) (hnp : np ≤ 20) : Met l yX1_barred wsX1_barred ({ frames := 5, cells := 0, slots := 0, locals := 112 } : Room) (va_Pc [.ref h, .int (nI o)] (wPre G (ty2 cI cZ) (Mk cI cZ h a F nq no np sh nw th wt) sz)) (va_Qi (fun (r : Int32) (_ : Unit) => r = nI (p_bd F sh np o nw)) (fun _ => wP G (ty2 cI cZ) (Mk cI cZ h a F nq no np sh nw th wt) (va_A (Mk cI cZ h a F nq no np sh nw th wt) sz)) (va_A (Mk cI cZ h a F nq no np sh nw th wt) sz)) 0 0 (va_A (Mk cI cZ h a F nq no np sh nw th wt) sz) := by
  refine w_met (cc := cX1_barred) (maxL := 4) (ret := (some .int)) (by decide) rfl (Nat.le_of_ble_eq_true rfl) ?_
  intro pg e s m below meth cd hx hb hml hr hts hown hlocks hnm hK hsz hP hD hA hS ls hl
  have hown : s.vm.findClass RX1 = some m.cls := hown
  have hin : ∀ w ∈ wsX10, w ∈ wsX1_barred := by decide +kernel
  have hl : lv_has ls 4 [(0, .ref h), (1, .int (nI o))] := hl
  generalize hAe : va_A (Mk cI cZ h a F nq no np sh nw th wt) sz = A at hD hA hS ⊢
  refine lv_iconst (v := 0) hx hb dX1_barred_0 (by decide) ?_
  refine lv_istore_n (lv' := [(2, .int 0), (0, .ref h), (1, .int (nI o))]) hx hb dX1_barred_1 rfl hl (by decide) rfl (fun ls hl => ?_)
  refine lv_iconst (v := 0) hx hb dX1_barred_2 (by decide) ?_
  refine lv_istore_n (lv' := [(3, .int 0), (2, .int 0), (0, .ref h), (1, .int (nI o))]) hx hb dX1_barred_3 rfl hl (by decide) rfl (fun ls hl => ?_)
  have key4 : ∀ (n i4 : Nat), i4 ≤ np → np < i4 + n → ∀ (x2 : Int32) (x3 : Int32), x2 = nI (p_ct (fun p => p_bars F sh o p (F 0 o) nw) i4) → x3 = nI i4 → ∀ (H : Heap) (locs : List Loc), va_P G vwCl (Mk cI cZ h a F nq no np sh nw th wt) H → va_D A (Mk cI cZ h a F nq no np sh nw th wt) → va_S A s.heap H locs → ∀ ls : Array Slot, lv_has ls 4 [(0, .ref h), (1, .int (nI o)), (2, .int x2), (3, .int x3)] → W pg l e ({ frames := 5, cells := 0, slots := 0, locals := 112 } : Room) s m ([.ref h, .int (nI o)] : List Value).toArray below meth cd H locs (0) (0) (MQ below (va_Qi (fun (r : Int32) (_ : Unit) => r = nI (p_bd F sh np o nw)) (fun _ => wP G (ty2 cI cZ) (Mk cI cZ h a F nq no np sh nw th wt) A) A) ([.ref h, .int (nI o)] : List Value).toArray s 0 0 A) (F0 m 4 ls []) := by
    intro n
    induction n with
    | zero => intro i4 h1 h2; exact absurd h2 (by omega)
    | succ n ih4 =>
      intro i4 hi_i4 hn_i4 x2 x3 e2 e3 H locs hP hD hS ls hl
      subst e2 e3
      refine lv_iload_n hx hb dX1_barred_4 rfl (lv_at hl 3 rfl) ?_
      refine lv_aload_n hx hb dX1_barred_5 rfl (lv_at hl 0 rfl) ?_
      refine va_get (ci := 1) (v := .int (nI np)) (C := RX1) (T := TX1) (N := 18) hx hb hts hin hown hK hP 0 rfl rfl 5 (by decide) (hts (.fieldLink RX1 61 "CurfewDeskModel" "people" "I") (by decide +kernel)) (fun _ h9 => h9) rfl dX1_barred_6 ?_
      refine lv_icmp_ge (tgt := 45) hx hb dX1_barred_9 (by decide) (fun c9 => ?_) (fun c9 => ?_)
      · have c9 := (nI_leI (a := np) (b := i4) (by omega) (by omega)).mp c9
        have ei : np = i4 := by omega
        subst ei
        refine lv_iload_n hx hb dX1_barred_45 rfl (lv_at hl 2 rfl) ?_
        exact w_iret () hx hb hr hlocks hK hP hD hS (Nat.le_of_ble_eq_true rfl) (Nat.le_of_ble_eq_true rfl) dX1_barred_46 (show (nI (p_ct (fun p => p_bars F sh o p (F 0 o) nw) np)) = nI (p_bd F sh np o nw) from by rfl)
      · have c9 := mt (nI_leI (a := np) (b := i4) (by omega) (by omega)).mpr c9
        have hlt_i4 : i4 < np := by omega
        refine lv_iload_n hx hb dX1_barred_12 rfl (lv_at hl 2 rfl) ?_
        refine lv_aload_n hx hb dX1_barred_13 rfl (lv_at hl 0 rfl) ?_
        refine lv_iload_n hx hb dX1_barred_14 rfl (lv_at hl 1 rfl) ?_
        refine lv_iload_n hx hb dX1_barred_15 rfl (lv_at hl 3 rfl) ?_
        refine lv_aload_n hx hb dX1_barred_16 rfl (lv_at hl 0 rfl) ?_
        refine va_get (ci := 1) (v := .ref (a 0)) (C := RX1) (T := TX1) (N := 18) hx hb hts hin hown hK hP 0 rfl rfl 6 (by decide) (hts (.fieldLink RX1 9 "CurfewDeskModel" "quarter" "[I") (by decide +kernel)) (fun _ h9 => h9) rfl dX1_barred_17 ?_
        refine lv_iload_n hx hb dX1_barred_20 rfl (lv_at hl 1 rfl) ?_
        refine w_iald hx hb hK hP 1 0 rfl rfl (f := (F 0)) (j := o) (by omega) (by omega) dX1_barred_21 ?_
        refine lv_aload_n hx hb dX1_barred_22 rfl (lv_at hl 0 rfl) ?_
        refine va_get (ci := 1) (v := .int nw) (C := RX1) (T := TX1) (N := 18) hx hb hts hin hown hK hP 0 rfl rfl 1 (by decide) (hts (.fieldLink RX1 122 "CurfewDeskModel" "time" "I") (by decide +kernel)) (fun _ h9 => h9) rfl dX1_barred_23 ?_
        refine w_in_i (va_runV (As := [.int (nI o), .int (nI i4), .int ((F 0) o), .int nw]) (rest := [.int (nI (p_ct (fun p => p_bars F sh o p (F 0 o) nw) i4))]) ⟨hx, hb, hml, hown, hts⟩ (c_X1_barsAt l G cI cZ h a F nq no np sh nw th wt H.size o i4 ((F 0) o) nw (by omega) (by omega)) (cwV 4 hts gX1_barred_X1_barsAt rfl rfl rfl (by decide +kernel) ⟨(Nat.le_of_ble_eq_true rfl), (Nat.le_of_ble_eq_true rfl)⟩) ⟨wPre_blind, va_recv hK hP (ci := 1) (q0 := 0) rfl rfl, w_pre hK hP hD⟩ rfl rfl hl.1 rfl (lv_room (Nat.le_of_ble_eq_true rfl)) dX1_barred_26 ⟨(Nat.le_of_ble_eq_true rfl), (Nat.le_of_ble_eq_true rfl)⟩) hD hS hA (fun r26 u26 H locs hw26 hP hD hS => ?_)
        have hP : va_P G vwCl (Mk cI cZ h a F nq no np sh nw th wt) H := hP
        have hD : va_D A (Mk cI cZ h a F nq no np sh nw th wt) := hD
        have hw26 : r26 = b2i (p_bars F sh o i4 ((F 0) o) nw) := hw26
        subst hw26
        refine w_selE (v1 := 1) (v2 := 0) hx hb dX1_barred_29 (by decide) dX1_barred_32 (by decide) dX1_barred_33 (by decide) dX1_barred_36 (by decide) ?_
        rw [b2i_sel]
        refine lv_iadd hx hb dX1_barred_37 ?_
        refine lv_istore_n (lv' := [(2, .int ((nI (p_ct (fun p => p_bars F sh o p (F 0 o) nw) i4)) + (b2i (p_bars F sh o i4 ((F 0) o) nw)))), (0, .ref h), (1, .int (nI o)), (3, .int (nI i4))]) hx hb dX1_barred_38 rfl hl (by decide) rfl (fun ls hl => ?_)
        refine lv_iinc (v := nI i4 + 1) (lv' := [(3, .int (nI i4 + 1)), (2, .int ((nI (p_ct (fun p => p_bars F sh o p (F 0 o) nw) i4)) + (b2i (p_bars F sh o i4 ((F 0) o) nw)))), (0, .ref h), (1, .int (nI o))]) hx hb dX1_barred_39 hl (k := 3) rfl rfl (by decide) rfl (fun ls hl => ?_)
        refine lv_goto (tgt := 4) hx hb dX1_barred_42 (by decide) ?_
        exact ih4 (i4 + 1) (by omega) (by omega) ((nI (p_ct (fun p => p_bars F sh o p (F 0 o) nw) i4)) + (b2i (p_bars F sh o i4 ((F 0) o) nw))) (nI i4 + 1) (by exact nct_b) (by first | exact nI_1 _ | exact nct_t (by assumption) | exact nct_f (by assumption) | exact nct_b | rfl) _ _ hP hD hS _ (lv_sub hl [2, 3, 1, 0] rfl)
  exact key4 (np + 1) 0 (by omega) (by omega) 0 0 (by first | rfl | simp [p_ct, p_sm, p_fl, p_fg, nI_0]) (by first | rfl | simp [p_ct, p_sm, p_fl, p_fg, nI_0]) _ _ hP hD hS _ (lv_sub hl [2, 3, 1, 0] rfl)
set_option maxHeartbeats 4000000 in
set_option maxRecDepth 100000 in
theorem c_X1_manyOn (l : Launch) (G : va_G) (cI cZ : ClassId) (h : Nat) (a : Nat → Nat) (F : Nat → Nat → Int32) (nq no np : Nat) (sh nw : Int32) (th : Int32) (wt : Nat → Int32) (sz : Nat) (hno : no ≤ 10) : Met l yX1_manyOn wsX1_manyOn ({ frames := 4, cells := 0, slots := 0, locals := 88 } : Room) (va_Pc [.ref h] (wPre G (ty2 cI cZ) (Mk cI cZ h a F nq no np sh nw th wt) sz)) (va_Qi (fun (r : Int32) (_ : Unit) => r = nI (p_mo F sh no nw)) (fun _ => wP G (ty2 cI cZ) (Mk cI cZ h a F nq no np sh nw th wt) (va_A (Mk cI cZ h a F nq no np sh nw th wt) sz)) (va_A (Mk cI cZ h a F nq no np sh nw th wt) sz)) 0 0 (va_A (Mk cI cZ h a F nq no np sh nw th wt) sz) := by
  refine w_met (cc := cX1_manyOn) (maxL := 3) (ret := (some .int)) (by decide) rfl (Nat.le_of_ble_eq_true rfl) ?_
  intro pg e s m below meth cd hx hb hml hr hts hown hlocks hnm hK hsz hP hD hA hS ls hl
  have hown : s.vm.findClass RX1 = some m.cls := hown
  have hin : ∀ w ∈ wsX10, w ∈ wsX1_manyOn := by decide +kernel
  have hl : lv_has ls 3 [(0, .ref h)] := hl
  generalize hAe : va_A (Mk cI cZ h a F nq no np sh nw th wt) sz = A at hD hA hS ⊢
  refine lv_iconst (v := 0) hx hb dX1_manyOn_0 (by decide) ?_
  refine lv_istore_n (lv' := [(1, .int 0), (0, .ref h)]) hx hb dX1_manyOn_1 rfl hl (by decide) rfl (fun ls hl => ?_)
  refine lv_iconst (v := 0) hx hb dX1_manyOn_2 (by decide) ?_
  refine lv_istore_n (lv' := [(2, .int 0), (1, .int 0), (0, .ref h)]) hx hb dX1_manyOn_3 rfl hl (by decide) rfl (fun ls hl => ?_)
  have key4 : ∀ (n i4 : Nat), i4 ≤ no → no < i4 + n → ∀ (x1 : Int32) (x2 : Int32), x1 = nI (p_ct (fun o => p_on F sh o nw) i4) → x2 = nI i4 → ∀ (H : Heap) (locs : List Loc), va_P G vwCl (Mk cI cZ h a F nq no np sh nw th wt) H → va_D A (Mk cI cZ h a F nq no np sh nw th wt) → va_S A s.heap H locs → ∀ ls : Array Slot, lv_has ls 3 [(0, .ref h), (1, .int x1), (2, .int x2)] → W pg l e ({ frames := 4, cells := 0, slots := 0, locals := 88 } : Room) s m ([.ref h] : List Value).toArray below meth cd H locs (0) (0) (MQ below (va_Qi (fun (r : Int32) (_ : Unit) => r = nI (p_mo F sh no nw)) (fun _ => wP G (ty2 cI cZ) (Mk cI cZ h a F nq no np sh nw th wt) A) A) ([.ref h] : List Value).toArray s 0 0 A) (F0 m 4 ls []) := by
    intro n
    induction n with
    | zero => intro i4 h1 h2; exact absurd h2 (by omega)
    | succ n ih4 =>
      intro i4 hi_i4 hn_i4 x1 x2 e1 e2 H locs hP hD hS ls hl
      subst e1 e2
      refine lv_iload_n hx hb dX1_manyOn_4 rfl (lv_at hl 2 rfl) ?_
      refine lv_aload_n hx hb dX1_manyOn_5 rfl (lv_at hl 0 rfl) ?_
      refine va_get (ci := 1) (v := .int (nI no)) (C := RX1) (T := TX1) (N := 18) hx hb hts hin hown hK hP 0 rfl rfl 4 (by decide) (hts (.fieldLink RX1 58 "CurfewDeskModel" "orders" "I") (by decide +kernel)) (fun _ h9 => h9) rfl dX1_manyOn_6 ?_
      refine lv_icmp_ge (tgt := 38) hx hb dX1_manyOn_9 (by decide) (fun c9 => ?_) (fun c9 => ?_)
      · have c9 := (nI_leI (a := no) (b := i4) (by omega) (by omega)).mp c9
        have ei : no = i4 := by omega
        subst ei
        refine lv_iload_n hx hb dX1_manyOn_38 rfl (lv_at hl 1 rfl) ?_
        exact w_iret () hx hb hr hlocks hK hP hD hS (Nat.le_of_ble_eq_true rfl) (Nat.le_of_ble_eq_true rfl) dX1_manyOn_39 (show (nI (p_ct (fun o => p_on F sh o nw) no)) = nI (p_mo F sh no nw) from by rfl)
      · have c9 := mt (nI_leI (a := no) (b := i4) (by omega) (by omega)).mpr c9
        have hlt_i4 : i4 < no := by omega
        refine lv_iload_n hx hb dX1_manyOn_12 rfl (lv_at hl 1 rfl) ?_
        refine lv_aload_n hx hb dX1_manyOn_13 rfl (lv_at hl 0 rfl) ?_
        refine lv_iload_n hx hb dX1_manyOn_14 rfl (lv_at hl 2 rfl) ?_
        refine lv_aload_n hx hb dX1_manyOn_15 rfl (lv_at hl 0 rfl) ?_
        refine va_get (ci := 1) (v := .int nw) (C := RX1) (T := TX1) (N := 18) hx hb hts hin hown hK hP 0 rfl rfl 1 (by decide) (hts (.fieldLink RX1 122 "CurfewDeskModel" "time" "I") (by decide +kernel)) (fun _ h9 => h9) rfl dX1_manyOn_16 ?_
        refine w_in_i (va_runV (As := [.int (nI i4), .int nw]) (rest := [.int (nI (p_ct (fun o => p_on F sh o nw) i4))]) ⟨hx, hb, hml, hown, hts⟩ (c_X1_onAt l G cI cZ h a F nq no np sh nw th wt H.size i4 nw (by omega)) (cwV 2 hts gX1_manyOn_X1_onAt rfl rfl rfl (by decide +kernel) ⟨(Nat.le_of_ble_eq_true rfl), (Nat.le_of_ble_eq_true rfl)⟩) ⟨wPre_blind, va_recv hK hP (ci := 1) (q0 := 0) rfl rfl, w_pre hK hP hD⟩ rfl rfl hl.1 rfl (lv_room (Nat.le_of_ble_eq_true rfl)) dX1_manyOn_19 ⟨(Nat.le_of_ble_eq_true rfl), (Nat.le_of_ble_eq_true rfl)⟩) hD hS hA (fun r19 u19 H locs hw19 hP hD hS => ?_)
        have hP : va_P G vwCl (Mk cI cZ h a F nq no np sh nw th wt) H := hP
        have hD : va_D A (Mk cI cZ h a F nq no np sh nw th wt) := hD
        have hw19 : r19 = b2i (p_on F sh i4 nw) := hw19
        subst hw19
        refine w_selE (v1 := 1) (v2 := 0) hx hb dX1_manyOn_22 (by decide) dX1_manyOn_25 (by decide) dX1_manyOn_26 (by decide) dX1_manyOn_29 (by decide) ?_
        rw [b2i_sel]
        refine lv_iadd hx hb dX1_manyOn_30 ?_
        refine lv_istore_n (lv' := [(1, .int ((nI (p_ct (fun o => p_on F sh o nw) i4)) + (b2i (p_on F sh i4 nw)))), (0, .ref h), (2, .int (nI i4))]) hx hb dX1_manyOn_31 rfl hl (by decide) rfl (fun ls hl => ?_)
        refine lv_iinc (v := nI i4 + 1) (lv' := [(2, .int (nI i4 + 1)), (1, .int ((nI (p_ct (fun o => p_on F sh o nw) i4)) + (b2i (p_on F sh i4 nw)))), (0, .ref h)]) hx hb dX1_manyOn_32 hl (k := 2) rfl rfl (by decide) rfl (fun ls hl => ?_)
        refine lv_goto (tgt := 4) hx hb dX1_manyOn_35 (by decide) ?_
        exact ih4 (i4 + 1) (by omega) (by omega) ((nI (p_ct (fun o => p_on F sh o nw) i4)) + (b2i (p_on F sh i4 nw))) (nI i4 + 1) (by exact nct_b) (by first | exact nI_1 _ | exact nct_t (by assumption) | exact nct_f (by assumption) | exact nct_b | rfl) _ _ hP hD hS _ (lv_sub hl [2, 1, 0] rfl)
  exact key4 (no + 1) 0 (by omega) (by omega) 0 0 (by first | rfl | simp [p_ct, p_sm, p_fl, p_fg, nI_0]) (by first | rfl | simp [p_ct, p_sm, p_fl, p_fg, nI_0]) _ _ hP hD hS _ (lv_sub hl [2, 1, 0] rfl)
set_option maxHeartbeats 4000000 in
set_option maxRecDepth 100000 in
theorem c_X1_all (l : Launch) (G : va_G) (cI cZ : ClassId) (h : Nat) (a : Nat → Nat) (F : Nat → Nat → Int32) (nq no np : Nat) (sh nw : Int32) (th : Int32) (wt : Nat → Int32) (sz : Nat) (hnp : np ≤ 20) : Met l yX1_all wsX1_all ({ frames := 0, cells := 0, slots := 0, locals := 0 } : Room) (va_Pc [.ref h] (wPre G (ty2 cI cZ) (Mk cI cZ h a F nq no np sh nw th wt) sz)) (va_Qi (fun (r : Int32) (_ : Unit) => r = p_sm (F 8) np) (fun _ => wP G (ty2 cI cZ) (Mk cI cZ h a F nq no np sh nw th wt) (va_A (Mk cI cZ h a F nq no np sh nw th wt) sz)) (va_A (Mk cI cZ h a F nq no np sh nw th wt) sz)) 0 0 (va_A (Mk cI cZ h a F nq no np sh nw th wt) sz) := by
  refine w_met (cc := cX1_all) (maxL := 3) (ret := (some .int)) (by decide) rfl (Nat.le_of_ble_eq_true rfl) ?_
  intro pg e s m below meth cd hx hb hml hr hts hown hlocks hnm hK hsz hP hD hA hS ls hl
  have hown : s.vm.findClass RX1 = some m.cls := hown
  have hin : ∀ w ∈ wsX10, w ∈ wsX1_all := by decide +kernel
  have hl : lv_has ls 3 [(0, .ref h)] := hl
  generalize hAe : va_A (Mk cI cZ h a F nq no np sh nw th wt) sz = A at hD hA hS ⊢
  refine lv_iconst (v := 0) hx hb dX1_all_0 (by decide) ?_
  refine lv_istore_n (lv' := [(1, .int 0), (0, .ref h)]) hx hb dX1_all_1 rfl hl (by decide) rfl (fun ls hl => ?_)
  refine lv_iconst (v := 0) hx hb dX1_all_2 (by decide) ?_
  refine lv_istore_n (lv' := [(2, .int 0), (1, .int 0), (0, .ref h)]) hx hb dX1_all_3 rfl hl (by decide) rfl (fun ls hl => ?_)
  have key4 : ∀ (n i4 : Nat), i4 ≤ np → np < i4 + n → ∀ (x1 : Int32) (x2 : Int32), x1 = p_sm (F 8) i4 → x2 = nI i4 → ∀ (H : Heap) (locs : List Loc), va_P G vwCl (Mk cI cZ h a F nq no np sh nw th wt) H → va_D A (Mk cI cZ h a F nq no np sh nw th wt) → va_S A s.heap H locs → ∀ ls : Array Slot, lv_has ls 3 [(0, .ref h), (1, .int x1), (2, .int x2)] → W pg l e ({ frames := 0, cells := 0, slots := 0, locals := 0 } : Room) s m ([.ref h] : List Value).toArray below meth cd H locs (0) (0) (MQ below (va_Qi (fun (r : Int32) (_ : Unit) => r = p_sm (F 8) np) (fun _ => wP G (ty2 cI cZ) (Mk cI cZ h a F nq no np sh nw th wt) A) A) ([.ref h] : List Value).toArray s 0 0 A) (F0 m 4 ls []) := by
    intro n
    induction n with
    | zero => intro i4 h1 h2; exact absurd h2 (by omega)
    | succ n ih4 =>
      intro i4 hi_i4 hn_i4 x1 x2 e1 e2 H locs hP hD hS ls hl
      subst e1 e2
      refine lv_iload_n hx hb dX1_all_4 rfl (lv_at hl 2 rfl) ?_
      refine lv_aload_n hx hb dX1_all_5 rfl (lv_at hl 0 rfl) ?_
      refine va_get (ci := 1) (v := .int (nI np)) (C := RX1) (T := TX1) (N := 18) hx hb hts hin hown hK hP 0 rfl rfl 5 (by decide) (hts (.fieldLink RX1 61 "CurfewDeskModel" "people" "I") (by decide +kernel)) (fun _ h9 => h9) rfl dX1_all_6 ?_
      refine lv_icmp_ge (tgt := 27) hx hb dX1_all_9 (by decide) (fun c9 => ?_) (fun c9 => ?_)
      · have c9 := (nI_leI (a := np) (b := i4) (by omega) (by omega)).mp c9
        have ei : np = i4 := by omega
        subst ei
        refine lv_iload_n hx hb dX1_all_27 rfl (lv_at hl 1 rfl) ?_
        exact w_iret () hx hb hr hlocks hK hP hD hS (Nat.le_of_ble_eq_true rfl) (Nat.le_of_ble_eq_true rfl) dX1_all_28 (show (p_sm (F 8) np) = p_sm (F 8) np from by rfl)
      · have c9 := mt (nI_leI (a := np) (b := i4) (by omega) (by omega)).mpr c9
        have hlt_i4 : i4 < np := by omega
        refine lv_iload_n hx hb dX1_all_12 rfl (lv_at hl 1 rfl) ?_
        refine lv_aload_n hx hb dX1_all_13 rfl (lv_at hl 0 rfl) ?_
        refine va_get (ci := 1) (v := .ref (a 8)) (C := RX1) (T := TX1) (N := 18) hx hb hts hin hown hK hP 0 rfl rfl 14 (by decide) (hts (.fieldLink RX1 35 "CurfewDeskModel" "debt" "[I") (by decide +kernel)) (fun _ h9 => h9) rfl dX1_all_14 ?_
        refine lv_iload_n hx hb dX1_all_17 rfl (lv_at hl 2 rfl) ?_
        refine w_iald hx hb hK hP 9 0 rfl rfl (f := (F 8)) (j := i4) (by omega) (by omega) dX1_all_18 ?_
        refine lv_iadd hx hb dX1_all_19 ?_
        refine lv_istore_n (lv' := [(1, .int ((p_sm (F 8) i4) + ((F 8) i4))), (0, .ref h), (2, .int (nI i4))]) hx hb dX1_all_20 rfl hl (by decide) rfl (fun ls hl => ?_)
        refine lv_iinc (v := nI i4 + 1) (lv' := [(2, .int (nI i4 + 1)), (1, .int ((p_sm (F 8) i4) + ((F 8) i4))), (0, .ref h)]) hx hb dX1_all_21 hl (k := 2) rfl rfl (by decide) rfl (fun ls hl => ?_)
        refine lv_goto (tgt := 4) hx hb dX1_all_24 (by decide) ?_
        exact ih4 (i4 + 1) (by omega) (by omega) ((p_sm (F 8) i4) + ((F 8) i4)) (nI i4 + 1) (by rfl) (by first | exact nI_1 _ | exact nct_t (by assumption) | exact nct_f (by assumption) | exact nct_b | rfl) _ _ hP hD hS _ (lv_sub hl [2, 1, 0] rfl)
  exact key4 (np + 1) 0 (by omega) (by omega) 0 0 (by first | rfl | simp [p_ct, p_sm, p_fl, p_fg, nI_0]) (by first | rfl | simp [p_ct, p_sm, p_fl, p_fg, nI_0]) _ _ hP hD hS _ (lv_sub hl [2, 1, 0] rfl)
set_option maxHeartbeats 4000000 in
set_option maxRecDepth 100000 in
theorem c_X1_isPass (l : Launch) (G : va_G) (cI cZ : ClassId) (h : Nat) (a : Nat → Nat) (F : Nat → Nat → Int32) (nq no np : Nat) (sh nw : Int32) (th : Int32) (wt : Nat → Int32) (sz : Nat) (x : Int32) (y : Int32) (hnp : np ≤ 20) : Met l yX1_isPass wsX1_isPass ({ frames := 2, cells := 0, slots := 0, locals := 43 } : Room) (va_Pc [.ref h, .int x, .int y] (wPre G (ty2 cI cZ) (Mk cI cZ h a F nq no np sh nw th wt) sz)) (va_Qi (fun (r : Int32) (_ : Unit) => r = b2i (p_in x np && p_in y 4)) (fun _ => wP G (ty2 cI cZ) (Mk cI cZ h a F nq no np sh nw (k1 (p_in x np && p_in y 4)) wt) (va_A (Mk cI cZ h a F nq no np sh nw th wt) sz)) (va_A (Mk cI cZ h a F nq no np sh nw th wt) sz)) 0 0 (va_A (Mk cI cZ h a F nq no np sh nw th wt) sz) := by
  refine w_met (cc := cX1_isPass) (maxL := 3) (ret := (some .boolean)) (by decide) rfl (Nat.le_of_ble_eq_true rfl) ?_
  intro pg e s m below meth cd hx hb hml hr hts hown hlocks hnm hK hsz hP hD hA hS ls hl
  have hown : s.vm.findClass RX1 = some m.cls := hown
  have hin : ∀ w ∈ wsX10, w ∈ wsX1_isPass := by decide +kernel
  have hl : lv_has ls 3 [(0, .ref h), (1, .int x), (2, .int y)] := hl
  generalize hAe : va_A (Mk cI cZ h a F nq no np sh nw th wt) sz = A at hD hA hS ⊢
  refine lv_aload_n hx hb dX1_isPass_0 rfl (lv_at hl 0 rfl) ?_
  refine lv_aload_n hx hb dX1_isPass_1 rfl (lv_at hl 0 rfl) ?_
  refine lv_iload_n hx hb dX1_isPass_2 rfl (lv_at hl 1 rfl) ?_
  refine w_in_i (va_runV (As := [.int x]) (rest := [.ref h]) ⟨hx, hb, hml, hown, hts⟩ (c_X1_isPerson l G cI cZ h a F nq no np sh nw th wt s.heap.size x (by omega)) (cwV 1 hts gX1_isPass_X1_isPerson rfl rfl rfl (by decide +kernel) ⟨(Nat.le_of_ble_eq_true rfl), (Nat.le_of_ble_eq_true rfl)⟩) ⟨wPre_blind, va_recv hK hP (ci := 1) (q0 := 0) rfl rfl, w_pre hK hP hD⟩ rfl rfl hl.1 rfl (lv_room (Nat.le_of_ble_eq_true rfl)) dX1_isPass_3 ⟨(Nat.le_of_ble_eq_true rfl), (Nat.le_of_ble_eq_true rfl)⟩) hD hS hA (fun r3 u3 H locs hw3 hP hD hS => ?_)
  have hP : va_P G vwCl (Mk cI cZ h a F nq no np sh nw th wt) H := hP
  have hD : va_D A (Mk cI cZ h a F nq no np sh nw th wt) := hD
  have hw3 : r3 = b2i (p_in x np) := hw3
  subst hw3
  refine lv_if_eq (tgt := 20) hx hb dX1_isPass_6 (by decide) (fun c6 => ?_) (fun c6 => ?_)
  · have c6 := b2i_0.mp c6
    refine lv_iconst (v := 1) hx hb dX1_isPass_20 (by decide) ?_
    refine va_put (ci := 1) (v := .int 1) (ty := .int) (C := RX1) (T := TX1) (N := 18) hx hb hts hin tyX1 tyX1_ok nmX1 hown hK hP hD hS 0 rfl rfl 0 (by decide) (hts (.fieldLink RX1 47 "CurfewDeskModel" "thrown" "I") (by decide +kernel)) (fun _ h9 => h9) rfl (by decide +kernel) rfl rfl (Nat.le_of_ble_eq_true rfl) dX1_isPass_21 (fun H locs hP hD hS => ?_)
    have hP : va_P G vwCl (Mk cI cZ h a F nq no np sh nw 1 wt) H := hP
    have hD : va_D A (Mk cI cZ h a F nq no np sh nw 1 wt) := hD
    refine lv_aload_n hx hb dX1_isPass_24 rfl (lv_at hl 0 rfl) ?_
    refine va_get (ci := 1) (v := .int 1) (C := RX1) (T := TX1) (N := 18) hx hb hts hin hown hK hP 0 rfl rfl 0 (by decide) (hts (.fieldLink RX1 47 "CurfewDeskModel" "thrown" "I") (by decide +kernel)) (fun _ h9 => h9) rfl dX1_isPass_25 ?_
    refine w_selN (v1 := 1) (v2 := 0) hx hb dX1_isPass_28 (by decide) dX1_isPass_31 (by decide) dX1_isPass_32 (by decide) dX1_isPass_35 (by decide) ?_
    rw [b2i_nz]
    have hk : k1 (p_in x np && p_in y 4) = 1 := by rw [c6]; rfl
    have hP : va_P G vwCl (Mk cI cZ h a F nq no np sh nw (k1 (p_in x np && p_in y 4)) wt) H := by (simp only [hk]); exact hP
    have hD : va_D A (Mk cI cZ h a F nq no np sh nw (k1 (p_in x np && p_in y 4)) wt) := by (simp only [hk]); exact hD
    exact w_zret () hx hb hr hlocks hK hP hD hS (Nat.le_of_ble_eq_true rfl) (Nat.le_of_ble_eq_true rfl) dX1_isPass_36 (b2i_n _) (show (b2i (decide (1 = 0))) = b2i (p_in x np && p_in y 4) from by rw [c6]; simp [b2i])
  · have c6 := b2i_1.mp c6
    refine lv_iload_n hx hb dX1_isPass_9 rfl (lv_at hl 2 rfl) ?_
    refine w_st_i (va_runS (As := [.int y]) (rest := [.ref h]) ⟨hx, hb, hml, hown, hts⟩ (c_X1_isColour l G H.size y ) (va_cwS 1 hts gX1_isPass_X1_isColour rfl rfl rfl (by decide +kernel) ⟨(Nat.le_of_ble_eq_true rfl), (Nat.le_of_ble_eq_true rfl)⟩) ⟨wPre_blind, w_pre (hK.sub [] rfl) w_P0 (w_D0 (A := A))⟩ rfl rfl hl.1 rfl (lv_room (Nat.le_of_ble_eq_true rfl)) dX1_isPass_10 ⟨(Nat.le_of_ble_eq_true rfl), (Nat.le_of_ble_eq_true rfl)⟩) hP hS hA (fun r10 u10 H locs hw10 hP hS => ?_)
    have hw10 : r10 = b2i (p_in y 4) := hw10
    subst hw10
    refine lv_if_eq (tgt := 20) hx hb dX1_isPass_13 (by decide) (fun c13 => ?_) (fun c13 => ?_)
    · have c13 := b2i_0.mp c13
      refine lv_iconst (v := 1) hx hb dX1_isPass_20 (by decide) ?_
      refine va_put (ci := 1) (v := .int 1) (ty := .int) (C := RX1) (T := TX1) (N := 18) hx hb hts hin tyX1 tyX1_ok nmX1 hown hK hP hD hS 0 rfl rfl 0 (by decide) (hts (.fieldLink RX1 47 "CurfewDeskModel" "thrown" "I") (by decide +kernel)) (fun _ h9 => h9) rfl (by decide +kernel) rfl rfl (Nat.le_of_ble_eq_true rfl) dX1_isPass_21 (fun H locs hP hD hS => ?_)
      have hP : va_P G vwCl (Mk cI cZ h a F nq no np sh nw 1 wt) H := hP
      have hD : va_D A (Mk cI cZ h a F nq no np sh nw 1 wt) := hD
      refine lv_aload_n hx hb dX1_isPass_24 rfl (lv_at hl 0 rfl) ?_
      refine va_get (ci := 1) (v := .int 1) (C := RX1) (T := TX1) (N := 18) hx hb hts hin hown hK hP 0 rfl rfl 0 (by decide) (hts (.fieldLink RX1 47 "CurfewDeskModel" "thrown" "I") (by decide +kernel)) (fun _ h9 => h9) rfl dX1_isPass_25 ?_
      refine w_selN (v1 := 1) (v2 := 0) hx hb dX1_isPass_28 (by decide) dX1_isPass_31 (by decide) dX1_isPass_32 (by decide) dX1_isPass_35 (by decide) ?_
      rw [b2i_nz]
      have hk : k1 (p_in x np && p_in y 4) = 1 := by rw [c6, c13]; rfl
      have hP : va_P G vwCl (Mk cI cZ h a F nq no np sh nw (k1 (p_in x np && p_in y 4)) wt) H := by (simp only [hk]); exact hP
      have hD : va_D A (Mk cI cZ h a F nq no np sh nw (k1 (p_in x np && p_in y 4)) wt) := by (simp only [hk]); exact hD
      exact w_zret () hx hb hr hlocks hK hP hD hS (Nat.le_of_ble_eq_true rfl) (Nat.le_of_ble_eq_true rfl) dX1_isPass_36 (b2i_n _) (show (b2i (decide (1 = 0))) = b2i (p_in x np && p_in y 4) from by rw [c6, c13]; simp [b2i])
    · have c13 := b2i_1.mp c13
      refine lv_iconst (v := 0) hx hb dX1_isPass_16 (by decide) ?_
      refine lv_goto (tgt := 21) hx hb dX1_isPass_17 (by decide) ?_
      refine va_put (ci := 1) (v := .int 0) (ty := .int) (C := RX1) (T := TX1) (N := 18) hx hb hts hin tyX1 tyX1_ok nmX1 hown hK hP hD hS 0 rfl rfl 0 (by decide) (hts (.fieldLink RX1 47 "CurfewDeskModel" "thrown" "I") (by decide +kernel)) (fun _ h9 => h9) rfl (by decide +kernel) rfl rfl (Nat.le_of_ble_eq_true rfl) dX1_isPass_21 (fun H locs hP hD hS => ?_)
      have hP : va_P G vwCl (Mk cI cZ h a F nq no np sh nw 0 wt) H := hP
      have hD : va_D A (Mk cI cZ h a F nq no np sh nw 0 wt) := hD
      refine lv_aload_n hx hb dX1_isPass_24 rfl (lv_at hl 0 rfl) ?_
      refine va_get (ci := 1) (v := .int 0) (C := RX1) (T := TX1) (N := 18) hx hb hts hin hown hK hP 0 rfl rfl 0 (by decide) (hts (.fieldLink RX1 47 "CurfewDeskModel" "thrown" "I") (by decide +kernel)) (fun _ h9 => h9) rfl dX1_isPass_25 ?_
      refine w_selN (v1 := 1) (v2 := 0) hx hb dX1_isPass_28 (by decide) dX1_isPass_31 (by decide) dX1_isPass_32 (by decide) dX1_isPass_35 (by decide) ?_
      rw [b2i_nz]
      have hk : k1 (p_in x np && p_in y 4) = 0 := by rw [c6, c13]; rfl
      have hP : va_P G vwCl (Mk cI cZ h a F nq no np sh nw (k1 (p_in x np && p_in y 4)) wt) H := by (simp only [hk]); exact hP
      have hD : va_D A (Mk cI cZ h a F nq no np sh nw (k1 (p_in x np && p_in y 4)) wt) := by (simp only [hk]); exact hD
      exact w_zret () hx hb hr hlocks hK hP hD hS (Nat.le_of_ble_eq_true rfl) (Nat.le_of_ble_eq_true rfl) dX1_isPass_36 (b2i_n _) (show (b2i (decide (0 = 0))) = b2i (p_in x np && p_in y 4) from by rw [c6, c13]; simp [b2i])
set_option maxHeartbeats 4000000 in
set_option maxRecDepth 100000 in
theorem c_X1_isPair (l : Launch) (G : va_G) (cI cZ : ClassId) (h : Nat) (a : Nat → Nat) (F : Nat → Nat → Int32) (nq no np : Nat) (sh nw : Int32) (th : Int32) (wt : Nat → Int32) (sz : Nat) (x : Int32) (y : Int32) (hnp : np ≤ 20) (hnq : nq ≤ 6) : Met l yX1_isPair wsX1_isPair ({ frames := 2, cells := 0, slots := 0, locals := 43 } : Room) (va_Pc [.ref h, .int x, .int y] (wPre G (ty2 cI cZ) (Mk cI cZ h a F nq no np sh nw th wt) sz)) (va_Qi (fun (r : Int32) (_ : Unit) => r = b2i (p_in x np && p_in y nq)) (fun _ => wP G (ty2 cI cZ) (Mk cI cZ h a F nq no np sh nw (k1 (p_in x np && p_in y nq)) wt) (va_A (Mk cI cZ h a F nq no np sh nw th wt) sz)) (va_A (Mk cI cZ h a F nq no np sh nw th wt) sz)) 0 0 (va_A (Mk cI cZ h a F nq no np sh nw th wt) sz) := by
  refine w_met (cc := cX1_isPair) (maxL := 3) (ret := (some .boolean)) (by decide) rfl (Nat.le_of_ble_eq_true rfl) ?_
  intro pg e s m below meth cd hx hb hml hr hts hown hlocks hnm hK hsz hP hD hA hS ls hl
  have hown : s.vm.findClass RX1 = some m.cls := hown
  have hin : ∀ w ∈ wsX10, w ∈ wsX1_isPair := by decide +kernel
  have hl : lv_has ls 3 [(0, .ref h), (1, .int x), (2, .int y)] := hl
  generalize hAe : va_A (Mk cI cZ h a F nq no np sh nw th wt) sz = A at hD hA hS ⊢
  refine lv_aload_n hx hb dX1_isPair_0 rfl (lv_at hl 0 rfl) ?_
  refine lv_aload_n hx hb dX1_isPair_1 rfl (lv_at hl 0 rfl) ?_
  refine lv_iload_n hx hb dX1_isPair_2 rfl (lv_at hl 1 rfl) ?_
  refine w_in_i (va_runV (As := [.int x]) (rest := [.ref h]) ⟨hx, hb, hml, hown, hts⟩ (c_X1_isPerson l G cI cZ h a F nq no np sh nw th wt s.heap.size x (by omega)) (cwV 1 hts gX1_isPair_X1_isPerson rfl rfl rfl (by decide +kernel) ⟨(Nat.le_of_ble_eq_true rfl), (Nat.le_of_ble_eq_true rfl)⟩) ⟨wPre_blind, va_recv hK hP (ci := 1) (q0 := 0) rfl rfl, w_pre hK hP hD⟩ rfl rfl hl.1 rfl (lv_room (Nat.le_of_ble_eq_true rfl)) dX1_isPair_3 ⟨(Nat.le_of_ble_eq_true rfl), (Nat.le_of_ble_eq_true rfl)⟩) hD hS hA (fun r3 u3 H locs hw3 hP hD hS => ?_)
  have hP : va_P G vwCl (Mk cI cZ h a F nq no np sh nw th wt) H := hP
  have hD : va_D A (Mk cI cZ h a F nq no np sh nw th wt) := hD
  have hw3 : r3 = b2i (p_in x np) := hw3
  subst hw3
  refine lv_if_eq (tgt := 21) hx hb dX1_isPair_6 (by decide) (fun c6 => ?_) (fun c6 => ?_)
  · have c6 := b2i_0.mp c6
    refine lv_iconst (v := 1) hx hb dX1_isPair_21 (by decide) ?_
    refine va_put (ci := 1) (v := .int 1) (ty := .int) (C := RX1) (T := TX1) (N := 18) hx hb hts hin tyX1 tyX1_ok nmX1 hown hK hP hD hS 0 rfl rfl 0 (by decide) (hts (.fieldLink RX1 47 "CurfewDeskModel" "thrown" "I") (by decide +kernel)) (fun _ h9 => h9) rfl (by decide +kernel) rfl rfl (Nat.le_of_ble_eq_true rfl) dX1_isPair_22 (fun H locs hP hD hS => ?_)
    have hP : va_P G vwCl (Mk cI cZ h a F nq no np sh nw 1 wt) H := hP
    have hD : va_D A (Mk cI cZ h a F nq no np sh nw 1 wt) := hD
    refine lv_aload_n hx hb dX1_isPair_25 rfl (lv_at hl 0 rfl) ?_
    refine va_get (ci := 1) (v := .int 1) (C := RX1) (T := TX1) (N := 18) hx hb hts hin hown hK hP 0 rfl rfl 0 (by decide) (hts (.fieldLink RX1 47 "CurfewDeskModel" "thrown" "I") (by decide +kernel)) (fun _ h9 => h9) rfl dX1_isPair_26 ?_
    refine w_selN (v1 := 1) (v2 := 0) hx hb dX1_isPair_29 (by decide) dX1_isPair_32 (by decide) dX1_isPair_33 (by decide) dX1_isPair_36 (by decide) ?_
    rw [b2i_nz]
    have hk : k1 (p_in x np && p_in y nq) = 1 := by rw [c6]; rfl
    have hP : va_P G vwCl (Mk cI cZ h a F nq no np sh nw (k1 (p_in x np && p_in y nq)) wt) H := by (simp only [hk]); exact hP
    have hD : va_D A (Mk cI cZ h a F nq no np sh nw (k1 (p_in x np && p_in y nq)) wt) := by (simp only [hk]); exact hD
    exact w_zret () hx hb hr hlocks hK hP hD hS (Nat.le_of_ble_eq_true rfl) (Nat.le_of_ble_eq_true rfl) dX1_isPair_37 (b2i_n _) (show (b2i (decide (1 = 0))) = b2i (p_in x np && p_in y nq) from by rw [c6]; simp [b2i])
  · have c6 := b2i_1.mp c6
    refine lv_aload_n hx hb dX1_isPair_9 rfl (lv_at hl 0 rfl) ?_
    refine lv_iload_n hx hb dX1_isPair_10 rfl (lv_at hl 2 rfl) ?_
    refine w_in_i (va_runV (As := [.int y]) (rest := [.ref h]) ⟨hx, hb, hml, hown, hts⟩ (c_X1_isQuarter l G cI cZ h a F nq no np sh nw th wt H.size y (by omega)) (cwV 1 hts gX1_isPair_X1_isQuarter rfl rfl rfl (by decide +kernel) ⟨(Nat.le_of_ble_eq_true rfl), (Nat.le_of_ble_eq_true rfl)⟩) ⟨wPre_blind, va_recv hK hP (ci := 1) (q0 := 0) rfl rfl, w_pre hK hP hD⟩ rfl rfl hl.1 rfl (lv_room (Nat.le_of_ble_eq_true rfl)) dX1_isPair_11 ⟨(Nat.le_of_ble_eq_true rfl), (Nat.le_of_ble_eq_true rfl)⟩) hD hS hA (fun r11 u11 H locs hw11 hP hD hS => ?_)
    have hP : va_P G vwCl (Mk cI cZ h a F nq no np sh nw th wt) H := hP
    have hD : va_D A (Mk cI cZ h a F nq no np sh nw th wt) := hD
    have hw11 : r11 = b2i (p_in y nq) := hw11
    subst hw11
    refine lv_if_eq (tgt := 21) hx hb dX1_isPair_14 (by decide) (fun c14 => ?_) (fun c14 => ?_)
    · have c14 := b2i_0.mp c14
      refine lv_iconst (v := 1) hx hb dX1_isPair_21 (by decide) ?_
      refine va_put (ci := 1) (v := .int 1) (ty := .int) (C := RX1) (T := TX1) (N := 18) hx hb hts hin tyX1 tyX1_ok nmX1 hown hK hP hD hS 0 rfl rfl 0 (by decide) (hts (.fieldLink RX1 47 "CurfewDeskModel" "thrown" "I") (by decide +kernel)) (fun _ h9 => h9) rfl (by decide +kernel) rfl rfl (Nat.le_of_ble_eq_true rfl) dX1_isPair_22 (fun H locs hP hD hS => ?_)
      have hP : va_P G vwCl (Mk cI cZ h a F nq no np sh nw 1 wt) H := hP
      have hD : va_D A (Mk cI cZ h a F nq no np sh nw 1 wt) := hD
      refine lv_aload_n hx hb dX1_isPair_25 rfl (lv_at hl 0 rfl) ?_
      refine va_get (ci := 1) (v := .int 1) (C := RX1) (T := TX1) (N := 18) hx hb hts hin hown hK hP 0 rfl rfl 0 (by decide) (hts (.fieldLink RX1 47 "CurfewDeskModel" "thrown" "I") (by decide +kernel)) (fun _ h9 => h9) rfl dX1_isPair_26 ?_
      refine w_selN (v1 := 1) (v2 := 0) hx hb dX1_isPair_29 (by decide) dX1_isPair_32 (by decide) dX1_isPair_33 (by decide) dX1_isPair_36 (by decide) ?_
      rw [b2i_nz]
      have hk : k1 (p_in x np && p_in y nq) = 1 := by rw [c6, c14]; rfl
      have hP : va_P G vwCl (Mk cI cZ h a F nq no np sh nw (k1 (p_in x np && p_in y nq)) wt) H := by (simp only [hk]); exact hP
      have hD : va_D A (Mk cI cZ h a F nq no np sh nw (k1 (p_in x np && p_in y nq)) wt) := by (simp only [hk]); exact hD
      exact w_zret () hx hb hr hlocks hK hP hD hS (Nat.le_of_ble_eq_true rfl) (Nat.le_of_ble_eq_true rfl) dX1_isPair_37 (b2i_n _) (show (b2i (decide (1 = 0))) = b2i (p_in x np && p_in y nq) from by rw [c6, c14]; simp [b2i])
    · have c14 := b2i_1.mp c14
      refine lv_iconst (v := 0) hx hb dX1_isPair_17 (by decide) ?_
      refine lv_goto (tgt := 22) hx hb dX1_isPair_18 (by decide) ?_
      refine va_put (ci := 1) (v := .int 0) (ty := .int) (C := RX1) (T := TX1) (N := 18) hx hb hts hin tyX1 tyX1_ok nmX1 hown hK hP hD hS 0 rfl rfl 0 (by decide) (hts (.fieldLink RX1 47 "CurfewDeskModel" "thrown" "I") (by decide +kernel)) (fun _ h9 => h9) rfl (by decide +kernel) rfl rfl (Nat.le_of_ble_eq_true rfl) dX1_isPair_22 (fun H locs hP hD hS => ?_)
      have hP : va_P G vwCl (Mk cI cZ h a F nq no np sh nw 0 wt) H := hP
      have hD : va_D A (Mk cI cZ h a F nq no np sh nw 0 wt) := hD
      refine lv_aload_n hx hb dX1_isPair_25 rfl (lv_at hl 0 rfl) ?_
      refine va_get (ci := 1) (v := .int 0) (C := RX1) (T := TX1) (N := 18) hx hb hts hin hown hK hP 0 rfl rfl 0 (by decide) (hts (.fieldLink RX1 47 "CurfewDeskModel" "thrown" "I") (by decide +kernel)) (fun _ h9 => h9) rfl dX1_isPair_26 ?_
      refine w_selN (v1 := 1) (v2 := 0) hx hb dX1_isPair_29 (by decide) dX1_isPair_32 (by decide) dX1_isPair_33 (by decide) dX1_isPair_36 (by decide) ?_
      rw [b2i_nz]
      have hk : k1 (p_in x np && p_in y nq) = 0 := by rw [c6, c14]; rfl
      have hP : va_P G vwCl (Mk cI cZ h a F nq no np sh nw (k1 (p_in x np && p_in y nq)) wt) H := by (simp only [hk]); exact hP
      have hD : va_D A (Mk cI cZ h a F nq no np sh nw (k1 (p_in x np && p_in y nq)) wt) := by (simp only [hk]); exact hD
      exact w_zret () hx hb hr hlocks hK hP hD hS (Nat.le_of_ble_eq_true rfl) (Nat.le_of_ble_eq_true rfl) dX1_isPair_37 (b2i_n _) (show (b2i (decide (0 = 0))) = b2i (p_in x np && p_in y nq) from by rw [c6, c14]; simp [b2i])
set_option maxHeartbeats 4000000 in
set_option maxRecDepth 100000 in
theorem c_X1_missing (l : Launch) (G : va_G) (cI cZ : ClassId) (h : Nat) (a : Nat → Nat) (F : Nat → Nat → Int32) (nq no np : Nat) (sh nw : Int32) (th : Int32) (wt : Nat → Int32) (sz : Nat) (p : Nat) (q : Int32) (hp : p < 20) (hno : no ≤ 10) (H3 : ∀ o, o < no → ∃ c, c < 4 ∧ F 3 o = nI c) : Met l yX1_missing wsX1_missing ({ frames := 5, cells := 0, slots := 0, locals := 112 } : Room) (va_Pc [.ref h, .int (nI p), .int q] (wPre G (ty2 cI cZ) (Mk cI cZ h a F nq no np sh nw th wt) sz)) (va_Qi (fun (r : Int32) (_ : Nat → Int32) => r = p_miss F sh no p q nw (-1)) (fun u => wP G (ty2 cI cZ) (Mk cI cZ h a F nq no np sh nw th u) (va_A (Mk cI cZ h a F nq no np sh nw th wt) sz)) (va_A (Mk cI cZ h a F nq no np sh nw th wt) sz)) 0 0 (va_A (Mk cI cZ h a F nq no np sh nw th wt) sz) := by
  refine w_met (cc := cX1_missing) (maxL := 5) (ret := (some .int)) (by decide) rfl (Nat.le_of_ble_eq_true rfl) ?_
  intro pg e s m below meth cd hx hb hml hr hts hown hlocks hnm hK hsz hP hD hA hS ls hl
  have hown : s.vm.findClass RX1 = some m.cls := hown
  have hin : ∀ w ∈ wsX10, w ∈ wsX1_missing := by decide +kernel
  have hl : lv_has ls 5 [(0, .ref h), (1, .int (nI p)), (2, .int q)] := hl
  generalize hAe : va_A (Mk cI cZ h a F nq no np sh nw th wt) sz = A at hD hA hS ⊢
  refine lv_iconst (v := 0) hx hb dX1_missing_0 (by decide) ?_
  refine lv_istore_n (lv' := [(3, .int 0), (0, .ref h), (1, .int (nI p)), (2, .int q)]) hx hb dX1_missing_1 rfl hl (by decide) rfl (fun ls hl => ?_)
  have key2 : ∀ (n i2 : Nat), i2 ≤ 4 → 4 < i2 + n → ∀ (x3 : Int32), x3 = nI i2 → ∀ (H : Heap) (locs : List Loc), va_P G vwCl (Mk cI cZ h a F nq no np sh nw th (p_w0 F wt p i2)) H → va_D A (Mk cI cZ h a F nq no np sh nw th (p_w0 F wt p i2)) → va_S A s.heap H locs → ∀ ls : Array Slot, lv_has ls 5 [(0, .ref h), (1, .int (nI p)), (2, .int q), (3, .int x3)] → W pg l e ({ frames := 5, cells := 0, slots := 0, locals := 112 } : Room) s m ([.ref h, .int (nI p), .int q] : List Value).toArray below meth cd H locs (0) (0) (MQ below (va_Qi (fun (r : Int32) (_ : Nat → Int32) => r = p_miss F sh no p q nw (-1)) (fun u => wP G (ty2 cI cZ) (Mk cI cZ h a F nq no np sh nw th u) A) A) ([.ref h, .int (nI p), .int q] : List Value).toArray s 0 0 A) (F0 m 2 ls []) := by
    intro n
    induction n with
    | zero => intro i2 h1 h2; exact absurd h2 (by omega)
    | succ n ih2 =>
      intro i2 hi_i2 hn_i2 x3 e3 H locs hP hD hS ls hl
      subst e3
      refine lv_iload_n hx hb dX1_missing_2 rfl (lv_at hl 3 rfl) ?_
      refine lv_iconst (v := 4) hx hb dX1_missing_3 (by decide) ?_
      refine lv_icmp_ge (tgt := 30) hx hb dX1_missing_4 (by decide) (fun c4 => ?_) (fun c4 => ?_)
      · have c4 := (nI_leI (a := 4) (b := i2) (by omega) (by omega)).mp c4
        have ei : 4 = i2 := by omega
        subst ei
        refine lv_iconst (v := 0) hx hb dX1_missing_30 (by decide) ?_
        refine lv_istore_n (lv' := [(3, .int 0), (0, .ref h), (1, .int (nI p)), (2, .int q)]) hx hb dX1_missing_31 rfl hl (by decide) rfl (fun ls hl => ?_)
        have key32 : ∀ (n i32 : Nat), i32 ≤ no → no < i32 + n → ∀ (x3 : Int32), x3 = nI i32 → ∀ (H : Heap) (locs : List Loc), va_P G vwCl (Mk cI cZ h a F nq no np sh nw th (p_w1 F sh (p_w0 F wt p 4) p q nw i32)) H → va_D A (Mk cI cZ h a F nq no np sh nw th (p_w1 F sh (p_w0 F wt p 4) p q nw i32)) → va_S A s.heap H locs → ∀ ls : Array Slot, lv_has ls 5 [(0, .ref h), (1, .int (nI p)), (2, .int q), (3, .int x3)] → W pg l e ({ frames := 5, cells := 0, slots := 0, locals := 112 } : Room) s m ([.ref h, .int (nI p), .int q] : List Value).toArray below meth cd H locs (0) (0) (MQ below (va_Qi (fun (r : Int32) (_ : Nat → Int32) => r = p_miss F sh no p q nw (-1)) (fun u => wP G (ty2 cI cZ) (Mk cI cZ h a F nq no np sh nw th u) A) A) ([.ref h, .int (nI p), .int q] : List Value).toArray s 0 0 A) (F0 m 32 ls []) := by
          intro n
          induction n with
          | zero => intro i32 h1 h2; exact absurd h2 (by omega)
          | succ n ih32 =>
            intro i32 hi_i32 hn_i32 x3 e3 H locs hP hD hS ls hl
            subst e3
            refine lv_iload_n hx hb dX1_missing_32 rfl (lv_at hl 3 rfl) ?_
            refine lv_aload_n hx hb dX1_missing_33 rfl (lv_at hl 0 rfl) ?_
            refine va_get (ci := 1) (v := .int (nI no)) (C := RX1) (T := TX1) (N := 18) hx hb hts hin hown hK hP 0 rfl rfl 4 (by decide) (hts (.fieldLink RX1 58 "CurfewDeskModel" "orders" "I") (by decide +kernel)) (fun _ h9 => h9) rfl dX1_missing_34 ?_
            refine lv_icmp_ge (tgt := 75) hx hb dX1_missing_37 (by decide) (fun c37 => ?_) (fun c37 => ?_)
            · have c37 := (nI_leI (a := no) (b := i32) (by omega) (by omega)).mp c37
              have ei : no = i32 := by omega
              subst ei
              refine lv_iconst (v := 0) hx hb dX1_missing_75 (by decide) ?_
              refine lv_istore_n (lv' := [(3, .int 0), (0, .ref h), (1, .int (nI p)), (2, .int q)]) hx hb dX1_missing_76 rfl hl (by decide) rfl (fun ls hl => ?_)
              refine lv_iconst (v := 0) hx hb dX1_missing_77 (by decide) ?_
              refine lv_istore (lv' := [(4, .int 0), (3, .int 0), (0, .ref h), (1, .int (nI p)), (2, .int q)]) hx hb dX1_missing_78 hl (by decide) rfl (fun ls hl => ?_)
              have key80 : ∀ (n i80 : Nat), i80 ≤ 4 → 4 < i80 + n → ∀ (x3 : Int32) (x4 : Int32), x3 = p_sm (fun c => p_max0 (p_w1 F sh (p_w0 F wt p 4) p q nw no c)) i80 → x4 = nI i80 → ∀ (H : Heap) (locs : List Loc), va_P G vwCl (Mk cI cZ h a F nq no np sh nw th (p_w1 F sh (p_w0 F wt p 4) p q nw no)) H → va_D A (Mk cI cZ h a F nq no np sh nw th (p_w1 F sh (p_w0 F wt p 4) p q nw no)) → va_S A s.heap H locs → ∀ ls : Array Slot, lv_has ls 5 [(0, .ref h), (1, .int (nI p)), (2, .int q), (3, .int x3), (4, .int x4)] → W pg l e ({ frames := 5, cells := 0, slots := 0, locals := 112 } : Room) s m ([.ref h, .int (nI p), .int q] : List Value).toArray below meth cd H locs (0) (0) (MQ below (va_Qi (fun (r : Int32) (_ : Nat → Int32) => r = p_miss F sh no p q nw (-1)) (fun u => wP G (ty2 cI cZ) (Mk cI cZ h a F nq no np sh nw th u) A) A) ([.ref h, .int (nI p), .int q] : List Value).toArray s 0 0 A) (F0 m 80 ls []) := by
                intro n
                induction n with
                | zero => intro i80 h1 h2; exact absurd h2 (by omega)
                | succ n ih80 =>
                  intro i80 hi_i80 hn_i80 x3 x4 e3 e4 H locs hP hD hS ls hl
                  subst e3 e4
                  refine lv_iload hx hb dX1_missing_80 (lv_at hl 4 rfl) ?_
                  refine lv_iconst (v := 4) hx hb dX1_missing_82 (by decide) ?_
                  refine lv_icmp_ge (tgt := 106) hx hb dX1_missing_83 (by decide) (fun c83 => ?_) (fun c83 => ?_)
                  · have c83 := (nI_leI (a := 4) (b := i80) (by omega) (by omega)).mp c83
                    have ei : 4 = i80 := by omega
                    subst ei
                    refine lv_iload_n hx hb dX1_missing_106 rfl (lv_at hl 3 rfl) ?_
                    exact w_iret (p_w1 F sh (p_w0 F wt p 4) p q nw no) hx hb hr hlocks hK hP hD hS (Nat.le_of_ble_eq_true rfl) (Nat.le_of_ble_eq_true rfl) dX1_missing_107 (show (p_sm (fun c => p_max0 (p_w1 F sh (p_w0 F wt p 4) p q nw no c)) 4) = p_miss F sh no p q nw (-1) from by exact miss_eq wt hno H3)
                  · have c83 := mt (nI_leI (a := 4) (b := i80) (by omega) (by omega)).mpr c83
                    have hlt_i80 : i80 < 4 := by omega
                    refine lv_iload_n hx hb dX1_missing_86 rfl (lv_at hl 3 rfl) ?_
                    refine lv_iconst (v := 0) hx hb dX1_missing_87 (by decide) ?_
                    refine lv_aload_n hx hb dX1_missing_88 rfl (lv_at hl 0 rfl) ?_
                    refine va_get (ci := 1) (v := .ref (a 11)) (C := RX1) (T := TX1) (N := 18) hx hb hts hin hown hK hP 0 rfl rfl 17 (by decide) (hts (.fieldLink RX1 44 "CurfewDeskModel" "wanted" "[I") (by decide +kernel)) (fun _ h9 => h9) rfl dX1_missing_89 ?_
                    refine lv_iload hx hb dX1_missing_92 (lv_at hl 4 rfl) ?_
                    refine w_iald hx hb hK hP 12 0 rfl rfl (f := (p_w1 F sh (p_w0 F wt p 4) p q nw no)) (j := i80) (by omega) (by omega) dX1_missing_94 ?_
                    refine va_mmax hx hb (hml.trans hl.1.symm) hown (hts (.methodLink RX1 132 Lib.Math.max.name) (by decide +kernel)) (hts (.static Lib.Math.max.name) (by decide +kernel)) (hts (.initialized "java/lang/Math") (by decide +kernel)) (hts (.code Lib.Math.max.name Lib.Math.max.code 2 (some .int)) (by decide +kernel)) (Nat.le_of_ble_eq_true rfl) (Nat.le_of_ble_eq_true rfl) (Nat.le_of_ble_eq_true rfl) (Nat.le_of_ble_eq_true rfl) dX1_missing_95 ?_
                    rw [← p_max0]
                    refine lv_iadd hx hb dX1_missing_98 ?_
                    refine lv_istore_n (lv' := [(3, .int ((p_sm (fun c => p_max0 (p_w1 F sh (p_w0 F wt p 4) p q nw no c)) i80) + (p_max0 ((p_w1 F sh (p_w0 F wt p 4) p q nw no) i80)))), (0, .ref h), (1, .int (nI p)), (2, .int q), (4, .int (nI i80))]) hx hb dX1_missing_99 rfl hl (by decide) rfl (fun ls hl => ?_)
                    refine lv_iinc (v := nI i80 + 1) (lv' := [(4, .int (nI i80 + 1)), (3, .int ((p_sm (fun c => p_max0 (p_w1 F sh (p_w0 F wt p 4) p q nw no c)) i80) + (p_max0 ((p_w1 F sh (p_w0 F wt p 4) p q nw no) i80)))), (0, .ref h), (1, .int (nI p)), (2, .int q)]) hx hb dX1_missing_100 hl (k := 4) rfl rfl (by decide) rfl (fun ls hl => ?_)
                    refine lv_goto (tgt := 80) hx hb dX1_missing_103 (by decide) ?_
                    exact ih80 (i80 + 1) (by omega) (by omega) ((p_sm (fun c => p_max0 (p_w1 F sh (p_w0 F wt p 4) p q nw no c)) i80) + (p_max0 ((p_w1 F sh (p_w0 F wt p 4) p q nw no) i80))) (nI i80 + 1) (by rfl) (by first | exact nI_1 _ | exact nct_t (by assumption) | exact nct_f (by assumption) | exact nct_b | rfl) _ _ hP hD hS _ (lv_sub hl [2, 3, 4, 1, 0] rfl)
              exact key80 (4 + 1) 0 (by omega) (by omega) 0 0 (by first | rfl | simp [p_ct, p_sm, p_fl, p_fg, nI_0]) (by first | rfl | simp [p_ct, p_sm, p_fl, p_fg, nI_0]) _ _ hP hD hS _ (lv_sub hl [2, 3, 4, 1, 0] rfl)
            · have c37 := mt (nI_leI (a := no) (b := i32) (by omega) (by omega)).mpr c37
              have hlt_i32 : i32 < no := by omega
              refine lv_aload_n hx hb dX1_missing_40 rfl (lv_at hl 0 rfl) ?_
              refine lv_iload_n hx hb dX1_missing_41 rfl (lv_at hl 3 rfl) ?_
              refine lv_iload_n hx hb dX1_missing_42 rfl (lv_at hl 1 rfl) ?_
              refine lv_iload_n hx hb dX1_missing_43 rfl (lv_at hl 2 rfl) ?_
              refine lv_aload_n hx hb dX1_missing_44 rfl (lv_at hl 0 rfl) ?_
              refine va_get (ci := 1) (v := .int nw) (C := RX1) (T := TX1) (N := 18) hx hb hts hin hown hK hP 0 rfl rfl 1 (by decide) (hts (.fieldLink RX1 122 "CurfewDeskModel" "time" "I") (by decide +kernel)) (fun _ h9 => h9) rfl dX1_missing_45 ?_
              refine w_in_i (va_runV (As := [.int (nI i32), .int (nI p), .int q, .int nw]) (rest := []) ⟨hx, hb, hml, hown, hts⟩ (c_X1_barsAt l G cI cZ h a F nq no np sh nw th (p_w1 F sh (p_w0 F wt p 4) p q nw i32) H.size i32 p q nw (by omega) (by omega)) (cwV 4 hts gX1_missing_X1_barsAt rfl rfl rfl (by decide +kernel) ⟨(Nat.le_of_ble_eq_true rfl), (Nat.le_of_ble_eq_true rfl)⟩) ⟨wPre_blind, va_recv hK hP (ci := 1) (q0 := 0) rfl rfl, w_pre hK hP hD⟩ rfl rfl hl.1 rfl (lv_room (Nat.le_of_ble_eq_true rfl)) dX1_missing_48 ⟨(Nat.le_of_ble_eq_true rfl), (Nat.le_of_ble_eq_true rfl)⟩) hD hS hA (fun r48 u48 H locs hw48 hP hD hS => ?_)
              have hP : va_P G vwCl (Mk cI cZ h a F nq no np sh nw th (p_w1 F sh (p_w0 F wt p 4) p q nw i32)) H := hP
              have hD : va_D A (Mk cI cZ h a F nq no np sh nw th (p_w1 F sh (p_w0 F wt p 4) p q nw i32)) := hD
              have hw48 : r48 = b2i (p_bars F sh i32 p q nw) := hw48
              subst hw48
              refine lv_if_eq (tgt := 69) hx hb dX1_missing_51 (by decide) (fun c51 => ?_) (fun c51 => ?_)
              · have c51 := b2i_0.mp c51
                refine lv_iinc (v := nI i32 + 1) (lv' := [(3, .int (nI i32 + 1)), (0, .ref h), (1, .int (nI p)), (2, .int q)]) hx hb dX1_missing_69 hl (k := 3) rfl rfl (by decide) rfl (fun ls hl => ?_)
                refine lv_goto (tgt := 32) hx hb dX1_missing_72 (by decide) ?_
                have hP : va_P G vwCl (Mk cI cZ h a F nq no np sh nw th (p_w1 F sh (p_w0 F wt p 4) p q nw (i32 + 1))) H := by rw [p_w1, if_neg (by rw [c51]; decide)]; exact hP
                have hD : va_D A (Mk cI cZ h a F nq no np sh nw th (p_w1 F sh (p_w0 F wt p 4) p q nw (i32 + 1))) := by rw [p_w1, if_neg (by rw [c51]; decide)]; exact hD
                exact ih32 (i32 + 1) (by omega) (by omega) (nI i32 + 1) (by first | exact nI_1 _ | exact nct_t (by assumption) | exact nct_f (by assumption) | exact nct_b | rfl) _ _ hP hD hS _ (lv_sub hl [1, 2, 3, 0] rfl)
              · have c51 := b2i_1.mp c51
                refine lv_aload_n hx hb dX1_missing_54 rfl (lv_at hl 0 rfl) ?_
                refine va_get (ci := 1) (v := .ref (a 11)) (C := RX1) (T := TX1) (N := 18) hx hb hts hin hown hK hP 0 rfl rfl 17 (by decide) (hts (.fieldLink RX1 44 "CurfewDeskModel" "wanted" "[I") (by decide +kernel)) (fun _ h9 => h9) rfl dX1_missing_55 ?_
                refine lv_aload_n hx hb dX1_missing_58 rfl (lv_at hl 0 rfl) ?_
                refine va_get (ci := 1) (v := .ref (a 3)) (C := RX1) (T := TX1) (N := 18) hx hb hts hin hown hK hP 0 rfl rfl 9 (by decide) (hts (.fieldLink RX1 19 "CurfewDeskModel" "colour" "[I") (by decide +kernel)) (fun _ h9 => h9) rfl dX1_missing_59 ?_
                refine lv_iload_n hx hb dX1_missing_62 rfl (lv_at hl 3 rfl) ?_
                refine w_iald hx hb hK hP 4 0 rfl rfl (f := (F 3)) (j := i32) (by omega) (by omega) dX1_missing_63 ?_
                obtain ⟨k, hk, ek⟩ := H3 i32 hlt_i32
                rw [ek]
                refine lv_dup2_11 hx hb dX1_missing_64 rfl rfl ?_
                refine w_iald hx hb hK hP 12 0 rfl rfl (f := (p_w1 F sh (p_w0 F wt p 4) p q nw i32)) (j := k) (by omega) (by omega) dX1_missing_65 ?_
                refine lv_iconst (v := 1) hx hb dX1_missing_66 (by decide) ?_
                refine lv_iadd hx hb dX1_missing_67 ?_
                refine w_iast hx hb hK hP hD hS 12 0 rfl rfl (f := (p_w1 F sh (p_w0 F wt p 4) p q nw i32)) (j := k) (by omega) (by omega) dX1_missing_68 (fun H locs hP hD hS => ?_)
                have hP : va_P G vwCl (Mk cI cZ h a F nq no np sh nw th (upd (p_w1 F sh (p_w0 F wt p 4) p q nw i32) k (((p_w1 F sh (p_w0 F wt p 4) p q nw i32) k) + 1))) H := hP
                have hD : va_D A (Mk cI cZ h a F nq no np sh nw th (upd (p_w1 F sh (p_w0 F wt p 4) p q nw i32) k (((p_w1 F sh (p_w0 F wt p 4) p q nw i32) k) + 1))) := hD
                refine lv_iinc (v := nI i32 + 1) (lv' := [(3, .int (nI i32 + 1)), (0, .ref h), (1, .int (nI p)), (2, .int q)]) hx hb dX1_missing_69 hl (k := 3) rfl rfl (by decide) rfl (fun ls hl => ?_)
                refine lv_goto (tgt := 32) hx hb dX1_missing_72 (by decide) ?_
                have hP : va_P G vwCl (Mk cI cZ h a F nq no np sh nw th (p_w1 F sh (p_w0 F wt p 4) p q nw (i32 + 1))) H := by rw [p_w1, if_pos c51, ek, nI_clamp (show k < 2 ^ 31 by omega)]; exact hP
                have hD : va_D A (Mk cI cZ h a F nq no np sh nw th (p_w1 F sh (p_w0 F wt p 4) p q nw (i32 + 1))) := by rw [p_w1, if_pos c51, ek, nI_clamp (show k < 2 ^ 31 by omega)]; exact hD
                exact ih32 (i32 + 1) (by omega) (by omega) (nI i32 + 1) (by first | exact nI_1 _ | exact nct_t (by assumption) | exact nct_f (by assumption) | exact nct_b | rfl) _ _ hP hD hS _ (lv_sub hl [1, 2, 3, 0] rfl)
        exact key32 (no + 1) 0 (by omega) (by omega) 0 (by first | rfl | simp [p_ct, p_sm, p_fl, p_fg, nI_0]) _ _ hP hD hS _ (lv_sub hl [1, 2, 3, 0] rfl)
      · have c4 := mt (nI_leI (a := 4) (b := i2) (by omega) (by omega)).mpr c4
        have hlt_i2 : i2 < 4 := by omega
        refine lv_aload_n hx hb dX1_missing_7 rfl (lv_at hl 0 rfl) ?_
        refine va_get (ci := 1) (v := .ref (a 11)) (C := RX1) (T := TX1) (N := 18) hx hb hts hin hown hK hP 0 rfl rfl 17 (by decide) (hts (.fieldLink RX1 44 "CurfewDeskModel" "wanted" "[I") (by decide +kernel)) (fun _ h9 => h9) rfl dX1_missing_8 ?_
        refine lv_iload_n hx hb dX1_missing_11 rfl (lv_at hl 3 rfl) ?_
        refine lv_aload_n hx hb dX1_missing_12 rfl (lv_at hl 0 rfl) ?_
        refine va_get (ci := 1) (v := .ref (a 9)) (C := RX1) (T := TX1) (N := 18) hx hb hts hin hown hK hP 0 rfl rfl 15 (by decide) (hts (.fieldLink RX1 38 "CurfewDeskModel" "stamps" "[I") (by decide +kernel)) (fun _ h9 => h9) rfl dX1_missing_13 ?_
        refine lv_iconst (v := 4) hx hb dX1_missing_16 (by decide) ?_
        refine lv_iload_n hx hb dX1_missing_17 rfl (lv_at hl 1 rfl) ?_
        refine lv_imul hx hb dX1_missing_18 ?_
        refine lv_iload_n hx hb dX1_missing_19 rfl (lv_at hl 3 rfl) ?_
        refine lv_iadd hx hb dX1_missing_20 ?_
        rw [pl_eq]
        refine w_iald hx hb hK hP 10 0 rfl rfl (f := (F 9)) (j := (p * 4 + i2)) (by omega) (by omega) dX1_missing_21 ?_
        refine lv_ineg hx hb dX1_missing_22 ?_
        refine w_iast hx hb hK hP hD hS 12 0 rfl rfl (f := (p_w0 F wt p i2)) (j := i2) (by omega) (by omega) dX1_missing_23 (fun H locs hP hD hS => ?_)
        have hP : va_P G vwCl (Mk cI cZ h a F nq no np sh nw th (upd (p_w0 F wt p i2) i2 (-((F 9) (p * 4 + i2))))) H := hP
        have hD : va_D A (Mk cI cZ h a F nq no np sh nw th (upd (p_w0 F wt p i2) i2 (-((F 9) (p * 4 + i2))))) := hD
        refine lv_iinc (v := nI i2 + 1) (lv' := [(3, .int (nI i2 + 1)), (0, .ref h), (1, .int (nI p)), (2, .int q)]) hx hb dX1_missing_24 hl (k := 3) rfl rfl (by decide) rfl (fun ls hl => ?_)
        refine lv_goto (tgt := 2) hx hb dX1_missing_27 (by decide) ?_
        exact ih2 (i2 + 1) (by omega) (by omega) (nI i2 + 1) (by first | exact nI_1 _ | exact nct_t (by assumption) | exact nct_f (by assumption) | exact nct_b | rfl) _ _ hP hD hS _ (lv_sub hl [1, 2, 3, 0] rfl)
  exact key2 (4 + 1) 0 (by omega) (by omega) 0 (by first | rfl | simp [p_ct, p_sm, p_fl, p_fg, nI_0]) _ _ hP hD hS _ (lv_sub hl [1, 2, 3, 0] rfl)
set_option maxHeartbeats 4000000 in
set_option maxRecDepth 100000 in
theorem c_X1_pairs (l : Launch) (G : va_G) (cI cZ : ClassId) (h : Nat) (a : Nat → Nat) (F : Nat → Nat → Int32) (nq no np : Nat) (sh nw : Int32) (th : Int32) (wt : Nat → Int32) (sz : Nat) (hno : no ≤ 10) (hnp : np ≤ 20) (hnq : nq ≤ 6) (H3 : ∀ o, o < no → ∃ c, c < 4 ∧ F 3 o = nI c) : Met l yX1_pairs wsX1_pairs ({ frames := 6, cells := 0, slots := 0, locals := 136 } : Room) (va_Pc [.ref h] (wPre G (ty2 cI cZ) (Mk cI cZ h a F nq no np sh nw th wt) sz)) (va_Qi (fun (r : Int32) (_ : Nat → Int32) => r = nI (p_pr F sh nq no np nw)) (fun u => wP G (ty2 cI cZ) (Mk cI cZ h a F nq no np sh nw th u) (va_A (Mk cI cZ h a F nq no np sh nw th wt) sz)) (va_A (Mk cI cZ h a F nq no np sh nw th wt) sz)) 0 0 (va_A (Mk cI cZ h a F nq no np sh nw th wt) sz) := by
  refine w_met (cc := cX1_pairs) (maxL := 4) (ret := (some .int)) (by decide) rfl (Nat.le_of_ble_eq_true rfl) ?_
  intro pg e s m below meth cd hx hb hml hr hts hown hlocks hnm hK hsz hP hD hA hS ls hl
  have hown : s.vm.findClass RX1 = some m.cls := hown
  have hin : ∀ w ∈ wsX10, w ∈ wsX1_pairs := by decide +kernel
  have hl : lv_has ls 4 [(0, .ref h)] := hl
  generalize hAe : va_A (Mk cI cZ h a F nq no np sh nw th wt) sz = A at hD hA hS ⊢
  refine lv_iconst (v := 0) hx hb dX1_pairs_0 (by decide) ?_
  refine lv_istore_n (lv' := [(1, .int 0), (0, .ref h)]) hx hb dX1_pairs_1 rfl hl (by decide) rfl (fun ls hl => ?_)
  refine lv_iconst (v := 0) hx hb dX1_pairs_2 (by decide) ?_
  refine lv_istore_n (lv' := [(2, .int 0), (1, .int 0), (0, .ref h)]) hx hb dX1_pairs_3 rfl hl (by decide) rfl (fun ls hl => ?_)
  have key4 : ∀ (n i4 : Nat), i4 ≤ np → np < i4 + n → ∀ (x1 : Int32) (x2 : Int32), x1 = nI (p_sn (fun p => p_ct (p_pq F sh no nw p) nq) i4) → x2 = nI i4 → ∀ (w4 : Nat → Int32) (H : Heap) (locs : List Loc), va_P G vwCl (Mk cI cZ h a F nq no np sh nw th w4) H → va_D A (Mk cI cZ h a F nq no np sh nw th w4) → va_S A s.heap H locs → ∀ ls : Array Slot, lv_has ls 4 [(0, .ref h), (1, .int x1), (2, .int x2)] → W pg l e ({ frames := 6, cells := 0, slots := 0, locals := 136 } : Room) s m ([.ref h] : List Value).toArray below meth cd H locs (0) (0) (MQ below (va_Qi (fun (r : Int32) (_ : Nat → Int32) => r = nI (p_pr F sh nq no np nw)) (fun u => wP G (ty2 cI cZ) (Mk cI cZ h a F nq no np sh nw th u) A) A) ([.ref h] : List Value).toArray s 0 0 A) (F0 m 4 ls []) := by
    intro n
    induction n with
    | zero => intro i4 h1 h2; exact absurd h2 (by omega)
    | succ n ih4 =>
      intro i4 hi_i4 hn_i4 x1 x2 e1 e2 w4 H locs hP hD hS ls hl
      subst e1 e2
      refine lv_iload_n hx hb dX1_pairs_4 rfl (lv_at hl 2 rfl) ?_
      refine lv_aload_n hx hb dX1_pairs_5 rfl (lv_at hl 0 rfl) ?_
      refine va_get (ci := 1) (v := .int (nI np)) (C := RX1) (T := TX1) (N := 18) hx hb hts hin hown hK hP 0 rfl rfl 5 (by decide) (hts (.fieldLink RX1 61 "CurfewDeskModel" "people" "I") (by decide +kernel)) (fun _ h9 => h9) rfl dX1_pairs_6 ?_
      refine lv_icmp_ge (tgt := 51) hx hb dX1_pairs_9 (by decide) (fun c9 => ?_) (fun c9 => ?_)
      · have c9 := (nI_leI (a := np) (b := i4) (by omega) (by omega)).mp c9
        have ei : np = i4 := by omega
        subst ei
        refine lv_iload_n hx hb dX1_pairs_51 rfl (lv_at hl 1 rfl) ?_
        exact w_iret w4 hx hb hr hlocks hK hP hD hS (Nat.le_of_ble_eq_true rfl) (Nat.le_of_ble_eq_true rfl) dX1_pairs_52 (show (nI (p_sn (fun p => p_ct (p_pq F sh no nw p) nq) np)) = nI (p_pr F sh nq no np nw) from by rfl)
      · have c9 := mt (nI_leI (a := np) (b := i4) (by omega) (by omega)).mpr c9
        have hlt_i4 : i4 < np := by omega
        refine lv_iconst (v := 0) hx hb dX1_pairs_12 (by decide) ?_
        refine lv_istore_n (lv' := [(3, .int 0), (0, .ref h), (1, .int (nI (p_sn (fun p => p_ct (p_pq F sh no nw p) nq) i4))), (2, .int (nI i4))]) hx hb dX1_pairs_13 rfl hl (by decide) rfl (fun ls hl => ?_)
        have key14 : ∀ (n i14 : Nat), i14 ≤ nq → nq < i14 + n → ∀ (x1 : Int32) (x3 : Int32), x1 = nI (p_sn (fun p => p_ct (p_pq F sh no nw p) nq) i4) + nI (p_ct (p_pq F sh no nw i4) i14) → x3 = nI i14 → ∀ (w14 : Nat → Int32) (H : Heap) (locs : List Loc), va_P G vwCl (Mk cI cZ h a F nq no np sh nw th w14) H → va_D A (Mk cI cZ h a F nq no np sh nw th w14) → va_S A s.heap H locs → ∀ ls : Array Slot, lv_has ls 4 [(0, .ref h), (1, .int x1), (2, .int (nI i4)), (3, .int x3)] → W pg l e ({ frames := 6, cells := 0, slots := 0, locals := 136 } : Room) s m ([.ref h] : List Value).toArray below meth cd H locs (0) (0) (MQ below (va_Qi (fun (r : Int32) (_ : Nat → Int32) => r = nI (p_pr F sh nq no np nw)) (fun u => wP G (ty2 cI cZ) (Mk cI cZ h a F nq no np sh nw th u) A) A) ([.ref h] : List Value).toArray s 0 0 A) (F0 m 14 ls []) := by
          intro n
          induction n with
          | zero => intro i14 h1 h2; exact absurd h2 (by omega)
          | succ n ih14 =>
            intro i14 hi_i14 hn_i14 x1 x3 e1 e3 w14 H locs hP hD hS ls hl
            subst e1 e3
            refine lv_iload_n hx hb dX1_pairs_14 rfl (lv_at hl 3 rfl) ?_
            refine lv_aload_n hx hb dX1_pairs_15 rfl (lv_at hl 0 rfl) ?_
            refine va_get (ci := 1) (v := .int (nI nq)) (C := RX1) (T := TX1) (N := 18) hx hb hts hin hown hK hP 0 rfl rfl 3 (by decide) (hts (.fieldLink RX1 51 "CurfewDeskModel" "quarters" "I") (by decide +kernel)) (fun _ h9 => h9) rfl dX1_pairs_16 ?_
            refine lv_icmp_ge (tgt := 45) hx hb dX1_pairs_19 (by decide) (fun c19 => ?_) (fun c19 => ?_)
            · have c19 := (nI_leI (a := nq) (b := i14) (by omega) (by omega)).mp c19
              have ei : nq = i14 := by omega
              subst ei
              refine lv_iinc (v := nI i4 + 1) (lv' := [(2, .int (nI i4 + 1)), (0, .ref h), (1, .int (nI (p_sn (fun p => p_ct (p_pq F sh no nw p) nq) i4) + nI (p_ct (p_pq F sh no nw i4) nq))), (3, .int (nI nq))]) hx hb dX1_pairs_45 hl (k := 2) rfl rfl (by decide) rfl (fun ls hl => ?_)
              refine lv_goto (tgt := 4) hx hb dX1_pairs_48 (by decide) ?_
              exact ih4 (i4 + 1) (by omega) (by omega) (nI (p_sn (fun p => p_ct (p_pq F sh no nw p) nq) i4) + nI (p_ct (p_pq F sh no nw i4) nq)) (nI i4 + 1) (by rw [nI_add]; rfl) (by first | exact nI_1 _ | exact nct_t (by assumption) | exact nct_f (by assumption) | exact nct_b | rfl) w14 _ _ hP hD hS _ (lv_sub hl [1, 2, 0] rfl)
            · have c19 := mt (nI_leI (a := nq) (b := i14) (by omega) (by omega)).mpr c19
              have hlt_i14 : i14 < nq := by omega
              refine lv_iload_n hx hb dX1_pairs_22 rfl (lv_at hl 1 rfl) ?_
              refine lv_aload_n hx hb dX1_pairs_23 rfl (lv_at hl 0 rfl) ?_
              refine lv_iload_n hx hb dX1_pairs_24 rfl (lv_at hl 2 rfl) ?_
              refine lv_iload_n hx hb dX1_pairs_25 rfl (lv_at hl 3 rfl) ?_
              refine w_in_i (va_runV (As := [.int (nI i4), .int (nI i14)]) (rest := [.int (nI (p_sn (fun p => p_ct (p_pq F sh no nw p) nq) i4) + nI (p_ct (p_pq F sh no nw i4) i14))]) ⟨hx, hb, hml, hown, hts⟩ (c_X1_missing l G cI cZ h a F nq no np sh nw th w14 H.size i4 (nI i14) (by omega) (by omega) (H3)) (cwV 2 hts gX1_pairs_X1_missing rfl rfl rfl (by decide +kernel) ⟨(Nat.le_of_ble_eq_true rfl), (Nat.le_of_ble_eq_true rfl)⟩) ⟨wPre_blind, va_recv hK hP (ci := 1) (q0 := 0) rfl rfl, w_pre hK hP hD⟩ rfl rfl hl.1 rfl (lv_room (Nat.le_of_ble_eq_true rfl)) dX1_pairs_26 ⟨(Nat.le_of_ble_eq_true rfl), (Nat.le_of_ble_eq_true rfl)⟩) hD hS hA (fun r26 u26 H locs hw26 hP hD hS => ?_)
              have hP : va_P G vwCl (Mk cI cZ h a F nq no np sh nw th u26) H := hP
              have hD : va_D A (Mk cI cZ h a F nq no np sh nw th u26) := hD
              have hw26 : r26 = p_miss F sh no i4 (nI i14) nw (-1) := hw26
              subst hw26
              refine w_selN (v1 := 1) (v2 := 0) hx hb dX1_pairs_29 (by decide) dX1_pairs_32 (by decide) dX1_pairs_33 (by decide) dX1_pairs_36 (by decide) ?_
              rw [b2i_nz]
              refine lv_iadd hx hb dX1_pairs_37 ?_
              refine lv_istore_n (lv' := [(1, .int ((nI (p_sn (fun p => p_ct (p_pq F sh no nw p) nq) i4) + nI (p_ct (p_pq F sh no nw i4) i14)) + (b2i (decide (p_miss F sh no i4 (nI i14) nw (-1) = 0))))), (0, .ref h), (2, .int (nI i4)), (3, .int (nI i14))]) hx hb dX1_pairs_38 rfl hl (by decide) rfl (fun ls hl => ?_)
              refine lv_iinc (v := nI i14 + 1) (lv' := [(3, .int (nI i14 + 1)), (1, .int ((nI (p_sn (fun p => p_ct (p_pq F sh no nw p) nq) i4) + nI (p_ct (p_pq F sh no nw i4) i14)) + (b2i (decide (p_miss F sh no i4 (nI i14) nw (-1) = 0))))), (0, .ref h), (2, .int (nI i4))]) hx hb dX1_pairs_39 hl (k := 3) rfl rfl (by decide) rfl (fun ls hl => ?_)
              refine lv_goto (tgt := 14) hx hb dX1_pairs_42 (by decide) ?_
              exact ih14 (i14 + 1) (by omega) (by omega) ((nI (p_sn (fun p => p_ct (p_pq F sh no nw p) nq) i4) + nI (p_ct (p_pq F sh no nw i4) i14)) + (b2i (decide (p_miss F sh no i4 (nI i14) nw (-1) = 0)))) (nI i14 + 1) (by rw [Int32.add_assoc]; congr 1; exact nct_b) (by first | exact nI_1 _ | exact nct_t (by assumption) | exact nct_f (by assumption) | exact nct_b | rfl) u26 _ _ hP hD hS _ (lv_sub hl [2, 1, 3, 0] rfl)
        exact key14 (nq + 1) 0 (by omega) (by omega) (nI (p_sn (fun p => p_ct (p_pq F sh no nw p) nq) i4)) 0 (by rw [show nI (p_ct (p_pq F sh no nw i4) 0) = 0 from nI_0, Int32.add_zero]) (by first | rfl | simp [p_ct, p_sm, p_fl, p_fg, nI_0]) w4 _ _ hP hD hS _ (lv_sub hl [1, 2, 3, 0] rfl)
  exact key4 (np + 1) 0 (by omega) (by omega) 0 0 (by first | rfl | simp [p_ct, p_sm, p_fl, p_fg, nI_0]) (by first | rfl | simp [p_ct, p_sm, p_fl, p_fg, nI_0]) wt _ _ hP hD hS _ (lv_sub hl [2, 1, 0] rfl)
end
