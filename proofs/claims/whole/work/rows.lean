section
-- ===== PART A: goes FIRST, ahead of the names: the tables' words, and 'selects' of the private methods out of them =====
/-- a private method of a class that the tables say can be made, by its rows of tables_1 -/
def lw_okq (q : MethodName × Nat) : Prop := (q.1.cls ≠ "java/lang/invoke/MethodHandle" ∧ q.1.cls ≠ "java/lang/invoke/VarHandle") ∧ Cond.instantiable q.1.cls q.2 ∈ tables_1 ∧ Cond.privateMethod q.1 ∈ tables_1 ∧ Cond.instanceMethod q.1 ∈ tables_1
theorem lw_p0 : lw_okq (⟨"CurfewDesk", "isOnAt", "(II)Z"⟩, 16) := ⟨⟨by decide +kernel, by decide +kernel⟩, List.mem_of_getElem? (i := 11) (by decide +kernel), List.mem_of_getElem? (i := 94) (by decide +kernel), List.mem_of_getElem? (i := 95) (by decide +kernel)⟩
theorem lw_p1 : lw_okq (⟨"CurfewDesk", "isInHours", "(II)Z"⟩, 16) := ⟨⟨by decide +kernel, by decide +kernel⟩, List.mem_of_getElem? (i := 11) (by decide +kernel), List.mem_of_getElem? (i := 98) (by decide +kernel), List.mem_of_getElem? (i := 99) (by decide +kernel)⟩
theorem lw_p2 : lw_okq (⟨"CurfewDesk", "duskOf", "(I)I"⟩, 16) := ⟨⟨by decide +kernel, by decide +kernel⟩, List.mem_of_getElem? (i := 11) (by decide +kernel), List.mem_of_getElem? (i := 102) (by decide +kernel), List.mem_of_getElem? (i := 103) (by decide +kernel)⟩
theorem lw_p3 : lw_okq (⟨"CurfewDesk", "pairsFreedBy", "(I)I"⟩, 16) := ⟨⟨by decide +kernel, by decide +kernel⟩, List.mem_of_getElem? (i := 11) (by decide +kernel), List.mem_of_getElem? (i := 124) (by decide +kernel), List.mem_of_getElem? (i := 125) (by decide +kernel)⟩
theorem lw_p4 : lw_okq (⟨"CurfewDesk", "missing", "(III)I"⟩, 16) := ⟨⟨by decide +kernel, by decide +kernel⟩, List.mem_of_getElem? (i := 11) (by decide +kernel), List.mem_of_getElem? (i := 128) (by decide +kernel), List.mem_of_getElem? (i := 129) (by decide +kernel)⟩
theorem lw_p5 : lw_okq (⟨"CurfewDesk", "bars", "(IIII)Z"⟩, 16) := ⟨⟨by decide +kernel, by decide +kernel⟩, List.mem_of_getElem? (i := 11) (by decide +kernel), List.mem_of_getElem? (i := 132) (by decide +kernel), List.mem_of_getElem? (i := 133) (by decide +kernel)⟩
theorem lw_p6 : lw_okq (⟨"CurfewDesk", "exempts", "(II)Z"⟩, 16) := ⟨⟨by decide +kernel, by decide +kernel⟩, List.mem_of_getElem? (i := 11) (by decide +kernel), List.mem_of_getElem? (i := 136) (by decide +kernel), List.mem_of_getElem? (i := 137) (by decide +kernel)⟩
theorem lw_p7 : lw_okq (⟨"java/lang/Throwable", "fillInStackTrace", "(I)Ljava/lang/Throwable;"⟩, 6) := ⟨⟨by decide +kernel, by decide +kernel⟩, List.mem_of_getElem? (i := 207) (by decide +kernel), List.mem_of_getElem? (i := 205) (by decide +kernel), List.mem_of_getElem? (i := 206) (by decide +kernel)⟩
theorem lw_p8 : lw_okq (⟨"CurfewDesk", "foldOrder", "(JI)J"⟩, 16) := ⟨⟨by decide +kernel, by decide +kernel⟩, List.mem_of_getElem? (i := 11) (by decide +kernel), List.mem_of_getElem? (i := 242) (by decide +kernel), List.mem_of_getElem? (i := 243) (by decide +kernel)⟩
theorem lw_p9 : lw_okq (⟨"CurfewDesk", "requireOrder", "(I)V"⟩, 16) := ⟨⟨by decide +kernel, by decide +kernel⟩, List.mem_of_getElem? (i := 11) (by decide +kernel), List.mem_of_getElem? (i := 253) (by decide +kernel), List.mem_of_getElem? (i := 254) (by decide +kernel)⟩
theorem lw_p10 : lw_okq (⟨"CurfewDesk", "foldPerson", "(JI)J"⟩, 16) := ⟨⟨by decide +kernel, by decide +kernel⟩, List.mem_of_getElem? (i := 11) (by decide +kernel), List.mem_of_getElem? (i := 273) (by decide +kernel), List.mem_of_getElem? (i := 274) (by decide +kernel)⟩
theorem lw_p11 : lw_okq (⟨"CurfewDesk", "requirePerson", "(I)V"⟩, 16) := ⟨⟨by decide +kernel, by decide +kernel⟩, List.mem_of_getElem? (i := 11) (by decide +kernel), List.mem_of_getElem? (i := 281) (by decide +kernel), List.mem_of_getElem? (i := 282) (by decide +kernel)⟩
theorem lw_p12 : lw_okq (⟨"CurfewDesk", "requireQuarter", "(I)V"⟩, 16) := ⟨⟨by decide +kernel, by decide +kernel⟩, List.mem_of_getElem? (i := 11) (by decide +kernel), List.mem_of_getElem? (i := 286) (by decide +kernel), List.mem_of_getElem? (i := 287) (by decide +kernel)⟩
theorem lw_p13 : lw_okq (⟨"CurfewDesk", "useStamp", "(II)Z"⟩, 16) := ⟨⟨by decide +kernel, by decide +kernel⟩, List.mem_of_getElem? (i := 11) (by decide +kernel), List.mem_of_getElem? (i := 386) (by decide +kernel), List.mem_of_getElem? (i := 387) (by decide +kernel)⟩
theorem lw_p14 : lw_okq (⟨"CurfewDesk", "fineOnce", "(I)I"⟩, 16) := ⟨⟨by decide +kernel, by decide +kernel⟩, List.mem_of_getElem? (i := 11) (by decide +kernel), List.mem_of_getElem? (i := 390) (by decide +kernel), List.mem_of_getElem? (i := 391) (by decide +kernel)⟩
theorem lw_p15 : lw_okq (⟨"CurfewDesk", "timesBegun", "(II)I"⟩, 16) := ⟨⟨by decide +kernel, by decide +kernel⟩, List.mem_of_getElem? (i := 11) (by decide +kernel), List.mem_of_getElem? (i := 401) (by decide +kernel), List.mem_of_getElem? (i := 402) (by decide +kernel)⟩
def lw_privs_1 : List (MethodName × Nat) := [(⟨"CurfewDesk", "isOnAt", "(II)Z"⟩, 16), (⟨"CurfewDesk", "isInHours", "(II)Z"⟩, 16), (⟨"CurfewDesk", "duskOf", "(I)I"⟩, 16), (⟨"CurfewDesk", "pairsFreedBy", "(I)I"⟩, 16), (⟨"CurfewDesk", "missing", "(III)I"⟩, 16), (⟨"CurfewDesk", "bars", "(IIII)Z"⟩, 16), (⟨"CurfewDesk", "exempts", "(II)Z"⟩, 16), (⟨"java/lang/Throwable", "fillInStackTrace", "(I)Ljava/lang/Throwable;"⟩, 6), (⟨"CurfewDesk", "foldOrder", "(JI)J"⟩, 16), (⟨"CurfewDesk", "requireOrder", "(I)V"⟩, 16), (⟨"CurfewDesk", "foldPerson", "(JI)J"⟩, 16), (⟨"CurfewDesk", "requirePerson", "(I)V"⟩, 16), (⟨"CurfewDesk", "requireQuarter", "(I)V"⟩, 16), (⟨"CurfewDesk", "useStamp", "(II)Z"⟩, 16), (⟨"CurfewDesk", "fineOnce", "(I)I"⟩, 16), (⟨"CurfewDesk", "timesBegun", "(II)I"⟩, 16)]
theorem lw_r1 : ∀ q ∈ lw_privs_1, lw_okq q := List.forall_mem_cons.mpr ⟨lw_p0, List.forall_mem_cons.mpr ⟨lw_p1, List.forall_mem_cons.mpr ⟨lw_p2, List.forall_mem_cons.mpr ⟨lw_p3, List.forall_mem_cons.mpr ⟨lw_p4, List.forall_mem_cons.mpr ⟨lw_p5, List.forall_mem_cons.mpr ⟨lw_p6, List.forall_mem_cons.mpr ⟨lw_p7, List.forall_mem_cons.mpr ⟨lw_p8, List.forall_mem_cons.mpr ⟨lw_p9, List.forall_mem_cons.mpr ⟨lw_p10, List.forall_mem_cons.mpr ⟨lw_p11, List.forall_mem_cons.mpr ⟨lw_p12, List.forall_mem_cons.mpr ⟨lw_p13, List.forall_mem_cons.mpr ⟨lw_p14, List.forall_mem_cons.mpr ⟨lw_p15, fun _ h => absurd h List.not_mem_nil⟩⟩⟩⟩⟩⟩⟩⟩⟩⟩⟩⟩⟩⟩⟩⟩
theorem lw_p16 : lw_okq (⟨"CurfewDesk", "isFreeAt", "(III)Z"⟩, 16) := ⟨⟨by decide +kernel, by decide +kernel⟩, List.mem_of_getElem? (i := 11) (by decide +kernel), List.mem_of_getElem? (i := 512) (by decide +kernel), List.mem_of_getElem? (i := 513) (by decide +kernel)⟩
theorem lw_p17 : lw_okq (⟨"CurfewDeskModel", "fail", "(I)I"⟩, 18) := ⟨⟨by decide +kernel, by decide +kernel⟩, List.mem_of_getElem? (i := 523) (by decide +kernel), List.mem_of_getElem? (i := 592) (by decide +kernel), List.mem_of_getElem? (i := 593) (by decide +kernel)⟩
theorem lw_p18 : lw_okq (⟨"CurfewDeskModel", "isQuarter", "(I)Z"⟩, 18) := ⟨⟨by decide +kernel, by decide +kernel⟩, List.mem_of_getElem? (i := 523) (by decide +kernel), List.mem_of_getElem? (i := 610) (by decide +kernel), List.mem_of_getElem? (i := 611) (by decide +kernel)⟩
theorem lw_p19 : lw_okq (⟨"CurfewDeskModel", "isOrder", "(I)Z"⟩, 18) := ⟨⟨by decide +kernel, by decide +kernel⟩, List.mem_of_getElem? (i := 523) (by decide +kernel), List.mem_of_getElem? (i := 621) (by decide +kernel), List.mem_of_getElem? (i := 622) (by decide +kernel)⟩
theorem lw_p20 : lw_okq (⟨"CurfewDeskModel", "failed", "(I)Z"⟩, 18) := ⟨⟨by decide +kernel, by decide +kernel⟩, List.mem_of_getElem? (i := 523) (by decide +kernel), List.mem_of_getElem? (i := 625) (by decide +kernel), List.mem_of_getElem? (i := 626) (by decide +kernel)⟩
theorem lw_p21 : lw_okq (⟨"CurfewDeskModel", "isPass", "(II)Z"⟩, 18) := ⟨⟨by decide +kernel, by decide +kernel⟩, List.mem_of_getElem? (i := 523) (by decide +kernel), List.mem_of_getElem? (i := 641) (by decide +kernel), List.mem_of_getElem? (i := 642) (by decide +kernel)⟩
theorem lw_p22 : lw_okq (⟨"CurfewDeskModel", "isPerson", "(I)Z"⟩, 18) := ⟨⟨by decide +kernel, by decide +kernel⟩, List.mem_of_getElem? (i := 523) (by decide +kernel), List.mem_of_getElem? (i := 645) (by decide +kernel), List.mem_of_getElem? (i := 646) (by decide +kernel)⟩
theorem lw_p23 : lw_okq (⟨"CurfewDeskModel", "isPair", "(II)Z"⟩, 18) := ⟨⟨by decide +kernel, by decide +kernel⟩, List.mem_of_getElem? (i := 523) (by decide +kernel), List.mem_of_getElem? (i := 658) (by decide +kernel), List.mem_of_getElem? (i := 659) (by decide +kernel)⟩
theorem lw_p24 : lw_okq (⟨"CurfewDeskModel", "barsAt", "(IIII)Z"⟩, 18) := ⟨⟨by decide +kernel, by decide +kernel⟩, List.mem_of_getElem? (i := 523) (by decide +kernel), List.mem_of_getElem? (i := 662) (by decide +kernel), List.mem_of_getElem? (i := 663) (by decide +kernel)⟩
theorem lw_p25 : lw_okq (⟨"CurfewDeskModel", "onAt", "(II)Z"⟩, 18) := ⟨⟨by decide +kernel, by decide +kernel⟩, List.mem_of_getElem? (i := 523) (by decide +kernel), List.mem_of_getElem? (i := 666) (by decide +kernel), List.mem_of_getElem? (i := 667) (by decide +kernel)⟩
theorem lw_p26 : lw_okq (⟨"CurfewDeskModel", "isAt", "(II)Z"⟩, 18) := ⟨⟨by decide +kernel, by decide +kernel⟩, List.mem_of_getElem? (i := 523) (by decide +kernel), List.mem_of_getElem? (i := 670) (by decide +kernel), List.mem_of_getElem? (i := 671) (by decide +kernel)⟩
theorem lw_p27 : lw_okq (⟨"CurfewDeskModel", "dusk", "(I)I"⟩, 18) := ⟨⟨by decide +kernel, by decide +kernel⟩, List.mem_of_getElem? (i := 523) (by decide +kernel), List.mem_of_getElem? (i := 674) (by decide +kernel), List.mem_of_getElem? (i := 675) (by decide +kernel)⟩
theorem lw_p28 : lw_okq (⟨"CurfewDeskModel", "barred", "(I)I"⟩, 18) := ⟨⟨by decide +kernel, by decide +kernel⟩, List.mem_of_getElem? (i := 523) (by decide +kernel), List.mem_of_getElem? (i := 728) (by decide +kernel), List.mem_of_getElem? (i := 729) (by decide +kernel)⟩
theorem lw_p29 : lw_okq (⟨"CurfewDeskModel", "against", "(III)I"⟩, 18) := ⟨⟨by decide +kernel, by decide +kernel⟩, List.mem_of_getElem? (i := 523) (by decide +kernel), List.mem_of_getElem? (i := 752) (by decide +kernel), List.mem_of_getElem? (i := 753) (by decide +kernel)⟩
theorem lw_p30 : lw_okq (⟨"CurfewDeskModel", "missing", "(II)I"⟩, 18) := ⟨⟨by decide +kernel, by decide +kernel⟩, List.mem_of_getElem? (i := 523) (by decide +kernel), List.mem_of_getElem? (i := 760) (by decide +kernel), List.mem_of_getElem? (i := 761) (by decide +kernel)⟩
theorem lw_p31 : lw_okq (⟨"CurfewDeskModel", "manyOn", "()I"⟩, 18) := ⟨⟨by decide +kernel, by decide +kernel⟩, List.mem_of_getElem? (i := 523) (by decide +kernel), List.mem_of_getElem? (i := 785) (by decide +kernel), List.mem_of_getElem? (i := 786) (by decide +kernel)⟩
def lw_privs_2 : List (MethodName × Nat) := [(⟨"CurfewDesk", "isFreeAt", "(III)Z"⟩, 16), (⟨"CurfewDeskModel", "fail", "(I)I"⟩, 18), (⟨"CurfewDeskModel", "isQuarter", "(I)Z"⟩, 18), (⟨"CurfewDeskModel", "isOrder", "(I)Z"⟩, 18), (⟨"CurfewDeskModel", "failed", "(I)Z"⟩, 18), (⟨"CurfewDeskModel", "isPass", "(II)Z"⟩, 18), (⟨"CurfewDeskModel", "isPerson", "(I)Z"⟩, 18), (⟨"CurfewDeskModel", "isPair", "(II)Z"⟩, 18), (⟨"CurfewDeskModel", "barsAt", "(IIII)Z"⟩, 18), (⟨"CurfewDeskModel", "onAt", "(II)Z"⟩, 18), (⟨"CurfewDeskModel", "isAt", "(II)Z"⟩, 18), (⟨"CurfewDeskModel", "dusk", "(I)I"⟩, 18), (⟨"CurfewDeskModel", "barred", "(I)I"⟩, 18), (⟨"CurfewDeskModel", "against", "(III)I"⟩, 18), (⟨"CurfewDeskModel", "missing", "(II)I"⟩, 18), (⟨"CurfewDeskModel", "manyOn", "()I"⟩, 18)]
theorem lw_r2 : ∀ q ∈ lw_privs_2, lw_okq q := List.forall_mem_cons.mpr ⟨lw_p16, List.forall_mem_cons.mpr ⟨lw_p17, List.forall_mem_cons.mpr ⟨lw_p18, List.forall_mem_cons.mpr ⟨lw_p19, List.forall_mem_cons.mpr ⟨lw_p20, List.forall_mem_cons.mpr ⟨lw_p21, List.forall_mem_cons.mpr ⟨lw_p22, List.forall_mem_cons.mpr ⟨lw_p23, List.forall_mem_cons.mpr ⟨lw_p24, List.forall_mem_cons.mpr ⟨lw_p25, List.forall_mem_cons.mpr ⟨lw_p26, List.forall_mem_cons.mpr ⟨lw_p27, List.forall_mem_cons.mpr ⟨lw_p28, List.forall_mem_cons.mpr ⟨lw_p29, List.forall_mem_cons.mpr ⟨lw_p30, List.forall_mem_cons.mpr ⟨lw_p31, fun _ h => absurd h List.not_mem_nil⟩⟩⟩⟩⟩⟩⟩⟩⟩⟩⟩⟩⟩⟩⟩⟩
theorem lw_p32 : lw_okq (⟨"CurfewDeskModel", "all", "()I"⟩, 18) := ⟨⟨by decide +kernel, by decide +kernel⟩, List.mem_of_getElem? (i := 523) (by decide +kernel), List.mem_of_getElem? (i := 797) (by decide +kernel), List.mem_of_getElem? (i := 798) (by decide +kernel)⟩
theorem lw_p33 : lw_okq (⟨"CurfewDeskModel", "pairs", "()I"⟩, 18) := ⟨⟨by decide +kernel, by decide +kernel⟩, List.mem_of_getElem? (i := 523) (by decide +kernel), List.mem_of_getElem? (i := 817) (by decide +kernel), List.mem_of_getElem? (i := 818) (by decide +kernel)⟩
def lw_privs_3 : List (MethodName × Nat) := [(⟨"CurfewDeskModel", "all", "()I"⟩, 18), (⟨"CurfewDeskModel", "pairs", "()I"⟩, 18)]
theorem lw_r3 : ∀ q ∈ lw_privs_3, lw_okq q := List.forall_mem_cons.mpr ⟨lw_p32, List.forall_mem_cons.mpr ⟨lw_p33, fun _ h => absurd h List.not_mem_nil⟩⟩
def lw_privs : List (MethodName × Nat) := lw_privs_1 ++ (lw_privs_2 ++ (lw_privs_3))
def lw_tbl : List Cond := k2_sels lw_privs ++ tables_1
theorem lw_privs_ok : ∀ q ∈ lw_privs, lw_okq q := by
  show ∀ q ∈ lw_privs_1 ++ (lw_privs_2 ++ (lw_privs_3)), lw_okq q
  exact List.forall_mem_append.mpr ⟨lw_r1, List.forall_mem_append.mpr ⟨lw_r2, lw_r3⟩⟩
/-- the streams that the claim lets the run draw from -/
abbrev lw_cs : List Choice := [Jvm.Choice.named "NaN.bits"]
theorem lw_bits : nanBits ∈ lw_cs := by first | decide | exact List.mem_cons_self | simp [lw_cs, nanBits]
-- ===== end of PART A; then your names; then what follows =====
end
section
/-! ===== BEGIN words of one list among another's, by their places ===== -/
theorem goodIn_r {big : List Cond} (ws : List Cond) (ps : List Nat) (hp : ws = ps.filterMap (fun i => big[i]?)) (h : ws.all goodWord = true) : GoodIn big ws := by
  intro w hw
  have h1 := List.all_eq_true.mp h w hw
  rw [hp] at hw
  obtain ⟨i, -, hi⟩ := List.mem_filterMap.mp hw
  have hm : w ∈ big := by first | exact List.mem_of_getElem? hi | exact List.getElem?_mem hi
  exact ⟨hm, good_of_word h1⟩
theorem goodIn_app {big a b : List Cond} (ha : GoodIn big a) (hb : GoodIn big b) : GoodIn big (a ++ b) := fun w h => (List.mem_append.mp h).elim (ha w) (hb w)
theorem goodIn_ca {big a b : List Cond} {c : Cond} (ha : GoodIn big (c :: a)) (hb : GoodIn big b) : GoodIn big (c :: (a ++ b)) := fun w h => (List.mem_cons.mp h).elim (fun e => ha w (List.mem_cons.mpr (Or.inl e))) (fun h => (List.mem_append.mp h).elim (fun h => ha w (List.mem_cons.mpr (Or.inr h))) (hb w))
theorem goodIn_sub {big ws : List Cond} (hm : ∀ w ∈ ws, w ∈ big) (h : ws.all goodWord = true) : GoodIn big ws := fun w hw => ⟨hm w hw, good_of_word (List.all_eq_true.mp h w hw)⟩
/-! ===== END ===== -/

/-! ===== BEGIN exceptions that leave a method, and their catching by the caller (launches without stack traces) ===== -/
section VXA
/-! The laws vx_back, vx_callV, vx_callS, vx_callSW, vx_throw0, vx_throwS follow proofs of the library, with one case more: JvmDerived/Free/Laws.lean (Back.of_free), Shelf42/LK1.lean (callV, callS), Shelf/KitTraced.lean (throwNew0V, throwNewS). -/
/-- where a method has thrown q: the class by its name, the cell, what was written, the world -/
def vx_T (XC : String → State → State → Prop) (st : State) (q : Addr) (t : State) (mc ms : Nat) (free : Addr → Prop) : Prop :=
  ∃ (E : String) (ce : Cell) (L : List Loc), XC E st t ∧ t.heap[q]? = some ce ∧ ce.vm = .none ∧ st.vm.findClass E = some ce.cls ∧ st.WarmedH t.vm ∧ st.sameButNew ({ t with vm := st.vm } : State) L mc ms ∧ ∀ z ∈ L, free z.base
def vx_Q (Qc : Array Value → State → Outcome → State → Prop) (XC : String → State → State → Prop) (mc ms : Nat) (free : Addr → Prop) : Array Value → State → Outcome → State → Prop := fun a st o t =>
  (Qc a st o t ∧ ∃ L, FrameEnd st o t L mc ms ∧ ∀ q ∈ L, free q.base) ∨ ∃ q, o = .threw q ∧ vx_T XC st q t mc ms free
/-- a callee that returns or throws -/
def vx_Met (l : Launch) (y : MethodName) (ws : List Cond) (rm : Room) (Pc : Array Value → State → Prop) (Qc : Array Value → State → Outcome → State → Prop) (XC : String → State → State → Prop) (mc ms : Nat) (free : Addr → Prop) : Prop :=
  MetFree l y (headSpec ws rm) Pc (fun _ _ _ _ _ => True) (vx_Q Qc XC mc ms free)
def vx_Post (XC : String → State → State → Prop) (mc ms : Nat) (free : Addr → Prop) : Pt → Array Value → Addr → Pt → Prop := fun A a q B =>
  ∃ (g : JFrame) (mk : MethodId) (t : State) (L : List Loc) (E : String) (ce : Cell), B.U.heap = t.heap ∧ B.U.vm = t.vm ∧ XC E (A.U.calling g mk a) t ∧ t.heap[q]? = some ce ∧ ce.vm = .none ∧ A.U.vm.findClass E = some ce.cls ∧ B.locs = A.locs ++ L ∧ (∀ z ∈ L, free z.base) ∧ B.cells = A.cells + mc ∧ B.slots = A.slots + ms
def vx_Back (l : Launch) (R : Room) (p : Program) (e : Env) (below : List Frame) (s : State) (sargs : Array Value) (y : MethodName) (len W9 : Nat)
    (Pre : Pt → Array Value → Prop) (Post : Pt → Array Value → Option Value → Pt → Prop) (PostX : Pt → Array Value → Addr → Pt → Prop) : Prop :=
  ∀ (m : MethodId) (meth : Method) (c : Code) (A : Pt) (g : JFrame) (ig : Instr) (mk : MethodId) (a : Array Value),
    Stand p l e R s m sargs below meth c A.U A.locs A.cells A.slots → g.method = m → g.locals.size = c.maxLocals → decode c.code g.pc = .ok (ig, len) →
    2 * g.monitorRoom + (g.stack.map fun v => v.category).sum ≤ W9 → A.U.methodNamed? y = some mk → Pre A a →
    (∃ (v : Option Value) (B : Pt), Stand p l e R s m sargs below meth c B.U B.locs B.cells B.slots ∧ Post A a v B ∧
      Steps p.tables e below (doInvoke e (A.U.setTop g) [] mk a).1 (B.U.setTop { g with pc := g.pc + len, stack := v.toList ++ g.stack })) ∨
    (∃ (q : Addr) (B : Pt), Stand p l e R s m sargs below meth c B.U B.locs B.cells B.slots ∧ PostX A a q B ∧
      Steps p.tables e below (doInvoke e (A.U.setTop g) [] mk a).1 ((B.U.setTop g).pushFrame (.throwing q)))
section Payer
variable {l : Launch} {R : Room} {p : Program} {e : Env} {below : List Frame} {s : State} {sargs : Array Value} {y : MethodName} {len W9 : Nat}
theorem vx_back {ws : List Cond} {rm : Room} {Pc : Array Value → State → Prop} {Qc : Array Value → State → Outcome → State → Prop} {XC : String → State → State → Prop} {mc ms : Nat} {free : Addr → Prop} {bytes : ByteArray} {maxL : Nat} {ret : Option FieldType}
    (hM : vx_Met l y ws rm Pc Qc XC mc ms free) (hblind : FrameBlind Pc) (hrc : rm.cells = mc) (hrs : rm.slots = ms)
    (hframes : rm.frames + 1 ≤ R.frames) (hlocals : W9 + (maxL + 11) + rm.locals ≤ R.locals)
    (hws : ∀ w ∈ ws, ∀ a' U, s.WarmedH U.vm → w.before a' U = true) (hcode : Cond.code y bytes maxL ret ∈ ws) (hinit : ∀ a' U, s.WarmedH U.vm → (Cond.initialized y.cls).before a' U = true) :
    vx_Back l R p e below s sargs y len W9 (PreOf R mc ms Pc) (PostOf Qc mc ms free) (vx_Post XC mc ms free) := by
  intro m meth c A g ig mk a X hg hsize hdg hW hn hp
  have h1 : (headSpec ws rm).pre.before a A.U = true := atoms_intro fun w hw => hws w hw _ _ X.warmed
  have h2 : (Cond.code y bytes maxL ret).before a A.U = true := hws _ hcode _ _ X.warmed
  have h3 : (Cond.initialized y.cls).before a A.U = true := hinit _ _ X.warmed
  have h4 : A.cells + (headSpec ws rm).room.cells ≤ R.cells := by rw [show (headSpec ws rm).room.cells = mc from hrc]; exact hp.1
  have h5 : A.slots + (headSpec ws rm).room.slots ≤ R.slots := by rw [show (headSpec ws rm).room.slots = ms from hrs]; exact hp.2.1
  have hPc : Pc a (A.U.calling g mk a) := hblind _ _ _ _ hp.2.2
  obtain ⟨U, Ls, c0, s0⟩ := A
  dsimp only [Pt.U, Pt.locs, Pt.cells, Pt.slots] at h1 h2 h3 h4 h5 X hn hPc ⊢
  obtain ⟨methY, cY, hmY, hcY, -, hlY, -, -, -, -⟩ := Cond.code_spec hn h2
  obtain ⟨kY, hkY, -⟩ := className_of_methodNamed hn
  have hinitY : kY.init = .initialized := Cond.initialized_spec (findClass_of_methodNamed hn) hkY h3
  have h : At U g.method c below := by rw [hg]; exact X.here
  have hlocals9 : W9 + (maxL + 11) + (headSpec ws rm).room.locals ≤ R.locals := hlocals
  have happ : (headSpec ws rm).appliesLoose y e.platform (U.calling g mk a) = true :=
    Spec.appliesLoose_calling (g := g) h hdg hn hkY hinitY
      (X.room_calling (g := g) (R' := (headSpec ws rm).room) hsize hmY hcY hframes (by rw [hlY]; omega) h4 h5) h1
  obtain ⟨mid, hmid⟩ := h.above
  have hfr : (U.setTop g).frames = (.java g :: mid) ++ below := by rw [State.frames_setTop' g h.top, hmid]; rfl
  obtain ⟨o, s₂, hsteps, -, hend, hq⟩ := Steps.callFree hM p X.admits X.cas X.clock (acts := []) hfr happ hPc trivial
  have hq' : vx_Q Qc XC mc ms free a (U.calling g mk a) o s₂ := hq
  rw [State.frames_setTop' g h.top] at hend
  obtain ⟨g₀, hg0⟩ := Option.isSome_iff_exists.mp h.top
  obtain ⟨r, hr⟩ := State.topJava?_eq_some.mp hg0
  have hr' : (({ U with heap := s₂.heap, slotsUsed := s₂.slotsUsed } : State).setVm s₂.vm).frames = .java g₀ :: r := hr
  rcases hq' with ⟨hqc, L, hfe, hL⟩ | ⟨q, rfl, E, ce, L, hx, hce, hcv, hcl, hW₂, hsm, hL⟩
  · obtain ⟨⟨v, rfl⟩, hW₂, e2, q2, q3, q4, q5, q6⟩ := id hfe
    have e3 : s₂ = ({ (U.calling g mk a).setFrames s₂.frames with heap := s₂.heap, slotsUsed := s₂.slotsUsed } : State).setVm s₂.vm := by
      have : s₂ = ({ s₂ with vm := (U.calling g mk a).vm } : State).setVm s₂.vm := rfl
      rw [e2] at this
      exact this
    obtain ⟨c₂, i₂, len₂, hc₂, hd₂, hf₂⟩ := hend
    have hW' : U.WarmedH s₂.vm := hW₂
    have hcc : c₂ = c := by
      have h1 : s₂.code? g.method = U.code? g.method := by
        rw [State.code?_eq, State.code?_eq, hW'.alike.method?]
      exact Option.some.inj (hc₂.symm.trans (h1.trans h.code))
    subst hcc
    have hlen : len₂ = len := by rw [hdg] at hd₂; cases hd₂; rfl
    subst hlen
    have hs₂ : s₂ = (({ U with heap := s₂.heap, slotsUsed := s₂.slotsUsed } : State).setVm s₂.vm).setTop { g with pc := g.pc + len₂, stack := v.toList ++ g.stack } := by
      refine e3.trans ?_
      rw [hf₂, State.calling_eq h.top, State.setFrames_setFrames, State.setTop_of_frames _ hr', hr]
      rfl
    have hsame : U.sameButNew ({ U with heap := s₂.heap, slotsUsed := s₂.slotsUsed } : State) L mc ms := by
      refine ⟨?_, q2, q3, q4, q5, q6⟩
      obtain ⟨t, ht, -⟩ := State.frames_cons hr
      show ({ U with heap := s₂.heap, slotsUsed := s₂.slotsUsed } : State) = { U.setFrames U.frames with heap := s₂.heap, slotsUsed := s₂.slotsUsed }
      rw [State.setFrames_self ht]
    subst hg
    refine Or.inl ⟨v, ⟨(({ U with heap := s₂.heap, slotsUsed := s₂.slotsUsed } : State).setVm s₂.vm), Ls ++ L, c0 + mc, s0 + ms⟩,
      ⟨X.admits, X.cas, X.clock, X.frames, X.room, X.hears, X.method, X.code, (X.here.setHeapUsed s₂.heap s₂.slotsUsed).setVm hW'.alike, X.tail, State.WarmedH.trans X.warmed hW', X.limits, X.bytes, X.same.trans (hsame.setVm s.vm)⟩,
      ⟨g, mk, s₂, L, rfl, rfl, hqc, rfl, hL, rfl, rfl⟩, ?_⟩
    show Steps p.tables e below _ ((({ U with heap := s₂.heap, slotsUsed := s₂.slotsUsed } : State).setVm s₂.vm).setTop { g with pc := g.pc + len₂, stack := v.toList ++ g.stack })
    rw [← hs₂]
    exact hsteps
  · obtain ⟨e2, q2, q3, q4, q5, q6⟩ := id hsm
    have e3 : s₂ = ({ (U.calling g mk a).setFrames s₂.frames with heap := s₂.heap, slotsUsed := s₂.slotsUsed } : State).setVm s₂.vm := by
      have : s₂ = ({ s₂ with vm := (U.calling g mk a).vm } : State).setVm s₂.vm := rfl
      rw [e2] at this
      exact this
    have hf₂ : s₂.frames = .throwing q :: .java g :: U.frames.tail := hend
    have hW' : U.WarmedH s₂.vm := hW₂
    have hs₂ : s₂ = ((({ U with heap := s₂.heap, slotsUsed := s₂.slotsUsed } : State).setVm s₂.vm).setTop g).pushFrame (.throwing q) := by
      refine e3.trans ?_
      rw [hf₂, State.calling_eq h.top, State.setFrames_setFrames, State.pushFrame, State.frames_setTop _ hr', State.setTop_of_frames _ hr', State.setFrames_setFrames, hr]
      rfl
    have hsame : U.sameButNew ({ U with heap := s₂.heap, slotsUsed := s₂.slotsUsed } : State) L mc ms := by
      refine ⟨?_, q2, q3, q4, q5, q6⟩
      obtain ⟨t, ht, -⟩ := State.frames_cons hr
      show ({ U with heap := s₂.heap, slotsUsed := s₂.slotsUsed } : State) = { U.setFrames U.frames with heap := s₂.heap, slotsUsed := s₂.slotsUsed }
      rw [State.setFrames_self ht]
    subst hg
    refine Or.inr ⟨q, ⟨(({ U with heap := s₂.heap, slotsUsed := s₂.slotsUsed } : State).setVm s₂.vm), Ls ++ L, c0 + mc, s0 + ms⟩,
      ⟨X.admits, X.cas, X.clock, X.frames, X.room, X.hears, X.method, X.code, (X.here.setHeapUsed s₂.heap s₂.slotsUsed).setVm hW'.alike, X.tail, State.WarmedH.trans X.warmed hW', X.limits, X.bytes, X.same.trans (hsame.setVm s.vm)⟩,
      ⟨g, mk, s₂, L, E, ce, rfl, rfl, hx, hce, hcv, hcl, rfl, hL, rfl, rfl⟩, ?_⟩
    show Steps p.tables e below _ (((({ U with heap := s₂.heap, slotsUsed := s₂.slotsUsed } : State).setVm s₂.vm).setTop g).pushFrame (.throwing q))
    rw [← hs₂]
    exact hsteps
end Payer
section Calls
variable {p : Program} {l : Launch} {e : Env} {R : Room} {s : State} {m : MethodId} {args : Array Value} {below : List Frame} {meth : Method} {c : Code} {T : State} {locs : List Loc} {cells slots : Nat}
theorem vx_callV (X : Stand p l e R s m args below meth c T locs cells slots) (hexec : p.tables.exec = Jvm.exec) {own C : String} {index : Nat} {y : MethodName} {bytes : ByteArray} {maxL : Nat} {ret : Option FieldType}
    (hown : s.vm.findClass own = some m.cls) (hlink : (Cond.methodLink own index y).before args s = true) (hinst : (Cond.instanceMethod y).before args s = true) (hsel : (Cond.selects C y y).before args s = true)
    (hcode : (Cond.code y bytes maxL ret).before args s = true) (hy : y.cls ≠ "java/lang/invoke/MethodHandle" ∧ y.cls ≠ "java/lang/invoke/VarHandle")
    {W9 : Nat} {Pre : Pt → Array Value → Prop} {Post : Pt → Array Value → Option Value → Pt → Prop} {PostX : Pt → Array Value → Addr → Pt → Prop} (hK : vx_Back l R p e below s args y 3 W9 Pre Post PostX)
    {b : Addr} {cellB : Cell} (hcell : T.heap[b]? = some cellB) (hobj : cellB.vm.isStatics = false) (hcls : s.vm.findClass C = some cellB.cls)
    {g : JFrame} (hg : g.method = m) (hsize : g.locals.size = c.maxLocals) {argsL rest : List Value} (hlen : ∀ sig, parseMethodDescriptor y.desc = some sig → argsL.length = sig.parameters.length)
    (hstack : g.stack = argsL.reverse ++ .ref b :: rest) (hW : 2 * g.monitorRoom + (rest.map fun v => v.category).sum ≤ W9) (hdg : decode c.code g.pc = .ok (.invokevirtual index, 3))
    (hpre : ∀ vm₁, s.WarmedH vm₁ → Pre ⟨T.setVm vm₁, locs, cells, slots⟩ (Value.ref b :: argsL).toArray) :
    (∃ (v : Option Value) (vm₁ : Vm) (B : Pt), s.WarmedH vm₁ ∧ Stand p l e R s m args below meth c B.U B.locs B.cells B.slots ∧ Post ⟨T.setVm vm₁, locs, cells, slots⟩ (Value.ref b :: argsL).toArray v B ∧
      ∀ target, Steps p.tables e below (B.U.setTop { g with pc := g.pc + 3, stack := v.toList ++ rest }) target → Steps p.tables e below (T.setTop g) target) ∨
    (∃ (q : Addr) (vm₁ : Vm) (B : Pt), s.WarmedH vm₁ ∧ Stand p l e R s m args below meth c B.U B.locs B.cells B.slots ∧ PostX ⟨T.setVm vm₁, locs, cells, slots⟩ (Value.ref b :: argsL).toArray q B ∧
      Steps p.tables e below (T.setTop g) ((B.U.setTop { g with stack := rest }).pushFrame (.throwing q))) := by
  obtain ⟨mk, methM, hnamed, hmethM, hstM, habM⟩ := Cond.instanceMethod_spec hinst
  obtain ⟨methM', cM, hmethM', -, -, -, -, -, -, hsigM⟩ := Cond.code_spec hnamed hcode
  cases hmethM.symm.trans hmethM'
  obtain ⟨c2, r2, m2, q1, q2, q3, q4, kP, hkP, hkPi⟩ := Cond.selects_spec hsel
  cases hcls.symm.trans q1
  cases (State.methodFound?_of_named hnamed hy).symm.trans q2
  cases hnamed.symm.trans q3
  have hselP : selectMethod e.platform s.vm cellB.cls mk = .method mk := by rw [Launch.admits_selectMethod X.admits]; exact q4
  obtain ⟨vm₁, X₁, hstep₁⟩ := X.invokevirtual hexec hown hlink hnamed hmethM hstM hkP hkPi hy (a := b) (cell := cellB) hcell
    (fun z h => by rw [h] at hobj; cases hobj) hselP hmethM habM hkP hkPi (g := g) hg (argsL := argsL) (rest := rest) (hlen _ hsigM) hstack hdg
  rcases hK m meth c ⟨T.setVm vm₁, locs, cells, slots⟩ { g with stack := rest } (.invokevirtual index) mk (Value.ref b :: argsL).toArray X₁ hg hsize hdg hW (X₁.named hnamed) (hpre vm₁ X₁.warmed) with ⟨v, B, X', hpost, hsteps⟩ | ⟨q, B, X', hpost, hsteps⟩
  · exact Or.inl ⟨v, vm₁, B, X₁.warmed, X', hpost, fun target h => hstep₁ _ fun acts => by rw [doInvoke_state]; exact hsteps.trans h⟩
  · exact Or.inr ⟨q, vm₁, B, X₁.warmed, X', hpost, hstep₁ _ fun acts => by rw [doInvoke_state]; exact hsteps⟩
theorem vx_callS (X : Stand p l e R s m args below meth c T locs cells slots) (hexec : p.tables.exec = Jvm.exec) {own : String} {index : Nat} {y : MethodName} {bytes : ByteArray} {maxL : Nat} {ret : Option FieldType}
    (hown : s.vm.findClass own = some m.cls) (hlink : (Cond.methodLink own index y).before args s = true) (hstat : (Cond.static y).before args s = true) (hinit : (Cond.initialized y.cls).before args s = true)
    (hcode : (Cond.code y bytes maxL ret).before args s = true) (hy : y.cls ≠ "java/lang/invoke/MethodHandle" ∧ y.cls ≠ "java/lang/invoke/VarHandle")
    {W9 : Nat} {Pre : Pt → Array Value → Prop} {Post : Pt → Array Value → Option Value → Pt → Prop} {PostX : Pt → Array Value → Addr → Pt → Prop} (hK : vx_Back l R p e below s args y 3 W9 Pre Post PostX)
    {g : JFrame} (hg : g.method = m) (hsize : g.locals.size = c.maxLocals) {argsL rest : List Value} (hlen : ∀ sig, parseMethodDescriptor y.desc = some sig → argsL.length = sig.parameters.length)
    (hstack : g.stack = argsL.reverse ++ rest) (hW : 2 * g.monitorRoom + (rest.map fun v => v.category).sum ≤ W9) (hdg : decode c.code g.pc = .ok (.invokestatic index, 3))
    (hpre : ∀ vm₁, s.WarmedH vm₁ → Pre ⟨T.setVm vm₁, locs, cells, slots⟩ argsL.toArray) :
    (∃ (v : Option Value) (vm₁ : Vm) (B : Pt), s.WarmedH vm₁ ∧ Stand p l e R s m args below meth c B.U B.locs B.cells B.slots ∧ Post ⟨T.setVm vm₁, locs, cells, slots⟩ argsL.toArray v B ∧
      ∀ target, Steps p.tables e below (B.U.setTop { g with pc := g.pc + 3, stack := v.toList ++ rest }) target → Steps p.tables e below (T.setTop g) target) ∨
    (∃ (q : Addr) (vm₁ : Vm) (B : Pt), s.WarmedH vm₁ ∧ Stand p l e R s m args below meth c B.U B.locs B.cells B.slots ∧ PostX ⟨T.setVm vm₁, locs, cells, slots⟩ argsL.toArray q B ∧
      Steps p.tables e below (T.setTop g) ((B.U.setTop { g with stack := rest }).pushFrame (.throwing q))) := by
  obtain ⟨mk, hnamed⟩ := Cond.code_named hcode
  obtain ⟨methM, cM, hmethM, -, -, -, -, -, -, hsigM⟩ := Cond.code_spec hnamed hcode
  have hstatic : methM.isStatic = true := Cond.static_spec hnamed hmethM hstat
  obtain ⟨kP, hkP, -⟩ := className_of_methodNamed hnamed
  have hinitP : kP.init = .initialized := Cond.initialized_spec (findClass_of_methodNamed hnamed) hkP hinit
  obtain ⟨vm₁, X₁, hstep₁⟩ := X.invokestatic hexec hown hlink hnamed hmethM hstatic hkP hinitP hy (g := g) hg (argsL := argsL) (rest := rest) (hlen _ hsigM) hstack hdg
  rcases hK m meth c ⟨T.setVm vm₁, locs, cells, slots⟩ { g with stack := rest } (.invokestatic index) mk argsL.toArray X₁ hg hsize hdg hW (X₁.named hnamed) (hpre vm₁ X₁.warmed) with ⟨v, B, X', hpost, hsteps⟩ | ⟨q, B, X', hpost, hsteps⟩
  · exact Or.inl ⟨v, vm₁, B, X₁.warmed, X', hpost, fun target h => hstep₁ _ fun acts => by rw [doInvoke_state]; exact hsteps.trans h⟩
  · exact Or.inr ⟨q, vm₁, B, X₁.warmed, X', hpost, hstep₁ _ fun acts => by rw [doInvoke_state]; exact hsteps⟩
end Calls
theorem vx_cls {s : State} {T : State} {vm₁ : Vm} {E : String} {k : ClassId} (hW : s.WarmedH vm₁) (h : (T.setVm vm₁).vm.findClass E = some k) : s.vm.findClass E = some k := by
  have h1 : vm₁.findClass E = some k := h
  rw [hW.alike.findClass] at h1
  exact h1
/-- the method's frame g, with q thrown over it -/
def vx_W (p : Program) (l : Launch) (e : Env) (R : Room) (s : State) (m : MethodId) (args : Array Value) (below : List Frame) (meth : Method) (c : Code) (H : Heap) (locs : List Loc) (cells slots : Nat) (Q : State → Prop) (g : JFrame) (q : Addr) : Prop :=
  ∀ T : State, T.heap = H → Stand p l e R s m args below meth c T locs cells slots → ∃ t, Steps p.tables e below ((T.setTop g).pushFrame (.throwing q)) t ∧ Q t
def vx_Run (p : Program) (l : Launch) (e : Env) (R : Room) (s : State) (m : MethodId) (args : Array Value) (below : List Frame) (meth : Method) (c : Code) (H : Heap) (locs : List Loc) (cells slots mc ms : Nat) (g : JFrame) (rest : List Value) (Qa : State → Outcome → State → Prop) (XC : String → State → State → Prop) (free : Addr → Prop) : Prop :=
  ∀ T : State, T.heap = H → Stand p l e R s m args below meth c T locs cells slots →
    (∃ (v : Option Value) (st₀ t T' : State) (L : List Loc), st₀.heap = H ∧ Stand p l e R s m args below meth c T' (locs ++ L) (cells + mc) (slots + ms) ∧ (∀ q ∈ L, free q.base) ∧ T'.heap = t.heap ∧ T'.vm = t.vm ∧ Qa st₀ (.returned v) t ∧
      Goes p e below T g T' { g with pc := g.pc + 3, stack := v.toList ++ rest }) ∨
    (∃ (q : Addr) (st₀ t T' : State) (L : List Loc) (E : String) (ce : Cell), st₀.heap = H ∧ Stand p l e R s m args below meth c T' (locs ++ L) (cells + mc) (slots + ms) ∧ (∀ z ∈ L, free z.base) ∧ T'.heap = t.heap ∧ T'.vm = t.vm ∧ XC E st₀ t ∧ t.heap[q]? = some ce ∧ ce.vm = .none ∧ s.vm.findClass E = some ce.cls ∧
      Steps p.tables e below (T.setTop g) ((T'.setTop { g with stack := rest }).pushFrame (.throwing q)))
def vx_X {S : Type} (px : S → Prop) (B : String → S → State → Prop) (A : Nat → Prop) : String → State → State → Prop := fun E st t => ∃ u : S, px u ∧ B E u t ∧ va_F A st t
section Runs
variable {p : Program} {l : Launch} {e : Env} {R : Room} {s : State} {m : MethodId} {args : Array Value} {below : List Frame} {meth : Method} {c : Code} {H : Heap} {locs : List Loc} {cells slots : Nat}
variable {y : MethodName} {bytes cc : ByteArray} {maxL nL mc ms n index : Nat} {ret : Option FieldType} {ws : List Cond} {rm : Room} {Pc : Array Value → State → Prop} {Qc : Array Value → State → Outcome → State → Prop} {XC : String → State → State → Prop} {free : Addr → Prop} {Ts : List Cond} {own C : String} {b : Addr} {As rest : List Value} {g : JFrame}
theorem vx_callBack (cb : CallB R s args own index y bytes maxL ret ws rm mc ms n) (hM : vx_Met l y ws rm Pc Qc XC mc ms free) (hbl : FrameBlind Pc) : vx_Back l R p e below s args y 3 8 (PreOf R mc ms Pc) (PostOf Qc mc ms free) (vx_Post XC mc ms free) := by
  obtain ⟨hrc, hrs, hfr, hlo, hws, hcw, -, hini, -⟩ := cb
  exact vx_back (bytes := bytes) (maxL := maxL) (ret := ret) hM hbl hrc hrs hfr hlo hws hcw (fun a' U hW => word_at hW (Or.inl (by first | rfl | simp [Cond.onTables, Cond.keeps, Cond.steady])) hini)
theorem vx_runV (S : CallFix p m c cc nL s args Ts own) (hM : vx_Met l y ws rm Pc Qc XC mc ms free) (cw : CallW R s args own C index y bytes maxL ret ws rm mc ms n) (hp : PreV s H C b Pc As)
    (hg : g.method = m) (hn : As.length = n) (hsize : g.locals.size = nL) (hstack : g.stack = As.reverse ++ .ref b :: rest) (hW : 2 * g.monitorRoom + (rest.map fun v => v.category).sum ≤ 8) (hdg : decode cc g.pc = .ok (.invokevirtual index, 3)) (hf : cells + mc ≤ R.cells ∧ slots + ms ≤ R.slots) :
    vx_Run p l e R s m args below meth c H locs cells slots mc ms g rest (Qc (Value.ref b :: As).toArray) XC free := by
  have hK : vx_Back l R p e below s args y 3 8 (PreOf R mc ms Pc) (PostOf Qc mc ms free) (vx_Post XC mc ms free) := vx_callBack cw.1 hM hp.1
  obtain ⟨⟨-, -, -, -, -, -, hcode, -, hy, hlen, hl⟩, hin, hse⟩ := cw
  obtain ⟨hx, hb, hml, ho, -⟩ := S
  obtain ⟨-, ⟨cellB, hcB, hoB, hclB⟩, hPc⟩ := hp
  intro T hT X
  rcases vx_callV X hx (C := C) (bytes := bytes) (maxL := maxL) (ret := ret) ho hl hin hse hcode hy hK (by rw [hT]; exact hcB) hoB hclB hg (hsize.trans hml.symm) (argsL := As) (rest := rest) (fun sig h => hn.trans (hlen sig h)) hstack hW (by rw [hb]; exact hdg)
    (fun vm₁ hW₁ => ⟨hf.1, hf.2, hPc (T.setVm vm₁) hT hW₁⟩) with ⟨v, vm₁, ⟨U', l2, c2, s2⟩, hW₁, X', ⟨g', mk, t, L, e1, e2, hq, h1, hL, h2, h3⟩, st⟩ | ⟨q, vm₁, ⟨U', l2, c2, s2⟩, hW₁, X', ⟨g', mk, t, L, E, ce, e1, e2, hq, hce, hcv, hcl, h1, hL, h2, h3⟩, st⟩
  · dsimp only [Pt.U, Pt.locs, Pt.cells, Pt.slots] at X' e1 e2 h1 h2 h3 st
    subst h1; subst h2; subst h3
    exact Or.inl ⟨v, (T.setVm vm₁).calling g' mk (Value.ref b :: As).toArray, t, U', L, hT, X', hL, e1, e2, hq, st⟩
  · dsimp only [Pt.U, Pt.locs, Pt.cells, Pt.slots] at X' e1 e2 h1 h2 h3 st hcl
    subst h1; subst h2; subst h3
    exact Or.inr ⟨q, (T.setVm vm₁).calling g' mk (Value.ref b :: As).toArray, t, U', L, E, ce, hT, X', hL, e1, e2, hq, hce, hcv, vx_cls hW₁ hcl, st⟩
theorem vx_runS (S : CallFix p m c cc nL s args Ts own) (hM : vx_Met l y ws rm Pc Qc XC mc ms free) (cw : CallB R s args own index y bytes maxL ret ws rm mc ms n ∧ (Cond.static y).before args s = true) (hp : PreS s H Pc As)
    (hg : g.method = m) (hn : As.length = n) (hsize : g.locals.size = nL) (hstack : g.stack = As.reverse ++ rest) (hW : 2 * g.monitorRoom + (rest.map fun v => v.category).sum ≤ 8) (hdg : decode cc g.pc = .ok (.invokestatic index, 3)) (hf : cells + mc ≤ R.cells ∧ slots + ms ≤ R.slots) :
    vx_Run p l e R s m args below meth c H locs cells slots mc ms g rest (Qc As.toArray) XC free := by
  have hK : vx_Back l R p e below s args y 3 8 (PreOf R mc ms Pc) (PostOf Qc mc ms free) (vx_Post XC mc ms free) := vx_callBack cw.1 hM hp.1
  obtain ⟨⟨-, -, -, -, -, -, hcode, hini, hy, hlen, hl⟩, hstt⟩ := cw
  obtain ⟨hx, hb, hml, ho, -⟩ := S
  intro T hT X
  rcases vx_callS X hx (bytes := bytes) (maxL := maxL) (ret := ret) ho hl hstt hini hcode hy hK hg (hsize.trans hml.symm) (argsL := As) (rest := rest) (fun sig h => hn.trans (hlen sig h)) hstack hW (by rw [hb]; exact hdg)
    (fun vm₁ hW₁ => ⟨hf.1, hf.2, hp.2 (T.setVm vm₁) hT hW₁⟩) with ⟨v, vm₁, ⟨U', l2, c2, s2⟩, hW₁, X', ⟨g', mk, t, L, e1, e2, hq, h1, hL, h2, h3⟩, st⟩ | ⟨q, vm₁, ⟨U', l2, c2, s2⟩, hW₁, X', ⟨g', mk, t, L, E, ce, e1, e2, hq, hce, hcv, hcl, h1, hL, h2, h3⟩, st⟩
  · dsimp only [Pt.U, Pt.locs, Pt.cells, Pt.slots] at X' e1 e2 h1 h2 h3 st
    subst h1; subst h2; subst h3
    exact Or.inl ⟨v, (T.setVm vm₁).calling g' mk As.toArray, t, U', L, hT, X', hL, e1, e2, hq, st⟩
  · dsimp only [Pt.U, Pt.locs, Pt.cells, Pt.slots] at X' e1 e2 h1 h2 h3 st hcl
    subst h1; subst h2; subst h3
    exact Or.inr ⟨q, (T.setVm vm₁).calling g' mk As.toArray, t, U', L, E, ce, hT, X', hL, e1, e2, hq, hce, hcv, vx_cls hW₁ hcl, st⟩
end Runs
section Rows
variable {p : Program} {l : Launch} {e : Env} {R : Room} {s : State} {m : MethodId} {args : Array Value} {below : List Frame} {meth : Method} {c : Code} {H : Heap} {locs : List Loc} {cells slots : Nat} {Q : State → Prop}
variable {mc ms : Nat} {free : Addr → Prop} {A0 A1 : Nat → Prop} {H0 : Heap} {a : Array Value} {pc : Nat} {ls : Array Slot} {st0 rest : List Value}
theorem vx_keep {st₀ t T' : State} {L : List Loc} (h0 : st₀.heap = H) (e1 : T'.heap = t.heap) (hS : va_S A0 H0 H locs) (hA : ∀ q, q < H.size → A1 q → A0 q) (hf : ∀ q, free q → A0 q) (hL : ∀ q ∈ L, free q.base) (hF : va_F A1 st₀ t) :
    H.size ≤ T'.heap.size ∧ (∀ q : Nat, q < H.size → ¬ A1 q → T'.heap[q]? = H[q]?) ∧ va_S A0 H0 T'.heap (locs ++ L) := by
  obtain ⟨hz, hk⟩ := hF
  rw [h0] at hz hk
  exact ⟨by rw [e1]; exact hz, fun q h1 h2 => by rw [e1]; exact hk q h1 h2,
    ⟨Nat.le_trans hS.1 (by rw [e1]; exact hz), fun q h1 h2 => by rw [e1, hk q (Nat.lt_of_lt_of_le h1 hS.1) (fun z => h2 (hA q (Nat.lt_of_lt_of_le h1 hS.1) z))]; exact hS.2.1 q h1 h2, fun q hq => by
      rcases List.mem_append.mp hq with h | h
      · exact hS.2.2 q h
      · exact hf _ (hL q h)⟩⟩
theorem vx_calli {S SX : Type} {post : Int32 → S → Prop} {px : SX → Prop} {B : S → State → Prop} {BX : String → SX → State → Prop} {AX : Nat → Prop} (hr : vx_Run p l e R s m args below meth c H locs cells slots mc ms (F0 m pc ls st0) rest (va_Qi post B A1 a) (vx_X px BX AX) free) (hS : va_S A0 H0 H locs) (hA : ∀ q, q < H.size → A1 q → A0 q) (hf : ∀ q, free q → A0 q) (hAX : ∀ q, q < H.size → AX q → A0 q)
    (kx : ∀ (E : String) (ce : Cell) (q9 : Addr) (u : SX) (t : State) (H1 : Heap) (locs1 : List Loc), t.heap = H1 → s.vm.Alike t.vm → px u → BX E u t → H.size ≤ H1.size → (∀ q : Nat, q < H.size → ¬ AX q → H1[q]? = H[q]?) → va_S A0 H0 H1 locs1 → H1[q9]? = some ce → ce.vm = .none → s.vm.findClass E = some ce.cls → vx_W p l e R s m args below meth c H1 locs1 (cells + mc) (slots + ms) Q (F0 m pc ls rest) q9)
    (kk : ∀ (r : Int32) (u : S) (t : State) (H1 : Heap) (locs1 : List Loc), t.heap = H1 → s.vm.Alike t.vm → post r u → B u t → H.size ≤ H1.size → (∀ q : Nat, q < H.size → ¬ A1 q → H1[q]? = H[q]?) → va_S A0 H0 H1 locs1 → W p l e R s m args below meth c H1 locs1 (cells + mc) (slots + ms) Q (F0 m (pc + 3) ls (.int r :: rest))) : W p l e R s m args below meth c H locs cells slots Q (F0 m pc ls st0) := by
  intro T hT X
  rcases hr T hT X with ⟨v, st₀, t, T', L, h0, X', hL, e1, e2, ⟨⟨r, u, hv, hp, hb⟩, hF⟩, st⟩ | ⟨q, st₀, t, T', L, E, ce, h0, X', hL, e1, e2, ⟨u, hp, hb, hF⟩, hce, hcv, hcl, st⟩
  · cases hv
    obtain ⟨k1, k2, k3⟩ := vx_keep h0 e1 hS hA hf hL hF
    obtain ⟨t2, a1, b1⟩ := kk r u t T'.heap (locs ++ L) e1.symm (by rw [← e2]; exact X'.warmed.alike) hp hb k1 k2 k3 T' rfl X'
    exact ⟨t2, st t2 a1, b1⟩
  · obtain ⟨k1, k2, k3⟩ := vx_keep h0 e1 hS hAX hf hL hF
    obtain ⟨t2, a1, b1⟩ := kx E ce q u t T'.heap (locs ++ L) e1.symm (by rw [← e2]; exact X'.warmed.alike) hp hb k1 k2 k3 (by rw [e1]; exact hce) hcv hcl T' rfl X'
    exact ⟨t2, st.trans a1, b1⟩
theorem vx_calll {S SX : Type} {post : Int64 → S → Prop} {px : SX → Prop} {B : S → State → Prop} {BX : String → SX → State → Prop} {AX : Nat → Prop} (hr : vx_Run p l e R s m args below meth c H locs cells slots mc ms (F0 m pc ls st0) rest (va_Ql post B A1 a) (vx_X px BX AX) free) (hS : va_S A0 H0 H locs) (hA : ∀ q, q < H.size → A1 q → A0 q) (hf : ∀ q, free q → A0 q) (hAX : ∀ q, q < H.size → AX q → A0 q)
    (kx : ∀ (E : String) (ce : Cell) (q9 : Addr) (u : SX) (t : State) (H1 : Heap) (locs1 : List Loc), t.heap = H1 → s.vm.Alike t.vm → px u → BX E u t → H.size ≤ H1.size → (∀ q : Nat, q < H.size → ¬ AX q → H1[q]? = H[q]?) → va_S A0 H0 H1 locs1 → H1[q9]? = some ce → ce.vm = .none → s.vm.findClass E = some ce.cls → vx_W p l e R s m args below meth c H1 locs1 (cells + mc) (slots + ms) Q (F0 m pc ls rest) q9)
    (kk : ∀ (r : Int64) (u : S) (t : State) (H1 : Heap) (locs1 : List Loc), t.heap = H1 → s.vm.Alike t.vm → post r u → B u t → H.size ≤ H1.size → (∀ q : Nat, q < H.size → ¬ A1 q → H1[q]? = H[q]?) → va_S A0 H0 H1 locs1 → W p l e R s m args below meth c H1 locs1 (cells + mc) (slots + ms) Q (F0 m (pc + 3) ls (.long r :: rest))) : W p l e R s m args below meth c H locs cells slots Q (F0 m pc ls st0) := by
  intro T hT X
  rcases hr T hT X with ⟨v, st₀, t, T', L, h0, X', hL, e1, e2, ⟨⟨r, u, hv, hp, hb⟩, hF⟩, st⟩ | ⟨q, st₀, t, T', L, E, ce, h0, X', hL, e1, e2, ⟨u, hp, hb, hF⟩, hce, hcv, hcl, st⟩
  · cases hv
    obtain ⟨k1, k2, k3⟩ := vx_keep h0 e1 hS hA hf hL hF
    obtain ⟨t2, a1, b1⟩ := kk r u t T'.heap (locs ++ L) e1.symm (by rw [← e2]; exact X'.warmed.alike) hp hb k1 k2 k3 T' rfl X'
    exact ⟨t2, st t2 a1, b1⟩
  · obtain ⟨k1, k2, k3⟩ := vx_keep h0 e1 hS hAX hf hL hF
    obtain ⟨t2, a1, b1⟩ := kx E ce q u t T'.heap (locs ++ L) e1.symm (by rw [← e2]; exact X'.warmed.alike) hp hb k1 k2 k3 (by rw [e1]; exact hce) hcv hcl T' rfl X'
    exact ⟨t2, st.trans a1, b1⟩
theorem vx_callf {S SX : Type} {post : UInt32 → S → Prop} {px : SX → Prop} {B : S → State → Prop} {BX : String → SX → State → Prop} {AX : Nat → Prop} (hr : vx_Run p l e R s m args below meth c H locs cells slots mc ms (F0 m pc ls st0) rest (va_Qf post B A1 a) (vx_X px BX AX) free) (hS : va_S A0 H0 H locs) (hA : ∀ q, q < H.size → A1 q → A0 q) (hf : ∀ q, free q → A0 q) (hAX : ∀ q, q < H.size → AX q → A0 q)
    (kx : ∀ (E : String) (ce : Cell) (q9 : Addr) (u : SX) (t : State) (H1 : Heap) (locs1 : List Loc), t.heap = H1 → s.vm.Alike t.vm → px u → BX E u t → H.size ≤ H1.size → (∀ q : Nat, q < H.size → ¬ AX q → H1[q]? = H[q]?) → va_S A0 H0 H1 locs1 → H1[q9]? = some ce → ce.vm = .none → s.vm.findClass E = some ce.cls → vx_W p l e R s m args below meth c H1 locs1 (cells + mc) (slots + ms) Q (F0 m pc ls rest) q9)
    (kk : ∀ (r : UInt32) (u : S) (t : State) (H1 : Heap) (locs1 : List Loc), t.heap = H1 → s.vm.Alike t.vm → post r u → B u t → H.size ≤ H1.size → (∀ q : Nat, q < H.size → ¬ A1 q → H1[q]? = H[q]?) → va_S A0 H0 H1 locs1 → W p l e R s m args below meth c H1 locs1 (cells + mc) (slots + ms) Q (F0 m (pc + 3) ls (.float r :: rest))) : W p l e R s m args below meth c H locs cells slots Q (F0 m pc ls st0) := by
  intro T hT X
  rcases hr T hT X with ⟨v, st₀, t, T', L, h0, X', hL, e1, e2, ⟨⟨r, u, hv, hp, hb⟩, hF⟩, st⟩ | ⟨q, st₀, t, T', L, E, ce, h0, X', hL, e1, e2, ⟨u, hp, hb, hF⟩, hce, hcv, hcl, st⟩
  · cases hv
    obtain ⟨k1, k2, k3⟩ := vx_keep h0 e1 hS hA hf hL hF
    obtain ⟨t2, a1, b1⟩ := kk r u t T'.heap (locs ++ L) e1.symm (by rw [← e2]; exact X'.warmed.alike) hp hb k1 k2 k3 T' rfl X'
    exact ⟨t2, st t2 a1, b1⟩
  · obtain ⟨k1, k2, k3⟩ := vx_keep h0 e1 hS hAX hf hL hF
    obtain ⟨t2, a1, b1⟩ := kx E ce q u t T'.heap (locs ++ L) e1.symm (by rw [← e2]; exact X'.warmed.alike) hp hb k1 k2 k3 (by rw [e1]; exact hce) hcv hcl T' rfl X'
    exact ⟨t2, st.trans a1, b1⟩
theorem vx_calld {S SX : Type} {post : UInt64 → S → Prop} {px : SX → Prop} {B : S → State → Prop} {BX : String → SX → State → Prop} {AX : Nat → Prop} (hr : vx_Run p l e R s m args below meth c H locs cells slots mc ms (F0 m pc ls st0) rest (va_Qd post B A1 a) (vx_X px BX AX) free) (hS : va_S A0 H0 H locs) (hA : ∀ q, q < H.size → A1 q → A0 q) (hf : ∀ q, free q → A0 q) (hAX : ∀ q, q < H.size → AX q → A0 q)
    (kx : ∀ (E : String) (ce : Cell) (q9 : Addr) (u : SX) (t : State) (H1 : Heap) (locs1 : List Loc), t.heap = H1 → s.vm.Alike t.vm → px u → BX E u t → H.size ≤ H1.size → (∀ q : Nat, q < H.size → ¬ AX q → H1[q]? = H[q]?) → va_S A0 H0 H1 locs1 → H1[q9]? = some ce → ce.vm = .none → s.vm.findClass E = some ce.cls → vx_W p l e R s m args below meth c H1 locs1 (cells + mc) (slots + ms) Q (F0 m pc ls rest) q9)
    (kk : ∀ (r : UInt64) (u : S) (t : State) (H1 : Heap) (locs1 : List Loc), t.heap = H1 → s.vm.Alike t.vm → post r u → B u t → H.size ≤ H1.size → (∀ q : Nat, q < H.size → ¬ A1 q → H1[q]? = H[q]?) → va_S A0 H0 H1 locs1 → W p l e R s m args below meth c H1 locs1 (cells + mc) (slots + ms) Q (F0 m (pc + 3) ls (.double r :: rest))) : W p l e R s m args below meth c H locs cells slots Q (F0 m pc ls st0) := by
  intro T hT X
  rcases hr T hT X with ⟨v, st₀, t, T', L, h0, X', hL, e1, e2, ⟨⟨r, u, hv, hp, hb⟩, hF⟩, st⟩ | ⟨q, st₀, t, T', L, E, ce, h0, X', hL, e1, e2, ⟨u, hp, hb, hF⟩, hce, hcv, hcl, st⟩
  · cases hv
    obtain ⟨k1, k2, k3⟩ := vx_keep h0 e1 hS hA hf hL hF
    obtain ⟨t2, a1, b1⟩ := kk r u t T'.heap (locs ++ L) e1.symm (by rw [← e2]; exact X'.warmed.alike) hp hb k1 k2 k3 T' rfl X'
    exact ⟨t2, st t2 a1, b1⟩
  · obtain ⟨k1, k2, k3⟩ := vx_keep h0 e1 hS hAX hf hL hF
    obtain ⟨t2, a1, b1⟩ := kx E ce q u t T'.heap (locs ++ L) e1.symm (by rw [← e2]; exact X'.warmed.alike) hp hb k1 k2 k3 (by rw [e1]; exact hce) hcv hcl T' rfl X'
    exact ⟨t2, st.trans a1, b1⟩
theorem vx_callv {S SX : Type} {post : S → Prop} {px : SX → Prop} {B : S → State → Prop} {BX : String → SX → State → Prop} {AX : Nat → Prop} (hr : vx_Run p l e R s m args below meth c H locs cells slots mc ms (F0 m pc ls st0) rest (va_Qv post B A1 a) (vx_X px BX AX) free) (hS : va_S A0 H0 H locs) (hA : ∀ q, q < H.size → A1 q → A0 q) (hf : ∀ q, free q → A0 q) (hAX : ∀ q, q < H.size → AX q → A0 q)
    (kx : ∀ (E : String) (ce : Cell) (q9 : Addr) (u : SX) (t : State) (H1 : Heap) (locs1 : List Loc), t.heap = H1 → s.vm.Alike t.vm → px u → BX E u t → H.size ≤ H1.size → (∀ q : Nat, q < H.size → ¬ AX q → H1[q]? = H[q]?) → va_S A0 H0 H1 locs1 → H1[q9]? = some ce → ce.vm = .none → s.vm.findClass E = some ce.cls → vx_W p l e R s m args below meth c H1 locs1 (cells + mc) (slots + ms) Q (F0 m pc ls rest) q9)
    (kk : ∀ (u : S) (t : State) (H1 : Heap) (locs1 : List Loc), t.heap = H1 → s.vm.Alike t.vm → post u → B u t → H.size ≤ H1.size → (∀ q : Nat, q < H.size → ¬ A1 q → H1[q]? = H[q]?) → va_S A0 H0 H1 locs1 → W p l e R s m args below meth c H1 locs1 (cells + mc) (slots + ms) Q (F0 m (pc + 3) ls (rest))) : W p l e R s m args below meth c H locs cells slots Q (F0 m pc ls st0) := by
  intro T hT X
  rcases hr T hT X with ⟨v, st₀, t, T', L, h0, X', hL, e1, e2, ⟨⟨u, hv, hp, hb⟩, hF⟩, st⟩ | ⟨q, st₀, t, T', L, E, ce, h0, X', hL, e1, e2, ⟨u, hp, hb, hF⟩, hce, hcv, hcl, st⟩
  · cases hv
    obtain ⟨k1, k2, k3⟩ := vx_keep h0 e1 hS hA hf hL hF
    obtain ⟨t2, a1, b1⟩ := kk u t T'.heap (locs ++ L) e1.symm (by rw [← e2]; exact X'.warmed.alike) hp hb k1 k2 k3 T' rfl X'
    exact ⟨t2, st t2 a1, b1⟩
  · obtain ⟨k1, k2, k3⟩ := vx_keep h0 e1 hS hAX hf hL hF
    obtain ⟨t2, a1, b1⟩ := kx E ce q u t T'.heap (locs ++ L) e1.symm (by rw [← e2]; exact X'.warmed.alike) hp hb k1 k2 k3 (by rw [e1]; exact hce) hcv hcl T' rfl X'
    exact ⟨t2, st.trans a1, b1⟩
/-- caught by the row x of this method's table; the rows ahead don't take it -/
theorem vx_catch {own name : String} {E : String} {ce : Cell} {q : Addr} (hown : s.vm.findClass own = some m.cls) (pre : List ExceptionTableEntry) (x : ExceptionTableEntry) (suf : List ExceptionTableEntry) (hsplit : c.exceptionTable.toList = pre ++ x :: suf)
    (hpass : ∀ z ∈ pre, covers z pc = false ∨ (z.catchType ≠ 0 ∧ ∃ nm : String, (Cond.classLink own z.catchType nm).before args s = true ∧ va_Nc E nm s)) (hx : covers x pc = true) (h0 : x.catchType ≠ 0)
    (hlink : (Cond.classLink own x.catchType name).before args s = true) (hcast : (Cond.castable E name).before args s = true) (hcell : H[q]? = some ce) (hv : ce.vm = .none) (hcl : s.vm.findClass E = some ce.cls)
    (kk : W p l e R s m args below meth c H locs cells slots Q (F0 m x.handlerPc ls [.ref q])) : vx_W p l e R s m args below meth c H locs cells slots Q (F0 m pc ls rest) q := by
  intro T hT X
  have hpl : e.platform.magicAccessors = ({} : Platform).magicAccessors := by rw [X.admits.platform]
  obtain ⟨c3, c4, hc3, hc4, hasg⟩ := Cond.castable_spec hcast
  cases Option.some.inj (hc3.symm.trans hcl)
  obtain ⟨c5, hc5, hcl5⟩ := Cond.classLink_spec hown hlink e.platform hpl
  cases Option.some.inj (hc4.symm.trans hc5)
  obtain ⟨vm', X', st⟩ := X.thenCaughtThrough q (g := F0 m pc ls rest) rfl (Steps.refl _) (by rw [hT]; exact hcell) (by rw [hv]; rfl) (by obtain ⟨k9, h9, -⟩ := Vm.findClass_spec hcl; exact ⟨k9, h9⟩) pre x suf hsplit
    (fun z hz => by
      rcases hpass z hz with h | ⟨hz0, nm, hl1, hn1⟩
      · exact Or.inl h
      · obtain ⟨c6, hc6, hcl6⟩ := Cond.classLink_spec hown hl1 e.platform hpl
        obtain ⟨a8, b8, h1, h2, h3⟩ := hn1
        cases Option.some.inj (h1.symm.trans hcl)
        cases Option.some.inj (h2.symm.trans hc6)
        exact Or.inr ⟨hz0, _, hcl6, h3⟩) hx (Or.inr ⟨h0, c4, hcl5, hasg⟩)
  obtain ⟨t, a1, b1⟩ := kk (T.setVm vm') hT X'
  exact ⟨t, st.trans a1, b1⟩
end Rows
section Ends
variable {p : Program} {l : Launch} {e : Env} {R : Room} {s : State} {m : MethodId} {args : Array Value} {below : List Frame} {meth : Method} {c : Code} {H : Heap} {locs : List Loc} {cells slots : Nat} {Q : State → Prop}
variable {mc ms : Nat} {free : Addr → Prop} {A0 A1 : Nat → Prop} {H0 : Heap} {a : Array Value} {ls : Array Slot} {st0 rest : List Value}
variable {Qc : Array Value → State → Outcome → State → Prop} {XC : String → State → State → Prop}
/-- what a body that may throw owes at its end -/
def vx_MQ (below : List Frame) (Qc : Array Value → State → Outcome → State → Prop) (XC : String → State → State → Prop) (a : Array Value) (s : State) (mc ms : Nat) (free : Addr → Prop) : State → Prop := fun t =>
  ∃ o, t.status = .running ∧ Ended t below o ∧ vx_Q Qc XC mc ms free a s o t
theorem vx_ret {g : JFrame} {mc ms : Nat} (k : W p l e R s m args below meth c H locs cells slots (MQ below Qc args s mc ms free) g) : W p l e R s m args below meth c H locs cells slots (vx_MQ below Qc XC args s mc ms free) g := by
  intro T hT X
  obtain ⟨t, a1, o, b1, b2, b3, b4⟩ := k T hT X
  exact ⟨t, a1, o, b1, b2, Or.inl ⟨b3, b4⟩⟩
/-- not caught here: it goes on to the caller -/
theorem vx_widen {g : JFrame} {q : Addr} {k n : Nat} (h1 : cells ≤ k) (h2 : slots ≤ n) (kk : vx_W p l e R s m args below meth c H locs k n Q g q) : vx_W p l e R s m args below meth c H locs cells slots Q g q := fun T hT X => kk T hT (stand_widen X h1 h2)
theorem vx_out {pc : Nat} {E : String} {ce : Cell} {q : Addr} {mc ms : Nat} (hout : ∀ x ∈ c.exceptionTable.toList, covers x pc = false) (hlocks : meth.locks = false) (hcell : H[q]? = some ce) (hv : ce.vm = .none) (hcl : s.vm.findClass E = some ce.cls)
    (hx : ∀ t : State, t.heap = H → s.vm.Alike t.vm → XC E s t) (hf : ∀ z ∈ locs, free z.base) (hc : cells ≤ mc) (hs : slots ≤ ms) :
    vx_W p l e R s m args below meth c H locs cells slots (vx_MQ below Qc XC args s mc ms free) (F0 m pc ls rest) q := by
  intro T hT X
  obtain ⟨st1, hrun, hend, hW, hsm⟩ := X.leaveThrown q (g := F0 m pc ls rest) rfl rfl rfl hout hlocks
  have hcell9 : (T.setFrames (.throwing q :: below)).heap[q]? = some ce := by
    show T.heap[q]? = some ce
    rw [hT]; exact hcell
  exact ⟨_, st1, .threw q, hrun, hend, Or.inr ⟨q, rfl, E, ce, locs, hx _ hT hW.alike, hcell9, hv, hcl, hW, hsm.mono hc hs, hf⟩⟩
theorem vx_frame {U : State} {k n : Nat} (h : s.sameButNew ({ U with vm := s.vm } : State) locs k n) : s.heap.size ≤ U.heap.size ∧ ∀ q : Nat, q < s.heap.size → (∀ z ∈ locs, z.base ≠ q) → U.heap[q]? = s.heap[q]? := by
  obtain ⟨-, h2, -, -, -, h6⟩ := h
  refine ⟨h2, fun q hq hz => ?_⟩
  obtain ⟨c9, e1, e2, e3, e4⟩ := h6 q _ (Array.getElem?_eq_getElem hq)
  have hs : c9.slots = (s.heap[q]).slots := Array.ext_getElem? fun i => e4 i fun hm => hz _ hm rfl
  have h9 : c9 = s.heap[q] := by
    rw [hs] at e2
    exact e2
  have e5 : U.heap[q]? = some c9 := e1
  rw [e5, h9, Array.getElem?_eq_getElem hq]
/-- the words of a throw but the four that speak of the heap -/
def vx_no (w : Cond) : Bool := decide (w ≠ .isRef (.static Bundle.tN "UNASSIGNED_STACK" Bundle.steD)) && decide (w ≠ .isRef (.static Bundle.tN "SUPPRESSED_SENTINEL" Bundle.listD)) && decide (w ≠ .laysStatic Bundle.tN "UNASSIGNED_STACK" Bundle.steD) && decide (w ≠ .laysStatic Bundle.tN "SUPPRESSED_SENTINEL" Bundle.listD)
def vx_at0 (own : String) (ic : Nat) (X : String) (names : List String) : List Cond := (Bundle.ownAtoms0 own ic X names).filter vx_no
def vx_atS (own : String) (ic : Nat) (X : String) (names : List String) : List Cond := (Bundle.ownAtoms own ic X names).filter vx_no
/-- a word that the tables alone decide, or a good one -/
def vx_ot (w : Cond) : Bool := w.onTables || goodWord w
theorem vx_ot_at {args a' : Array Value} {s U : State} {w : Cond} (hW : s.WarmedH U.vm) (hvm : s.vm = U.vm) (hg : vx_ot w = true) (h : w.before args s = true) : w.before a' U = true := by
  simp only [vx_ot, Bool.or_eq_true] at hg
  rcases hg with hg | hg
  · exact va_tabs hg hvm h
  · exact word_at hW (good_of_word hg) h
/-- a list's words: the good ones out of the method's own list, the others by premises of their own -/
theorem vx_hat {args : Array Value} {s : State} {L B : List Cond} (h1 : ∀ w ∈ L.filter goodWord, w.before args s = true) (h2 : ∀ w ∈ L.filter (fun w => !goodWord w), w ∈ B) (h3 : ∀ w ∈ B, w.before args s = true) : ∀ w ∈ L, w.before args s = true := by
  intro w hw
  by_cases g : goodWord w = true
  · exact h1 w (List.mem_filter.mpr ⟨hw, g⟩)
  · refine h3 w (h2 w (List.mem_filter.mpr ⟨hw, ?_⟩))
    show (!goodWord w) = true
    cases hgw : goodWord w
    · rfl
    · exact absurd hgw g
theorem vx_c {args : Array Value} {s : State} {w : Cond} {B : List Cond} (h : w.before args s = true) (t : ∀ w ∈ B, w.before args s = true) : ∀ w' ∈ w :: B, w'.before args s = true := fun w' h' => (List.mem_cons.mp h').elim (fun e => by rw [e]; exact h) (t w')
theorem vx_n {args : Array Value} {s : State} : ∀ w ∈ ([] : List Cond), w.before args s = true := fun _ h => nomatch h
theorem vx_own {args : Array Value} {s : State} {L : List Cond} (h1 : ∀ w ∈ L.filter vx_no, w.before args s = true)
    (hU : (Cond.isRef (.static Bundle.tN "UNASSIGNED_STACK" Bundle.steD)).before args s = true) (hN : (Cond.isRef (.static Bundle.tN "SUPPRESSED_SENTINEL" Bundle.listD)).before args s = true)
    (lU : (Cond.laysStatic Bundle.tN "UNASSIGNED_STACK" Bundle.steD).before args s = true) (lN : (Cond.laysStatic Bundle.tN "SUPPRESSED_SENTINEL" Bundle.listD).before args s = true) : ∀ w ∈ L, w.before args s = true := by
  intro w hw
  by_cases e1 : w = .isRef (.static Bundle.tN "UNASSIGNED_STACK" Bundle.steD)
  · rw [e1]; exact hU
  · by_cases e2 : w = .isRef (.static Bundle.tN "SUPPRESSED_SENTINEL" Bundle.listD)
    · rw [e2]; exact hN
    · by_cases e3 : w = .laysStatic Bundle.tN "UNASSIGNED_STACK" Bundle.steD
      · rw [e3]; exact lU
      · by_cases e4 : w = .laysStatic Bundle.tN "SUPPRESSED_SENTINEL" Bundle.listD
        · rw [e4]; exact lN
        · exact h1 w (List.mem_filter.mpr ⟨hw, by unfold vx_no; rw [decide_eq_true e1, decide_eq_true e2, decide_eq_true e3, decide_eq_true e4]; rfl⟩)
/-- where a static field lies, its class's statics cell in H -/
def vx_L (C n d : String) (A : Nat → Prop) (U : State) (H : Heap) : Prop := ∃ (c : ClassId) (k : Class) (i : Nat) (f : Field) (a : Nat) (cell : Cell), U.vm.findClass C = some c ∧ U.fieldFound? C n d = some (c, k, i, f) ∧ f.isStatic = true ∧ k.statics = some a ∧ H[a]? = some cell ∧ cell.vm.isStatics = true ∧ cell.cls = c ∧ f.slot < cell.slots.size ∧ k.staticTypes[f.slot]? = some f.type ∧ ¬ A a
theorem vx_L.moved {C n d : String} {A : Nat → Prop} {u U : State} {H : Heap} (hvm : u.vm.Alike U.vm) (h : vx_L C n d A u H) : vx_L C n d A U H := by
  obtain ⟨c, k, i, f, a, cell, h1, h2, h3, h4, h5, h6, h7, h8, h9, h10⟩ := h
  obtain ⟨k', hi', he⟩ := State.fieldFound?_setVm hvm h2
  exact ⟨c, k', i, f, a, cell, by rw [hvm.findClass]; exact h1, hi', h3, by rw [he]; exact h4, h5, h6, h7, h8, by rw [he]; exact h9, h10⟩
theorem vx_L.kept {C n d : String} {A : Nat → Prop} {U : State} {H H1 : Heap} (h : vx_L C n d A U H) (hq : ∀ a : Nat, a < H.size → ¬ A a → H1[a]? = H[a]?) : vx_L C n d A U H1 := by
  obtain ⟨c, k, i, f, a, cell, h1, h2, h3, h4, h5, h6, h7, h8, h9, h10⟩ := h
  exact ⟨c, k, i, f, a, cell, h1, h2, h3, h4, by rw [hq a (Array.getElem?_eq_some_iff.mp h5).1 h10]; exact h5, h6, h7, h8, h9, h10⟩
theorem vx_L.narrow {C n d : String} {A B : Nat → Prop} {U : State} {H : Heap} (h : vx_L C n d A U H) (hAB : ∀ q, B q → A q) : vx_L C n d B U H := by
  obtain ⟨c, k, i, f, a, cell, h1, h2, h3, h4, h5, h6, h7, h8, h9, h10⟩ := h
  exact ⟨c, k, i, f, a, cell, h1, h2, h3, h4, h5, h6, h7, h8, h9, fun z => h10 (hAB _ z)⟩
theorem vx_L.word {C n d : String} {A : Nat → Prop} {s : State} {args : Array Value} (h : vx_L C n d A s s.heap) : (Cond.laysStatic C n d).before args s = true := by
  obtain ⟨c, k, i, f, a, cell, h1, h2, h3, h4, h5, h6, h7, h8, h9, -⟩ := h
  show (Cond.laysStatic C n d).holds args s none s [] = true
  exact Cond.laysStatic_of h1 h2 h3 h4 h5 h6 h7 h8 h9
/-- .. and what it holds: null or some reference -/
def vx_Zq (C n d : String) (A : Nat → Prop) (U : State) (H : Heap) : Prop := va_Zq C n d A U H ∧ vx_L C n d A U H
theorem vx_Zq.moved {C n d : String} {A : Nat → Prop} {u U : State} {H : Heap} (hvm : u.vm.Alike U.vm) (h : vx_Zq C n d A u H) : vx_Zq C n d A U H := ⟨va_Zq.moved hvm h.1, vx_L.moved hvm h.2⟩
theorem vx_Zq.kept {C n d : String} {A : Nat → Prop} {U : State} {H H1 : Heap} (h : vx_Zq C n d A U H) (hq : ∀ a : Nat, a < H.size → ¬ A a → H1[a]? = H[a]?) : vx_Zq C n d A U H1 := ⟨va_Zq.kept h.1 hq, vx_L.kept h.2 hq⟩
theorem vx_Zq.narrow {C n d : String} {A B : Nat → Prop} {U : State} {H : Heap} (h : vx_Zq C n d A U H) (hAB : ∀ q, B q → A q) : vx_Zq C n d B U H := ⟨va_Zq.narrow h.1 hAB, vx_L.narrow h.2 hAB⟩
theorem vx_Zqof {args : Array Value} {s : State} {C n d : String} {A : Nat → Prop} (hl : (Cond.laysStatic C n d).before args s = true) (hini : (Cond.initialized C).before args s = true) (h : (Cond.isRef (.static C n d)).before args s = true) (hA : ∀ a : Nat, a < s.heap.size → ¬ A a) : vx_Zq C n d A s s.heap := by
  refine ⟨va_Zqof hl hini h hA, ?_⟩
  obtain ⟨c, k, i, f, a, cell, h1, h2, h3, h4, h5, h6, h7, h8, h9⟩ := Cond.laysStatic_spec hl
  exact ⟨c, k, i, f, a, cell, h1, h2, h3, h4, h5, h6, h7, h8, h9, hA a (Array.getElem?_eq_some_iff.mp h5).1⟩
theorem vx_isRef {C n d : String} {v : Value} {A : Nat → Prop} {s : State} {args : Array Value} (h : va_Z C n d v A s s.heap) (hv : v.isRef = true) : (Cond.isRef (.static C n d)).before args s = true := by
  obtain ⟨cf, kf, fi, f, a, cell, h1, h2, h3, h4, h5, h6, h7, -⟩ := h
  have he : (Term.static C n d).eval args s none [] s = some v := by
    simp [Term.eval, State.fieldNamed?, h1, h2, h4, h5, h6, h7]
  simp only [Cond.before, Cond.holds, Cond.value, he]
  cases v <;> simp_all [Value.isRef]
theorem vx_isRefq {C n d : String} {A : Nat → Prop} {s : State} {args : Array Value} (h : va_Zq C n d A s s.heap) : (Cond.isRef (.static C n d)).before args s = true := by
  rcases h with h | ⟨t, h⟩
  · exact vx_isRef h rfl
  · exact vx_isRef h rfl
/-- the same frame, seen from here: as if the method were called anew in this heap -/
theorem vx_rebase {T : State} (X : Stand p l e R s m args below meth c T locs cells slots) {R' : Room} (hf : R'.frames ≤ R.frames) (hl : R'.locals ≤ R.locals) (hc : cells + R'.cells ≤ R.cells) (hs : slots + R'.slots ≤ R.slots) :
    Stand p l e R' ((T.setVm s.vm).setFrames (.invoking m args :: below)) m args below meth c T [] 0 0 := by
  have htop : (T.setVm s.vm).topJava?.isSome := X.here.top
  have hF : ((T.setVm s.vm).setFrames (.invoking m args :: below)).frames = .invoking m args :: below := State.frames_setFrames _ (State.cur_lt_of_top htop)
  obtain ⟨g₀, hg0⟩ := Option.isSome_iff_exists.mp htop
  obtain ⟨r, hr⟩ := State.topJava?_eq_some.mp hg0
  have hl9 : e.platform.stackLimits (T.setVm s.vm).me = e.platform.stackLimits s.me := X.limits
  have hb9 : (T.setVm s.vm).me.stackBytes = s.me.stackBytes := X.bytes
  refine ⟨X.admits, X.cas, X.clock, hF, ?_, X.hears, X.method, X.code, X.here, X.tail, X.warmed, ?_, ?_, ?_⟩
  · have h := X.room
    have hU : ((T.setVm s.vm).setFrames (.invoking m args :: below)).localsInUse = s.localsInUse := by
      rw [State.localsInUse_invoking hF (meth := meth) (c := c) X.method X.code, State.localsInUse_invoking X.frames X.method X.code]
    simp only [State.hasRoom, Bool.and_eq_true, decide_eq_true_eq] at h ⊢
    obtain ⟨⟨⟨⟨h1, h2, h3, h4, h5, h6⟩, h7⟩, h8⟩, h9⟩ := h
    rw [X.frames, List.length_cons] at h2 h3
    have q1 := X.heapSize
    have q2 := X.used
    simp only [hF, hU, List.length_cons, State.stackLimits_setFrames, State.stackBytes_setFrames, hl9, hb9]
    refine ⟨⟨⟨⟨by omega, by omega, by omega, by omega, by omega, h6⟩, ?_⟩, ?_⟩, X.book⟩
    · show T.heap.size + R'.cells ≤ e.platform.maxCells
      omega
    · show T.slotsUsed + R'.slots ≤ e.platform.maxSlots
      omega
  · rw [State.stackLimits_setFrames]; rfl
  · rw [State.stackBytes_setFrames]; rfl
  · refine ⟨?_, Nat.le_refl _, Nat.le_refl _, ?_, ?_, fun a c9 h9 => ⟨c9, h9, rfl, rfl, fun _ _ => rfl⟩⟩
    · obtain ⟨t, ht, -⟩ := State.frames_cons hr
      show T.setVm s.vm = { ((T.setVm s.vm).setFrames (.invoking m args :: below)).setFrames (T.setVm s.vm).frames with heap := T.heap, slotsUsed := T.slotsUsed }
      rw [State.setFrames_setFrames, State.setFrames_self ht]
      rfl
    · show T.slotsUsed = T.slotsUsed + ((T.heap.toList.drop T.heap.size).map (·.slots.size)).sum
      rw [List.drop_eq_nil_of_le (Nat.le_of_eq Array.length_toList)]
      rfl
    · show ((T.heap.toList.drop T.heap.size).map (·.slots.size)).sum ≤ 0
      rw [List.drop_eq_nil_of_le (Nat.le_of_eq Array.length_toList)]
      exact Nat.le_refl _
/-- 'throw new E()': new; dup; invokespecial; athrow -/
theorem vx_throw0 {cc : ByteArray} {pc : Nat} (hexec : p.tables.exec = Jvm.exec) (hb : c.code = cc) (hl : l.stackTraces = false) {own cls : String} {names : List String} {ik ic mc ms : Nat} {A : Nat → Prop}
    (hown : s.vm.findClass own = some m.cls) (hcls : Bundle.fit cls = true) (hnames : ∀ n ∈ names, Bundle.fit n = true)
    (hk : (Cond.classLink own ik cls).before args s = true) (hini : (Cond.initialized cls).before args s = true) (hat : ∀ w ∈ vx_at0 own ic cls names, w.before args s = true)
    (hgood : ∀ w ∈ Cond.classLink own ik cls :: Cond.initialized cls :: vx_at0 own ic cls names, vx_ot w = true)
    (hU : vx_Zq Bundle.tN "UNASSIGNED_STACK" Bundle.steD A s s.heap) (hN : vx_Zq Bundle.tN "SUPPRESSED_SENTINEL" Bundle.listD A s s.heap) (hS : va_S A s.heap H locs) (hsize : ls.size = c.maxLocals)
    (d0 : decode cc pc = .ok (.new ik, 3)) (d3 : decode cc (pc + 3) = .ok (.dup, 1)) (d4 : decode cc (pc + 4) = .ok (.invokespecial ic, 3)) (d7 : decode cc (pc + 7) = .ok (.athrow, 1))
    (hout : ∀ x ∈ c.exceptionTable.toList, covers x (pc + 7) = false)
    (hRframes : names.length + 3 < R.frames) (hRlocals : (rest.map fun v => v.category).sum + (13 * (names.length + 1) + 42) ≤ R.locals) (hRcells : cells + 1 ≤ R.cells) (hRslots : slots + 6 ≤ R.slots) (hlocks : meth.locks = false)
    (hx : ∀ t : State, s.vm.Alike t.vm → H.size ≤ t.heap.size → (∀ q : Nat, q < H.size → t.heap[q]? = H[q]?) → XC cls s t)
    (hf : ∀ z ∈ locs, free z.base) (hc : cells + 1 ≤ mc) (hs : slots + 6 ≤ ms) :
    W p l e R s m args below meth c H locs cells slots (vx_MQ below Qc XC args s mc ms free) (F0 m pc ls rest) := by
  intro T hT X
  have htr : e.platform.stackTraces = false := (show e.platform.stackTraces = l.stackTraces by rw [X.admits.platform]).trans hl
  have Y := vx_rebase X (R' := { frames := R.frames, locals := R.locals, cells := 1, slots := 6 }) (Nat.le_refl _) (Nat.le_refl _) hRcells hRslots
  obtain ⟨s', hA⟩ : ∃ z, z = (T.setVm s.vm).setFrames (.invoking m args :: below) := ⟨_, rfl⟩
  rw [← hA] at Y
  have hvm : s'.vm = s.vm := by rw [hA]; rfl
  have hhp : s'.heap = H := by rw [hA]; exact hT
  have hW0 : s.WarmedH s'.vm := by rw [hvm]; exact State.WarmedH.refl s
  have hat' : ∀ w ∈ vx_at0 own ic cls names, w.before args s' = true := fun w hw => vx_ot_at hW0 hvm.symm (hgood w (List.mem_cons_of_mem _ (List.mem_cons_of_mem _ hw))) (hat w hw)
  have hk' : (Cond.classLink own ik cls).before args s' = true := vx_ot_at hW0 hvm.symm (hgood _ List.mem_cons_self) hk
  have hini' : (Cond.initialized cls).before args s' = true := vx_ot_at hW0 hvm.symm (hgood _ (List.mem_cons_of_mem _ List.mem_cons_self)) hini
  have hU' : vx_Zq Bundle.tN "UNASSIGNED_STACK" Bundle.steD A s' s'.heap := by rw [hhp]; exact vx_Zq.moved hW0.alike (hU.kept hS.2.1)
  have hN' : vx_Zq Bundle.tN "SUPPRESSED_SENTINEL" Bundle.listD A s' s'.heap := by rw [hhp]; exact vx_Zq.moved hW0.alike (hN.kept hS.2.1)
  have h : ∀ w ∈ Bundle.ownAtoms0 own ic cls names, w.before args s' = true := vx_own hat' (vx_isRefq hU'.1) (vx_isRefq hN'.1) hU'.2.word hN'.2.word
  have hown' : s'.vm.findClass own = some m.cls := by rw [hvm]; exact hown
  have hins : (Cond.instantiable cls 6).before args s' = true := h _ (by simp [Bundle.ownAtoms0])
  obtain ⟨vm₁, cX, kX, hfX, hkX, -, -, X₁, st1⟩ := Y.newCold hexec (own := own) (C := cls) (index := ik) (n := 6) hown' hk' hins hini'
    (g := F0 m pc ls rest) rfl (by rw [hb]; exact d0) (Nat.le_refl _) (Nat.le_refl _)
  generalize hT1 : (T.setVm vm₁).pushCell { cls := cX, slots := kX.instanceTypes.map defaultValue, vm := .none } = T1 at X₁ st1
  have hcat : (Value.ref T.heap.size).category = 1 := rfl
  have hcellA : T1.heap[T.heap.size]? = some (freshCell cX kX) := by rw [← hT1]; exact State.heap_pushCell_size _ _
  have d3' : decode c.code (pc + 3) = .ok (.dup, 1) := by rw [hb]; exact d3
  obtain ⟨U, hsteps, hrun, hend, hW, hsame, ce, hce, hO⟩ := X₁.ctorThrow0 hexec htr (own := own) (cls := cls) (names := names) (ic := ic) hown' hcls hnames h (fun x hx => nomatch hx) hfX hkX hcellA (by rw [hhp, hT]; exact Nat.le_refl _)
    (g := { method := m, pc := pc + 4, locals := ls, stack := .ref T.heap.size :: .ref T.heap.size :: rest, locked := none }) rfl hsize rfl rfl (rest := rest) rfl
    (by rw [hb]; exact d4) (by rw [hb]; exact d7) hout hRframes (by simp only [List.map_cons, List.sum_cons, hcat]; omega) hlocks
  obtain ⟨f1, f2⟩ := vx_frame hsame
  rw [hhp] at f1 f2
  have hWs : s.WarmedH U.vm := State.WarmedH.trans hW0 hW
  have hcl : s.vm.findClass cls = some ce.cls := by
    have h9 := hO.cls
    rw [hvm] at h9
    exact h9
  have hall : s.sameButNew ({ U with vm := s.vm } : State) locs mc ms := by
    subst hA
    obtain ⟨e1, e2⟩ := hsame
    rw [State.setFrames_setFrames] at e1
    have h2 : (T.setVm s.vm).sameButNew ({ U with vm := s.vm } : State) [] (0 + 1) (0 + 6) := ⟨e1, e2⟩
    have h3 := X.same.trans h2
    rw [List.append_nil] at h3
    exact h3.mono hc hs
  refine ⟨U, ?_, .threw T.heap.size, hrun, hend, Or.inr ⟨T.heap.size, rfl, cls, ce, locs, hx U hWs.alike f1 (fun q hq => f2 q hq (fun z hz => nomatch hz)), hce, hO.vm, hcl, hWs, hall, hf⟩⟩
  refine st1 _ ?_
  show Steps p.tables e below (T1.setTop { method := m, pc := pc + 3, locals := ls, stack := .ref T.heap.size :: rest, locked := none }) _
  jvm_step X₁.here [X₁.here.top, hexec, d3', Value.category]
  exact hsteps
/-- 'throw new E("text")': new; dup; ldc; invokespecial; athrow -/
theorem vx_throwS {cc : ByteArray} {pc : Nat} (hexec : p.tables.exec = Jvm.exec) (hb : c.code = cc) (hl : l.stackTraces = false) {own cls text : String} {names : List String} {ik is ic mc ms sa : Nat} {A : Nat → Prop}
    (hown : s.vm.findClass own = some m.cls) (hcls : Bundle.fit cls = true) (hnames : ∀ n ∈ names, Bundle.fit n = true)
    (hk : (Cond.classLink own ik cls).before args s = true) (hini : (Cond.initialized cls).before args s = true) (hstr : vk_R own is text sa s) (hat : ∀ w ∈ vx_atS own ic cls names, w.before args s = true)
    (hgood : ∀ w ∈ Cond.classLink own ik cls :: Cond.initialized cls :: vx_atS own ic cls names, vx_ot w = true)
    (hU : vx_Zq Bundle.tN "UNASSIGNED_STACK" Bundle.steD A s s.heap) (hN : vx_Zq Bundle.tN "SUPPRESSED_SENTINEL" Bundle.listD A s s.heap) (hS : va_S A s.heap H locs) (hsize : ls.size = c.maxLocals)
    (d0 : decode cc pc = .ok (.new ik, 3)) (d3 : decode cc (pc + 3) = .ok (.dup, 1)) (d4 : decode cc (pc + 4) = .ok (.ldc is, 2)) (d6 : decode cc (pc + 6) = .ok (.invokespecial ic, 3)) (d9 : decode cc (pc + 9) = .ok (.athrow, 1))
    (hout : ∀ x ∈ c.exceptionTable.toList, covers x (pc + 9) = false)
    (hRframes : names.length + 3 < R.frames) (hRlocals : (rest.map fun v => v.category).sum + (13 * (names.length + 1) + 43) ≤ R.locals) (hRcells : cells + 1 ≤ R.cells) (hRslots : slots + 6 ≤ R.slots) (hlocks : meth.locks = false)
    (hx : ∀ t : State, s.vm.Alike t.vm → H.size ≤ t.heap.size → (∀ q : Nat, q < H.size → t.heap[q]? = H[q]?) → XC cls s t)
    (hf : ∀ z ∈ locs, free z.base) (hc : cells + 1 ≤ mc) (hs : slots + 6 ≤ ms) :
    W p l e R s m args below meth c H locs cells slots (vx_MQ below Qc XC args s mc ms free) (F0 m pc ls rest) := by
  intro T hT X
  have htr : e.platform.stackTraces = false := (show e.platform.stackTraces = l.stackTraces by rw [X.admits.platform]).trans hl
  have Y := vx_rebase X (R' := { frames := R.frames, locals := R.locals, cells := 1, slots := 6 }) (Nat.le_refl _) (Nat.le_refl _) hRcells hRslots
  obtain ⟨s', hA⟩ : ∃ z, z = (T.setVm s.vm).setFrames (.invoking m args :: below) := ⟨_, rfl⟩
  rw [← hA] at Y
  have hvm : s'.vm = s.vm := by rw [hA]; rfl
  have hhp : s'.heap = H := by rw [hA]; exact hT
  have hW0 : s.WarmedH s'.vm := by rw [hvm]; exact State.WarmedH.refl s
  have hat' : ∀ w ∈ vx_atS own ic cls names, w.before args s' = true := fun w hw => vx_ot_at hW0 hvm.symm (hgood w (List.mem_cons_of_mem _ (List.mem_cons_of_mem _ hw))) (hat w hw)
  have hk' : (Cond.classLink own ik cls).before args s' = true := vx_ot_at hW0 hvm.symm (hgood _ List.mem_cons_self) hk
  have hini' : (Cond.initialized cls).before args s' = true := vx_ot_at hW0 hvm.symm (hgood _ (List.mem_cons_of_mem _ List.mem_cons_self)) hini
  have hU' : vx_Zq Bundle.tN "UNASSIGNED_STACK" Bundle.steD A s' s'.heap := by rw [hhp]; exact vx_Zq.moved hW0.alike (hU.kept hS.2.1)
  have hN' : vx_Zq Bundle.tN "SUPPRESSED_SENTINEL" Bundle.listD A s' s'.heap := by rw [hhp]; exact vx_Zq.moved hW0.alike (hN.kept hS.2.1)
  have h : ∀ w ∈ Bundle.ownAtoms own ic cls names, w.before args s' = true := vx_own hat' (vx_isRefq hU'.1) (vx_isRefq hN'.1) hU'.2.word hN'.2.word
  have hown' : s'.vm.findClass own = some m.cls := by rw [hvm]; exact hown
  have hins : (Cond.instantiable cls 6).before args s' = true := h _ (by simp [Bundle.ownAtoms])
  obtain ⟨vm₁, cX, kX, hfX, hkX, -, -, X₁, st1⟩ := Y.newCold hexec (own := own) (C := cls) (index := ik) (n := 6) hown' hk' hins hini'
    (g := F0 m pc ls rest) rfl (by rw [hb]; exact d0) (Nat.le_refl _) (Nat.le_refl _)
  generalize hT1 : (T.setVm vm₁).pushCell { cls := cX, slots := kX.instanceTypes.map defaultValue, vm := .none } = T1 at X₁ st1
  have hcat : (Value.ref T.heap.size).category = 1 := rfl
  have hcellA : T1.heap[T.heap.size]? = some (freshCell cX kX) := by rw [← hT1]; exact State.heap_pushCell_size _ _
  have d3' : decode c.code (pc + 3) = .ok (.dup, 1) := by rw [hb]; exact d3
  have d4' : decode c.code (pc + 4) = .ok (.ldc is, 2) := by rw [hb]; exact d4
  have hstr' : vk_R own is text sa s' := vk_R.warm hW0 hstr
  obtain ⟨U, hsteps, hrun, hend, hW, hsame, ce, hce, hO⟩ := X₁.ctorThrowS hexec htr (own := own) (cls := cls) (names := names) (ic := ic) hown' hcls hnames h (fun x hx => nomatch hx) hfX hkX hcellA (by rw [hhp, hT]; exact Nat.le_refl _) (msg := .ref sa) rfl
    (g := { method := m, pc := pc + 6, locals := ls, stack := .ref sa :: .ref T.heap.size :: .ref T.heap.size :: rest, locked := none }) rfl hsize rfl rfl (rest := rest) rfl
    (by rw [hb]; exact d6) (by rw [hb]; exact d9) hout hRframes (by simp only [List.map_cons, List.sum_cons, hcat]; omega) hlocks
  obtain ⟨f1, f2⟩ := vx_frame hsame
  rw [hhp] at f1 f2
  have hWs : s.WarmedH U.vm := State.WarmedH.trans hW0 hW
  have hcl : s.vm.findClass cls = some ce.cls := by
    have h9 := hO.cls
    rw [hvm] at h9
    exact h9
  have hall : s.sameButNew ({ U with vm := s.vm } : State) locs mc ms := by
    subst hA
    obtain ⟨e1, e2⟩ := hsame
    rw [State.setFrames_setFrames] at e1
    have h2 : (T.setVm s.vm).sameButNew ({ U with vm := s.vm } : State) [] (0 + 1) (0 + 6) := ⟨e1, e2⟩
    have h3 := X.same.trans h2
    rw [List.append_nil] at h3
    exact h3.mono hc hs
  refine ⟨U, ?_, .threw T.heap.size, hrun, hend, Or.inr ⟨T.heap.size, rfl, cls, ce, locs, hx U hWs.alike f1 (fun q hq => f2 q hq (fun z hz => nomatch hz)), hce, hO.vm, hcl, hWs, hall, hf⟩⟩
  refine st1 _ ?_
  show Steps p.tables e below (T1.setTop { method := m, pc := pc + 3, locals := ls, stack := .ref T.heap.size :: rest, locked := none }) _
  jvm_step X₁.here [X₁.here.top, hexec, d3', Value.category]
  exact X₁.ldcString hexec (own := own) (text := text) (index := is) (a := sa) hown' hstr'.1 hstr'.2
    (g := { method := m, pc := pc + 4, locals := ls, stack := .ref T.heap.size :: .ref T.heap.size :: rest, locked := none }) rfl d4' _ hsteps
/-- 'throw new E("text")', the text by a wide index -/
theorem vx_throwSW {cc : ByteArray} {pc : Nat} (hexec : p.tables.exec = Jvm.exec) (hb : c.code = cc) (hl : l.stackTraces = false) {own cls text : String} {names : List String} {ik is ic mc ms sa : Nat} {A : Nat → Prop}
    (hown : s.vm.findClass own = some m.cls) (hcls : Bundle.fit cls = true) (hnames : ∀ n ∈ names, Bundle.fit n = true)
    (hk : (Cond.classLink own ik cls).before args s = true) (hini : (Cond.initialized cls).before args s = true) (hstr : vk_R own is text sa s) (hat : ∀ w ∈ vx_atS own ic cls names, w.before args s = true)
    (hgood : ∀ w ∈ Cond.classLink own ik cls :: Cond.initialized cls :: vx_atS own ic cls names, vx_ot w = true)
    (hU : vx_Zq Bundle.tN "UNASSIGNED_STACK" Bundle.steD A s s.heap) (hN : vx_Zq Bundle.tN "SUPPRESSED_SENTINEL" Bundle.listD A s s.heap) (hS : va_S A s.heap H locs) (hsize : ls.size = c.maxLocals)
    (d0 : decode cc pc = .ok (.new ik, 3)) (d3 : decode cc (pc + 3) = .ok (.dup, 1)) (d4 : decode cc (pc + 4) = .ok (.ldc_w is, 3)) (d7 : decode cc (pc + 7) = .ok (.invokespecial ic, 3)) (d10 : decode cc (pc + 10) = .ok (.athrow, 1))
    (hout : ∀ x ∈ c.exceptionTable.toList, covers x (pc + 10) = false)
    (hRframes : names.length + 3 < R.frames) (hRlocals : (rest.map fun v => v.category).sum + (13 * (names.length + 1) + 43) ≤ R.locals) (hRcells : cells + 1 ≤ R.cells) (hRslots : slots + 6 ≤ R.slots) (hlocks : meth.locks = false)
    (hx : ∀ t : State, s.vm.Alike t.vm → H.size ≤ t.heap.size → (∀ q : Nat, q < H.size → t.heap[q]? = H[q]?) → XC cls s t)
    (hf : ∀ z ∈ locs, free z.base) (hc : cells + 1 ≤ mc) (hs : slots + 6 ≤ ms) :
    W p l e R s m args below meth c H locs cells slots (vx_MQ below Qc XC args s mc ms free) (F0 m pc ls rest) := by
  intro T hT X
  have htr : e.platform.stackTraces = false := (show e.platform.stackTraces = l.stackTraces by rw [X.admits.platform]).trans hl
  have Y := vx_rebase X (R' := { frames := R.frames, locals := R.locals, cells := 1, slots := 6 }) (Nat.le_refl _) (Nat.le_refl _) hRcells hRslots
  obtain ⟨s', hA⟩ : ∃ z, z = (T.setVm s.vm).setFrames (.invoking m args :: below) := ⟨_, rfl⟩
  rw [← hA] at Y
  have hvm : s'.vm = s.vm := by rw [hA]; rfl
  have hhp : s'.heap = H := by rw [hA]; exact hT
  have hW0 : s.WarmedH s'.vm := by rw [hvm]; exact State.WarmedH.refl s
  have hat' : ∀ w ∈ vx_atS own ic cls names, w.before args s' = true := fun w hw => vx_ot_at hW0 hvm.symm (hgood w (List.mem_cons_of_mem _ (List.mem_cons_of_mem _ hw))) (hat w hw)
  have hk' : (Cond.classLink own ik cls).before args s' = true := vx_ot_at hW0 hvm.symm (hgood _ List.mem_cons_self) hk
  have hini' : (Cond.initialized cls).before args s' = true := vx_ot_at hW0 hvm.symm (hgood _ (List.mem_cons_of_mem _ List.mem_cons_self)) hini
  have hU' : vx_Zq Bundle.tN "UNASSIGNED_STACK" Bundle.steD A s' s'.heap := by rw [hhp]; exact vx_Zq.moved hW0.alike (hU.kept hS.2.1)
  have hN' : vx_Zq Bundle.tN "SUPPRESSED_SENTINEL" Bundle.listD A s' s'.heap := by rw [hhp]; exact vx_Zq.moved hW0.alike (hN.kept hS.2.1)
  have h : ∀ w ∈ Bundle.ownAtoms own ic cls names, w.before args s' = true := vx_own hat' (vx_isRefq hU'.1) (vx_isRefq hN'.1) hU'.2.word hN'.2.word
  have hown' : s'.vm.findClass own = some m.cls := by rw [hvm]; exact hown
  have hins : (Cond.instantiable cls 6).before args s' = true := h _ (by simp [Bundle.ownAtoms])
  obtain ⟨vm₁, cX, kX, hfX, hkX, -, -, X₁, st1⟩ := Y.newCold hexec (own := own) (C := cls) (index := ik) (n := 6) hown' hk' hins hini'
    (g := F0 m pc ls rest) rfl (by rw [hb]; exact d0) (Nat.le_refl _) (Nat.le_refl _)
  generalize hT1 : (T.setVm vm₁).pushCell { cls := cX, slots := kX.instanceTypes.map defaultValue, vm := .none } = T1 at X₁ st1
  have hcat : (Value.ref T.heap.size).category = 1 := rfl
  have hcellA : T1.heap[T.heap.size]? = some (freshCell cX kX) := by rw [← hT1]; exact State.heap_pushCell_size _ _
  have d3' : decode c.code (pc + 3) = .ok (.dup, 1) := by rw [hb]; exact d3
  have d4' : decode c.code (pc + 4) = .ok (.ldc_w is, 3) := by rw [hb]; exact d4
  have hstr' : vk_R own is text sa s' := vk_R.warm hW0 hstr
  obtain ⟨U, hsteps, hrun, hend, hW, hsame, ce, hce, hO⟩ := X₁.ctorThrowS hexec htr (own := own) (cls := cls) (names := names) (ic := ic) hown' hcls hnames h (fun x hx => nomatch hx) hfX hkX hcellA (by rw [hhp, hT]; exact Nat.le_refl _) (msg := .ref sa) rfl
    (g := { method := m, pc := pc + 7, locals := ls, stack := .ref sa :: .ref T.heap.size :: .ref T.heap.size :: rest, locked := none }) rfl hsize rfl rfl (rest := rest) rfl
    (by rw [hb]; exact d7) (by rw [hb]; exact d10) hout hRframes (by simp only [List.map_cons, List.sum_cons, hcat]; omega) hlocks
  obtain ⟨f1, f2⟩ := vx_frame hsame
  rw [hhp] at f1 f2
  have hWs : s.WarmedH U.vm := State.WarmedH.trans hW0 hW
  have hcl : s.vm.findClass cls = some ce.cls := by
    have h9 := hO.cls
    rw [hvm] at h9
    exact h9
  have hall : s.sameButNew ({ U with vm := s.vm } : State) locs mc ms := by
    subst hA
    obtain ⟨e1, e2⟩ := hsame
    rw [State.setFrames_setFrames] at e1
    have h2 : (T.setVm s.vm).sameButNew ({ U with vm := s.vm } : State) [] (0 + 1) (0 + 6) := ⟨e1, e2⟩
    have h3 := X.same.trans h2
    rw [List.append_nil] at h3
    exact h3.mono hc hs
  refine ⟨U, ?_, .threw T.heap.size, hrun, hend, Or.inr ⟨T.heap.size, rfl, cls, ce, locs, hx U hWs.alike f1 (fun q hq => f2 q hq (fun z hz => nomatch hz)), hce, hO.vm, hcl, hWs, hall, hf⟩⟩
  refine st1 _ ?_
  show Steps p.tables e below (T1.setTop { method := m, pc := pc + 3, locals := ls, stack := .ref T.heap.size :: rest, locked := none }) _
  jvm_step X₁.here [X₁.here.top, hexec, d3', Value.category]
  exact X₁.ldcStringW hexec (own := own) (text := text) (index := is) (a := sa) hown' hstr'.1 hstr'.2
    (g := { method := m, pc := pc + 4, locals := ls, stack := .ref T.heap.size :: .ref T.heap.size :: rest, locked := none }) rfl d4' _ hsteps
end Ends
section Bodies
variable {l : Launch}
theorem vx_ofW {y : MethodName} {ws ws' : List Cond} {rm : Room} {Pc : Array Value → State → Prop} {Qc : Array Value → State → Outcome → State → Prop} {XC : String → State → State → Prop} {mc ms : Nat} {free : Addr → Prop} {cc : ByteArray} {maxL : Nat} {ret : Option FieldType}
    (hy : plainName y.cls = true) (hw : ws = Cond.code y cc maxL ret :: ws')
    (body : ∀ p e s m args below meth c s₁, BodyLoose p l y (headSpec ws rm) cc maxL ret e s m args below meth c s₁ → c.maxLocals = maxL → (∀ x ∈ c.exceptionTable.toList, False) → Pc args s →
      W p l e (headSpec ws rm).room s m args below meth c s.heap [] 0 0 (vx_MQ below Qc XC args s mc ms free) (entryFrame m args maxL)) : vx_Met l y ws rm Pc Qc XC mc ms free := by
  refine MetFree.of_bodyS (code := cc) (maxLocals := maxL) (ret := ret) hy ?_ ?_
  · intro args s m h hn
    obtain ⟨meth, c, h1, h2, h3, h4, h5, h6, -, -⟩ := Cond.code_spec hn (atoms_spec (ws := ws) h _ (by rw [hw]; exact List.mem_cons_self))
    exact ⟨meth, c, h1, h2, h3, h4, h5, h6⟩
  · intro p e s m args below meth c s₁ B hml hP _
    have hh0 : s₁.heap = s.heap := by rw [B.state]; rfl
    have ht : ∀ x ∈ c.exceptionTable.toList, False := by
      obtain ⟨meth9, c9, h1, h2, -, -, -, -, h7, -⟩ := Cond.code_spec B.named (atoms_spec (ws := ws) B.pre _ (by rw [hw]; exact List.mem_cons_self))
      cases Option.some.inj (h1.symm.trans B.method)
      cases Option.some.inj (h2.symm.trans (Stand.of_body B).code)
      intro x hx
      rw [Array.isEmpty_iff.mp h7] at hx
      cases hx
    obtain ⟨t, a1, o, b1, b2, b3⟩ := body p e s m args below meth c s₁ B hml ht hP s₁ hh0 (Stand.of_body B)
    exact ⟨t, o, a1, b1, b2, b3⟩
/-- the table of a body with handlers -/
theorem vx_table {p : Program} {x y : MethodName} {S : Spec} {cc bytes : ByteArray} {maxL maxL' : Nat} {ret ret' : Option FieldType} {e : Env} {s s₁ : State} {m : MethodId} {args : Array Value} {below : List Frame} {meth : Method} {c : Code} {hh : List (Nat × Nat × Nat × Nat)}
    (B : BodyLoose p l y S cc maxL ret e s m args below meth c s₁) (h : (Cond.codeWith y bytes maxL' ret' hh).before args s = true) : c.exceptionTable.toList = tableOf hh := by
  obtain ⟨m9, meth9, c9, hn9, h1, h2, -, -, h6, -⟩ := Cond.codeWith_spec h
  cases Option.some.inj (hn9.symm.trans B.named)
  cases Option.some.inj (h1.symm.trans B.method)
  cases Option.some.inj (h2.symm.trans (Stand.of_body B).code)
  rw [← h6, table_eq]
end Bodies
end VXA
/-! ===== END ===== -/
/-! ===== BEGIN a static call of a method with an exception table ===== -/
section VXS
variable {p : Program} {l : Launch} {e : Env} {R : Room} {s : State} {m : MethodId} {args : Array Value} {below : List Frame} {meth : Method} {c : Code} {T : State} {H : Heap} {locs : List Loc} {cells slots : Nat}
abbrev vx_CSW (R : Room) (s : State) (args : Array Value) (own : String) (index : Nat) (y : MethodName) (bytes : ByteArray) (maxL : Nat) (ret : Option FieldType) (hh : List (Nat × Nat × Nat × Nat)) (ws : List Cond) (rm : Room) (mc ms n : Nat) : Prop :=
  (rm.cells = mc ∧ rm.slots = ms ∧ rm.frames + 1 ≤ R.frames ∧ 8 + (maxL + 11) + rm.locals ≤ R.locals ∧ (∀ w ∈ ws, ∀ (a' : Array Value) (U : State), s.WarmedH U.vm → w.before a' U = true) ∧ Cond.codeWith y bytes maxL ret hh ∈ ws) ∧
  (Cond.codeWith y bytes maxL ret hh).before args s = true ∧ (Cond.initialized y.cls).before args s = true ∧ (y.cls ≠ "java/lang/invoke/MethodHandle" ∧ y.cls ≠ "java/lang/invoke/VarHandle") ∧
  (∀ sig, parseMethodDescriptor y.desc = some sig → n = sig.parameters.length) ∧ (Cond.methodLink own index y).before args s = true ∧ (Cond.static y).before args s = true
theorem vx_cwSW {own : String} {index maxL mc ms : Nat} {y : MethodName} {bytes : ByteArray} {ret : Option FieldType} {hh : List (Nat × Nat × Nat × Nat)} {Ts ws ws' : List Cond} {rm : Room} (n : Nat) (ht : ∀ w ∈ Ts, w.before args s = true) (hT : GoodIn Ts (va_wsS own index y ws)) (hw : ws = Cond.codeWith y bytes maxL ret hh :: ws') (hrc : rm.cells = mc) (hrs : rm.slots = ms)
    (hd : y.cls ≠ "java/lang/invoke/MethodHandle" ∧ y.cls ≠ "java/lang/invoke/VarHandle" ∧ (parseMethodDescriptor y.desc).map (fun d => d.parameters.length) = some n) (hR : rm.frames + 1 ≤ R.frames ∧ 8 + (maxL + 11) + rm.locals ≤ R.locals) :
    vx_CSW R s args own index y bytes maxL ret hh ws rm mc ms n := by
  have ok : ∀ w ∈ va_wsS own index y ws, w.before args s = true := fun w h => ht w (hT w h).1
  have hG : GoodIn Ts ws := fun w h => hT w (by unfold va_wsS; exact List.mem_append_right _ h)
  have hc : Cond.codeWith y bytes maxL ret hh ∈ ws := by rw [hw]; exact List.mem_cons_self
  refine ⟨⟨hrc, hrs, hR.1, hR.2, pay_in ht hG, hc⟩, ht _ (hG _ hc).1, ok _ (by simp [va_wsS]), ⟨hd.1, hd.2.1⟩, fun sig h => ?_, ok _ (by simp [va_wsS]), ok _ (by simp [va_wsS])⟩
  have h2 := hd.2.2
  rw [h] at h2
  exact (Option.some.inj h2).symm
theorem vx_callSW (X : Stand p l e R s m args below meth c T locs cells slots) (hexec : p.tables.exec = Jvm.exec) {own : String} {index : Nat} {y : MethodName} {bytes : ByteArray} {maxL : Nat} {ret : Option FieldType} {hh : List (Nat × Nat × Nat × Nat)}
    (hown : s.vm.findClass own = some m.cls) (hlink : (Cond.methodLink own index y).before args s = true) (hstat : (Cond.static y).before args s = true) (hinit : (Cond.initialized y.cls).before args s = true)
    (hcode : (Cond.codeWith y bytes maxL ret hh).before args s = true) (hy : y.cls ≠ "java/lang/invoke/MethodHandle" ∧ y.cls ≠ "java/lang/invoke/VarHandle")
    {W9 : Nat} {Pre : Pt → Array Value → Prop} {Post : Pt → Array Value → Option Value → Pt → Prop} (hK : Back l R p e below s args y 3 W9 Pre Post)
    {g : JFrame} (hg : g.method = m) (hsize : g.locals.size = c.maxLocals) {argsL rest : List Value} (hlen : ∀ sig, parseMethodDescriptor y.desc = some sig → argsL.length = sig.parameters.length)
    (hstack : g.stack = argsL.reverse ++ rest) (hW : 2 * g.monitorRoom + (rest.map fun v => v.category).sum ≤ W9) (hdg : decode c.code g.pc = .ok (.invokestatic index, 3))
    (hpre : ∀ vm₁, s.WarmedH vm₁ → Pre ⟨T.setVm vm₁, locs, cells, slots⟩ argsL.toArray) :
    ∃ (v : Option Value) (vm₁ : Vm) (B : Pt), s.WarmedH vm₁ ∧ Stand p l e R s m args below meth c B.U B.locs B.cells B.slots ∧ Post ⟨T.setVm vm₁, locs, cells, slots⟩ argsL.toArray v B ∧
      ∀ target, Steps p.tables e below (B.U.setTop { g with pc := g.pc + 3, stack := v.toList ++ rest }) target → Steps p.tables e below (T.setTop g) target := by
  obtain ⟨mk, methM, cM, hnamed, hmethM, -, -, -, -, -, -, hsigM⟩ := Cond.codeWith_spec hcode
  have hstatic : methM.isStatic = true := Cond.static_spec hnamed hmethM hstat
  obtain ⟨kP, hkP, -⟩ := className_of_methodNamed hnamed
  have hinitP : kP.init = .initialized := Cond.initialized_spec (findClass_of_methodNamed hnamed) hkP hinit
  obtain ⟨vm₁, X₁, hstep₁⟩ := X.invokestatic hexec hown hlink hnamed hmethM hstatic hkP hinitP hy (g := g) hg (argsL := argsL) (rest := rest) (hlen _ hsigM) hstack hdg
  obtain ⟨v, B, X', hpost, hsteps⟩ := hK m meth c ⟨T.setVm vm₁, locs, cells, slots⟩ { g with stack := rest } (.invokestatic index) mk argsL.toArray X₁ hg hsize hdg hW (X₁.named hnamed) (hpre vm₁ X₁.warmed)
  exact ⟨v, vm₁, B, X₁.warmed, X', hpost, fun target h => hstep₁ _ fun acts => by rw [doInvoke_state]; exact hsteps.trans h⟩
theorem vx_runSW {y : MethodName} {bytes cc : ByteArray} {maxL nL mc ms n index : Nat} {ret : Option FieldType} {hh : List (Nat × Nat × Nat × Nat)} {ws : List Cond} {rm : Room} {Pc : Array Value → State → Prop} {Qc : Array Value → State → Outcome → State → Prop} {free : Addr → Prop} {Ts : List Cond} {own : String} {As rest : List Value} {g : JFrame}
    (S : CallFix p m c cc nL s args Ts own) (hM : Met l y ws rm Pc Qc mc ms free) (cw : vx_CSW R s args own index y bytes maxL ret hh ws rm mc ms n) (hp : PreS s H Pc As)
    (hg : g.method = m) (hn : As.length = n) (hsize : g.locals.size = nL) (hstack : g.stack = As.reverse ++ rest) (hW : 2 * g.monitorRoom + (rest.map fun v => v.category).sum ≤ 8) (hdg : decode cc g.pc = .ok (.invokestatic index, 3)) (hf : cells + mc ≤ R.cells ∧ slots + ms ≤ R.slots) :
    va_Run p l e R s m args below meth c H locs cells slots mc ms g rest (Qc As.toArray) (free) := by
  obtain ⟨⟨hrc, hrs, hfr, hlo, hws, hcw⟩, hcode, hini, hy, hlen, hl, hstt⟩ := cw
  have hK : Back l R p e below s args y 3 8 (PreOf R mc ms Pc) (PostOf Qc mc ms free) := va_backW (hh := hh) (bytes := bytes) (maxL := maxL) (ret := ret) hM hp.1 hrc hrs hfr hlo hws hcw (fun a' U hW => word_at hW (Or.inl (by first | rfl | simp [Cond.onTables, Cond.keeps, Cond.steady])) hini)
  obtain ⟨hx, hb, hml, ho, -⟩ := S
  intro T hT X
  obtain ⟨v, vm₁, ⟨U', l2, c2, s2⟩, hW₁, X', ⟨g', mk, t, L, e1, e2, hq, h1, hL, h2, h3⟩, st⟩ := vx_callSW X hx (hh := hh) (bytes := bytes) (maxL := maxL) (ret := ret) ho hl hstt hini hcode hy hK hg (hsize.trans hml.symm) (argsL := As) (rest := rest) (fun sig h => hn.trans (hlen sig h)) hstack hW (by rw [hb]; exact hdg)
    (fun vm₁ hW₁ => ⟨hf.1, hf.2, hp.2 (T.setVm vm₁) hT hW₁⟩)
  dsimp only [Pt.U, Pt.locs, Pt.cells, Pt.slots] at X' e1 e2 h1 h2 h3 st
  subst h1; subst h2; subst h3
  exact ⟨v, (T.setVm vm₁).calling g' mk As.toArray, t, U', L, hT, X', hL, e1, e2, hq, st⟩
/-- not caught here, past rows that name other classes: it goes on to the caller -/
theorem vx_outP {p : Program} {l : Launch} {e : Env} {R : Room} {s : State} {m : MethodId} {args : Array Value} {below : List Frame} {meth : Method} {c : Code} {H : Heap} {locs : List Loc} {cells slots : Nat} {free : Addr → Prop} {ls : Array Slot} {rest : List Value} {Qc : Array Value → State → Outcome → State → Prop} {XC : String → State → State → Prop}
    {pc : Nat} {own E : String} {ce : Cell} {q : Addr} {mc ms : Nat} (hown : s.vm.findClass own = some m.cls) (hlocks : meth.locks = false)
    (hpass : ∀ z ∈ c.exceptionTable.toList, covers z pc = false ∨ (z.catchType ≠ 0 ∧ ∃ nm : String, (Cond.classLink own z.catchType nm).before args s = true ∧ va_Nc E nm s)) (hcell : H[q]? = some ce) (hv : ce.vm = .none) (hcl : s.vm.findClass E = some ce.cls)
    (hx : ∀ t : State, t.heap = H → s.vm.Alike t.vm → XC E s t) (hf : ∀ z ∈ locs, free z.base) (hc : cells ≤ mc) (hs : slots ≤ ms) :
    vx_W p l e R s m args below meth c H locs cells slots (vx_MQ below Qc XC args s mc ms free) (F0 m pc ls rest) q := by
  intro T hT X
  have hpl : e.platform.magicAccessors = ({} : Platform).magicAccessors := by rw [X.admits.platform]
  obtain ⟨vm', hW', X', st⟩ := X.outThrough hlocks q (g := F0 m pc ls rest) rfl rfl rfl (cell := ce) (by rw [hT]; exact hcell) (by rw [hv]; rfl)
    (by obtain ⟨k9, h9, -⟩ := Vm.findClass_spec hcl; exact ⟨k9, h9⟩) (fun z hz => by
      rcases hpass z hz with h | ⟨hz0, nm, hl1, hn1⟩
      · exact Or.inl h
      · obtain ⟨c6, hc6, hcl6⟩ := Cond.classLink_spec hown hl1 e.platform hpl
        obtain ⟨a8, b8, h1, h2, h3⟩ := hn1
        cases Option.some.inj (h1.symm.trans hcl)
        cases Option.some.inj (h2.symm.trans hc6)
        exact Or.inr ⟨hz0, _, hcl6, h3⟩)
  obtain ⟨g₀, hfr⟩ := X'.frames_eq
  have hcell9 : ((T.setVm vm').setFrames (.throwing q :: below)).heap[q]? = some ce := by
    show T.heap[q]? = some ce
    rw [hT]; exact hcell
  have hend : Ended ((T.setVm vm').setFrames (.throwing q :: below)) below (.threw q) := State.frames_setFrames _ (State.cur_lt_of_frames hfr)
  refine ⟨(T.setVm vm').setFrames (.throwing q :: below), ?_, .threw q, X'.here.running, hend, Or.inr ⟨q, rfl, E, ce, locs, hx _ hT (X'.ends _).1.alike, hcell9, hv, hcl, (X'.ends _).1, (X'.ends _).2.mono hc hs, hf⟩⟩
  rw [X.pushThrowing_eq]
  exact st
/-- a thing of a world lies in the heap -/
theorem vx_lt {D : va_G} {cl : List vw_C} {ws : va_W} {H1 : Heap} (h : va_P D cl ws H1) {k : Nat} {q : Nat × va_E} (hk : ws[k]? = some q) : q.1 < H1.size := (h k q hk).lt
end VXS
/-! ===== END ===== -/
/-! ===== BEGIN methods with a table of their own: called by a name, returning or throwing ===== -/
section VXH
/-! vx_backW, vx_callVX, vx_callSX, vx_callVW, vx_runVW, vx_runVX, vx_runSX, vx_ofWH follow the same proofs as their sisters above (Free/Laws.lean, Shelf42/LK1.lean); vx_outP calls Shelf42/NT130.lean (outThrough). -/
section
variable {l : Launch} {R : Room} {p : Program} {e : Env} {below : List Frame} {s : State} {sargs : Array Value} {y : MethodName} {len W9 : Nat}
theorem vx_backW {ws : List Cond} {rm : Room} {Pc : Array Value → State → Prop} {Qc : Array Value → State → Outcome → State → Prop} {XC : String → State → State → Prop} {mc ms : Nat} {free : Addr → Prop} {bytes : ByteArray} {maxL : Nat} {ret : Option FieldType} {hh : List (Nat × Nat × Nat × Nat)}
    (hM : vx_Met l y ws rm Pc Qc XC mc ms free) (hblind : FrameBlind Pc) (hrc : rm.cells = mc) (hrs : rm.slots = ms)
    (hframes : rm.frames + 1 ≤ R.frames) (hlocals : W9 + (maxL + 11) + rm.locals ≤ R.locals)
    (hws : ∀ w ∈ ws, ∀ a' U, s.WarmedH U.vm → w.before a' U = true) (hcode : Cond.codeWith y bytes maxL ret hh ∈ ws) (hinit : ∀ a' U, s.WarmedH U.vm → (Cond.initialized y.cls).before a' U = true) :
    vx_Back l R p e below s sargs y len W9 (PreOf R mc ms Pc) (PostOf Qc mc ms free) (vx_Post XC mc ms free) := by
  intro m meth c A g ig mk a X hg hsize hdg hW hn hp
  have h1 : (headSpec ws rm).pre.before a A.U = true := atoms_intro fun w hw => hws w hw _ _ X.warmed
  have h2 : (Cond.codeWith y bytes maxL ret hh).before a A.U = true := hws _ hcode _ _ X.warmed
  have h3 : (Cond.initialized y.cls).before a A.U = true := hinit _ _ X.warmed
  have h4 : A.cells + (headSpec ws rm).room.cells ≤ R.cells := by rw [show (headSpec ws rm).room.cells = mc from hrc]; exact hp.1
  have h5 : A.slots + (headSpec ws rm).room.slots ≤ R.slots := by rw [show (headSpec ws rm).room.slots = ms from hrs]; exact hp.2.1
  have hPc : Pc a (A.U.calling g mk a) := hblind _ _ _ _ hp.2.2
  obtain ⟨U, Ls, c0, s0⟩ := A
  dsimp only [Pt.U, Pt.locs, Pt.cells, Pt.slots] at h1 h2 h3 h4 h5 X hn hPc ⊢
  obtain ⟨m9, methY, cY, hn9, hmY, hcY, -, hlY, -⟩ := Cond.codeWith_spec h2
  cases Option.some.inj (hn9.symm.trans hn)
  obtain ⟨kY, hkY, -⟩ := className_of_methodNamed hn
  have hinitY : kY.init = .initialized := Cond.initialized_spec (findClass_of_methodNamed hn) hkY h3
  have h : At U g.method c below := by rw [hg]; exact X.here
  have hlocals9 : W9 + (maxL + 11) + (headSpec ws rm).room.locals ≤ R.locals := hlocals
  have happ : (headSpec ws rm).appliesLoose y e.platform (U.calling g mk a) = true :=
    Spec.appliesLoose_calling (g := g) h hdg hn hkY hinitY
      (X.room_calling (g := g) (R' := (headSpec ws rm).room) hsize hmY hcY hframes (by rw [hlY]; omega) h4 h5) h1
  obtain ⟨mid, hmid⟩ := h.above
  have hfr : (U.setTop g).frames = (.java g :: mid) ++ below := by rw [State.frames_setTop' g h.top, hmid]; rfl
  obtain ⟨o, s₂, hsteps, -, hend, hq⟩ := Steps.callFree hM p X.admits X.cas X.clock (acts := []) hfr happ hPc trivial
  have hq' : vx_Q Qc XC mc ms free a (U.calling g mk a) o s₂ := hq
  rw [State.frames_setTop' g h.top] at hend
  obtain ⟨g₀, hg0⟩ := Option.isSome_iff_exists.mp h.top
  obtain ⟨r, hr⟩ := State.topJava?_eq_some.mp hg0
  have hr' : (({ U with heap := s₂.heap, slotsUsed := s₂.slotsUsed } : State).setVm s₂.vm).frames = .java g₀ :: r := hr
  rcases hq' with ⟨hqc, L, hfe, hL⟩ | ⟨q, rfl, E, ce, L, hx, hce, hcv, hcl, hW₂, hsm, hL⟩
  · obtain ⟨⟨v, rfl⟩, hW₂, e2, q2, q3, q4, q5, q6⟩ := id hfe
    have e3 : s₂ = ({ (U.calling g mk a).setFrames s₂.frames with heap := s₂.heap, slotsUsed := s₂.slotsUsed } : State).setVm s₂.vm := by
      have : s₂ = ({ s₂ with vm := (U.calling g mk a).vm } : State).setVm s₂.vm := rfl
      rw [e2] at this
      exact this
    obtain ⟨c₂, i₂, len₂, hc₂, hd₂, hf₂⟩ := hend
    have hW' : U.WarmedH s₂.vm := hW₂
    have hcc : c₂ = c := by
      have h1 : s₂.code? g.method = U.code? g.method := by
        rw [State.code?_eq, State.code?_eq, hW'.alike.method?]
      exact Option.some.inj (hc₂.symm.trans (h1.trans h.code))
    subst hcc
    have hlen : len₂ = len := by rw [hdg] at hd₂; cases hd₂; rfl
    subst hlen
    have hs₂ : s₂ = (({ U with heap := s₂.heap, slotsUsed := s₂.slotsUsed } : State).setVm s₂.vm).setTop { g with pc := g.pc + len₂, stack := v.toList ++ g.stack } := by
      refine e3.trans ?_
      rw [hf₂, State.calling_eq h.top, State.setFrames_setFrames, State.setTop_of_frames _ hr', hr]
      rfl
    have hsame : U.sameButNew ({ U with heap := s₂.heap, slotsUsed := s₂.slotsUsed } : State) L mc ms := by
      refine ⟨?_, q2, q3, q4, q5, q6⟩
      obtain ⟨t, ht, -⟩ := State.frames_cons hr
      show ({ U with heap := s₂.heap, slotsUsed := s₂.slotsUsed } : State) = { U.setFrames U.frames with heap := s₂.heap, slotsUsed := s₂.slotsUsed }
      rw [State.setFrames_self ht]
    subst hg
    refine Or.inl ⟨v, ⟨(({ U with heap := s₂.heap, slotsUsed := s₂.slotsUsed } : State).setVm s₂.vm), Ls ++ L, c0 + mc, s0 + ms⟩,
      ⟨X.admits, X.cas, X.clock, X.frames, X.room, X.hears, X.method, X.code, (X.here.setHeapUsed s₂.heap s₂.slotsUsed).setVm hW'.alike, X.tail, State.WarmedH.trans X.warmed hW', X.limits, X.bytes, X.same.trans (hsame.setVm s.vm)⟩,
      ⟨g, mk, s₂, L, rfl, rfl, hqc, rfl, hL, rfl, rfl⟩, ?_⟩
    show Steps p.tables e below _ ((({ U with heap := s₂.heap, slotsUsed := s₂.slotsUsed } : State).setVm s₂.vm).setTop { g with pc := g.pc + len₂, stack := v.toList ++ g.stack })
    rw [← hs₂]
    exact hsteps
  · obtain ⟨e2, q2, q3, q4, q5, q6⟩ := id hsm
    have e3 : s₂ = ({ (U.calling g mk a).setFrames s₂.frames with heap := s₂.heap, slotsUsed := s₂.slotsUsed } : State).setVm s₂.vm := by
      have : s₂ = ({ s₂ with vm := (U.calling g mk a).vm } : State).setVm s₂.vm := rfl
      rw [e2] at this
      exact this
    have hf₂ : s₂.frames = .throwing q :: .java g :: U.frames.tail := hend
    have hW' : U.WarmedH s₂.vm := hW₂
    have hs₂ : s₂ = ((({ U with heap := s₂.heap, slotsUsed := s₂.slotsUsed } : State).setVm s₂.vm).setTop g).pushFrame (.throwing q) := by
      refine e3.trans ?_
      rw [hf₂, State.calling_eq h.top, State.setFrames_setFrames, State.pushFrame, State.frames_setTop _ hr', State.setTop_of_frames _ hr', State.setFrames_setFrames, hr]
      rfl
    have hsame : U.sameButNew ({ U with heap := s₂.heap, slotsUsed := s₂.slotsUsed } : State) L mc ms := by
      refine ⟨?_, q2, q3, q4, q5, q6⟩
      obtain ⟨t, ht, -⟩ := State.frames_cons hr
      show ({ U with heap := s₂.heap, slotsUsed := s₂.slotsUsed } : State) = { U.setFrames U.frames with heap := s₂.heap, slotsUsed := s₂.slotsUsed }
      rw [State.setFrames_self ht]
    subst hg
    refine Or.inr ⟨q, ⟨(({ U with heap := s₂.heap, slotsUsed := s₂.slotsUsed } : State).setVm s₂.vm), Ls ++ L, c0 + mc, s0 + ms⟩,
      ⟨X.admits, X.cas, X.clock, X.frames, X.room, X.hears, X.method, X.code, (X.here.setHeapUsed s₂.heap s₂.slotsUsed).setVm hW'.alike, X.tail, State.WarmedH.trans X.warmed hW', X.limits, X.bytes, X.same.trans (hsame.setVm s.vm)⟩,
      ⟨g, mk, s₂, L, E, ce, rfl, rfl, hx, hce, hcv, hcl, rfl, hL, rfl, rfl⟩, ?_⟩
    show Steps p.tables e below _ (((({ U with heap := s₂.heap, slotsUsed := s₂.slotsUsed } : State).setVm s₂.vm).setTop g).pushFrame (.throwing q))
    rw [← hs₂]
    exact hsteps
end
variable {p : Program} {l : Launch} {e : Env} {R : Room} {s : State} {m : MethodId} {args : Array Value} {below : List Frame} {meth : Method} {c : Code} {T : State} {H : Heap} {locs : List Loc} {cells slots : Nat}
theorem vx_callVX (X : Stand p l e R s m args below meth c T locs cells slots) (hexec : p.tables.exec = Jvm.exec) {own C : String} {index : Nat} {y : MethodName} {bytes : ByteArray} {maxL : Nat} {ret : Option FieldType} {hh : List (Nat × Nat × Nat × Nat)}
    (hown : s.vm.findClass own = some m.cls) (hlink : (Cond.methodLink own index y).before args s = true) (hinst : (Cond.instanceMethod y).before args s = true) (hsel : (Cond.selects C y y).before args s = true)
    (hcode : (Cond.codeWith y bytes maxL ret hh).before args s = true) (hy : y.cls ≠ "java/lang/invoke/MethodHandle" ∧ y.cls ≠ "java/lang/invoke/VarHandle")
    {W9 : Nat} {Pre : Pt → Array Value → Prop} {Post : Pt → Array Value → Option Value → Pt → Prop} {PostX : Pt → Array Value → Addr → Pt → Prop} (hK : vx_Back l R p e below s args y 3 W9 Pre Post PostX)
    {b : Addr} {cellB : Cell} (hcell : T.heap[b]? = some cellB) (hobj : cellB.vm.isStatics = false) (hcls : s.vm.findClass C = some cellB.cls)
    {g : JFrame} (hg : g.method = m) (hsize : g.locals.size = c.maxLocals) {argsL rest : List Value} (hlen : ∀ sig, parseMethodDescriptor y.desc = some sig → argsL.length = sig.parameters.length)
    (hstack : g.stack = argsL.reverse ++ .ref b :: rest) (hW : 2 * g.monitorRoom + (rest.map fun v => v.category).sum ≤ W9) (hdg : decode c.code g.pc = .ok (.invokevirtual index, 3))
    (hpre : ∀ vm₁, s.WarmedH vm₁ → Pre ⟨T.setVm vm₁, locs, cells, slots⟩ (Value.ref b :: argsL).toArray) :
    (∃ (v : Option Value) (vm₁ : Vm) (B : Pt), s.WarmedH vm₁ ∧ Stand p l e R s m args below meth c B.U B.locs B.cells B.slots ∧ Post ⟨T.setVm vm₁, locs, cells, slots⟩ (Value.ref b :: argsL).toArray v B ∧
      ∀ target, Steps p.tables e below (B.U.setTop { g with pc := g.pc + 3, stack := v.toList ++ rest }) target → Steps p.tables e below (T.setTop g) target) ∨
    (∃ (q : Addr) (vm₁ : Vm) (B : Pt), s.WarmedH vm₁ ∧ Stand p l e R s m args below meth c B.U B.locs B.cells B.slots ∧ PostX ⟨T.setVm vm₁, locs, cells, slots⟩ (Value.ref b :: argsL).toArray q B ∧
      Steps p.tables e below (T.setTop g) ((B.U.setTop { g with stack := rest }).pushFrame (.throwing q))) := by
  obtain ⟨mk, methM, hnamed, hmethM, hstM, habM⟩ := Cond.instanceMethod_spec hinst
  obtain ⟨m8, methM', cM, hn8, hmethM', -, -, -, -, -, -, hsigM⟩ := Cond.codeWith_spec hcode
  cases Option.some.inj (hn8.symm.trans hnamed)
  cases hmethM.symm.trans hmethM'
  obtain ⟨c2, r2, m2, q1, q2, q3, q4, kP, hkP, hkPi⟩ := Cond.selects_spec hsel
  cases hcls.symm.trans q1
  cases (State.methodFound?_of_named hnamed hy).symm.trans q2
  cases hnamed.symm.trans q3
  have hselP : selectMethod e.platform s.vm cellB.cls mk = .method mk := by rw [Launch.admits_selectMethod X.admits]; exact q4
  obtain ⟨vm₁, X₁, hstep₁⟩ := X.invokevirtual hexec hown hlink hnamed hmethM hstM hkP hkPi hy (a := b) (cell := cellB) hcell
    (fun z h => by rw [h] at hobj; cases hobj) hselP hmethM habM hkP hkPi (g := g) hg (argsL := argsL) (rest := rest) (hlen _ hsigM) hstack hdg
  rcases hK m meth c ⟨T.setVm vm₁, locs, cells, slots⟩ { g with stack := rest } (.invokevirtual index) mk (Value.ref b :: argsL).toArray X₁ hg hsize hdg hW (X₁.named hnamed) (hpre vm₁ X₁.warmed) with ⟨v, B, X', hpost, hsteps⟩ | ⟨q, B, X', hpost, hsteps⟩
  · exact Or.inl ⟨v, vm₁, B, X₁.warmed, X', hpost, fun target h => hstep₁ _ fun acts => by rw [doInvoke_state]; exact hsteps.trans h⟩
  · exact Or.inr ⟨q, vm₁, B, X₁.warmed, X', hpost, hstep₁ _ fun acts => by rw [doInvoke_state]; exact hsteps⟩
theorem vx_callSX (X : Stand p l e R s m args below meth c T locs cells slots) (hexec : p.tables.exec = Jvm.exec) {own : String} {index : Nat} {y : MethodName} {bytes : ByteArray} {maxL : Nat} {ret : Option FieldType} {hh : List (Nat × Nat × Nat × Nat)}
    (hown : s.vm.findClass own = some m.cls) (hlink : (Cond.methodLink own index y).before args s = true) (hstat : (Cond.static y).before args s = true) (hinit : (Cond.initialized y.cls).before args s = true)
    (hcode : (Cond.codeWith y bytes maxL ret hh).before args s = true) (hy : y.cls ≠ "java/lang/invoke/MethodHandle" ∧ y.cls ≠ "java/lang/invoke/VarHandle")
    {W9 : Nat} {Pre : Pt → Array Value → Prop} {Post : Pt → Array Value → Option Value → Pt → Prop} {PostX : Pt → Array Value → Addr → Pt → Prop} (hK : vx_Back l R p e below s args y 3 W9 Pre Post PostX)
    {g : JFrame} (hg : g.method = m) (hsize : g.locals.size = c.maxLocals) {argsL rest : List Value} (hlen : ∀ sig, parseMethodDescriptor y.desc = some sig → argsL.length = sig.parameters.length)
    (hstack : g.stack = argsL.reverse ++ rest) (hW : 2 * g.monitorRoom + (rest.map fun v => v.category).sum ≤ W9) (hdg : decode c.code g.pc = .ok (.invokestatic index, 3))
    (hpre : ∀ vm₁, s.WarmedH vm₁ → Pre ⟨T.setVm vm₁, locs, cells, slots⟩ argsL.toArray) :
    (∃ (v : Option Value) (vm₁ : Vm) (B : Pt), s.WarmedH vm₁ ∧ Stand p l e R s m args below meth c B.U B.locs B.cells B.slots ∧ Post ⟨T.setVm vm₁, locs, cells, slots⟩ argsL.toArray v B ∧
      ∀ target, Steps p.tables e below (B.U.setTop { g with pc := g.pc + 3, stack := v.toList ++ rest }) target → Steps p.tables e below (T.setTop g) target) ∨
    (∃ (q : Addr) (vm₁ : Vm) (B : Pt), s.WarmedH vm₁ ∧ Stand p l e R s m args below meth c B.U B.locs B.cells B.slots ∧ PostX ⟨T.setVm vm₁, locs, cells, slots⟩ argsL.toArray q B ∧
      Steps p.tables e below (T.setTop g) ((B.U.setTop { g with stack := rest }).pushFrame (.throwing q))) := by
  obtain ⟨mk, methM, cM, hnamed, hmethM, -, -, -, -, -, -, hsigM⟩ := Cond.codeWith_spec hcode
  have hstatic : methM.isStatic = true := Cond.static_spec hnamed hmethM hstat
  obtain ⟨kP, hkP, -⟩ := className_of_methodNamed hnamed
  have hinitP : kP.init = .initialized := Cond.initialized_spec (findClass_of_methodNamed hnamed) hkP hinit
  obtain ⟨vm₁, X₁, hstep₁⟩ := X.invokestatic hexec hown hlink hnamed hmethM hstatic hkP hinitP hy (g := g) hg (argsL := argsL) (rest := rest) (hlen _ hsigM) hstack hdg
  rcases hK m meth c ⟨T.setVm vm₁, locs, cells, slots⟩ { g with stack := rest } (.invokestatic index) mk argsL.toArray X₁ hg hsize hdg hW (X₁.named hnamed) (hpre vm₁ X₁.warmed) with ⟨v, B, X', hpost, hsteps⟩ | ⟨q, B, X', hpost, hsteps⟩
  · exact Or.inl ⟨v, vm₁, B, X₁.warmed, X', hpost, fun target h => hstep₁ _ fun acts => by rw [doInvoke_state]; exact hsteps.trans h⟩
  · exact Or.inr ⟨q, vm₁, B, X₁.warmed, X', hpost, hstep₁ _ fun acts => by rw [doInvoke_state]; exact hsteps⟩
theorem vx_callVW (X : Stand p l e R s m args below meth c T locs cells slots) (hexec : p.tables.exec = Jvm.exec) {own C : String} {index : Nat} {y : MethodName} {bytes : ByteArray} {maxL : Nat} {ret : Option FieldType} {hh : List (Nat × Nat × Nat × Nat)}
    (hown : s.vm.findClass own = some m.cls) (hlink : (Cond.methodLink own index y).before args s = true) (hinst : (Cond.instanceMethod y).before args s = true) (hsel : (Cond.selects C y y).before args s = true)
    (hcode : (Cond.codeWith y bytes maxL ret hh).before args s = true) (hy : y.cls ≠ "java/lang/invoke/MethodHandle" ∧ y.cls ≠ "java/lang/invoke/VarHandle")
    {W9 : Nat} {Pre : Pt → Array Value → Prop} {Post : Pt → Array Value → Option Value → Pt → Prop} (hK : Back l R p e below s args y 3 W9 Pre Post)
    {b : Addr} {cellB : Cell} (hcell : T.heap[b]? = some cellB) (hobj : cellB.vm.isStatics = false) (hcls : s.vm.findClass C = some cellB.cls)
    {g : JFrame} (hg : g.method = m) (hsize : g.locals.size = c.maxLocals) {argsL rest : List Value} (hlen : ∀ sig, parseMethodDescriptor y.desc = some sig → argsL.length = sig.parameters.length)
    (hstack : g.stack = argsL.reverse ++ .ref b :: rest) (hW : 2 * g.monitorRoom + (rest.map fun v => v.category).sum ≤ W9) (hdg : decode c.code g.pc = .ok (.invokevirtual index, 3))
    (hpre : ∀ vm₁, s.WarmedH vm₁ → Pre ⟨T.setVm vm₁, locs, cells, slots⟩ (Value.ref b :: argsL).toArray) :
    ∃ (v : Option Value) (vm₁ : Vm) (B : Pt), s.WarmedH vm₁ ∧ Stand p l e R s m args below meth c B.U B.locs B.cells B.slots ∧ Post ⟨T.setVm vm₁, locs, cells, slots⟩ (Value.ref b :: argsL).toArray v B ∧
      ∀ target, Steps p.tables e below (B.U.setTop { g with pc := g.pc + 3, stack := v.toList ++ rest }) target → Steps p.tables e below (T.setTop g) target := by
  obtain ⟨mk, methM, hnamed, hmethM, hstM, habM⟩ := Cond.instanceMethod_spec hinst
  obtain ⟨m8, methM', cM, hn8, hmethM', -, -, -, -, -, -, hsigM⟩ := Cond.codeWith_spec hcode
  cases Option.some.inj (hn8.symm.trans hnamed)
  cases hmethM.symm.trans hmethM'
  obtain ⟨c2, r2, m2, q1, q2, q3, q4, kP, hkP, hkPi⟩ := Cond.selects_spec hsel
  cases hcls.symm.trans q1
  cases (State.methodFound?_of_named hnamed hy).symm.trans q2
  cases hnamed.symm.trans q3
  have hselP : selectMethod e.platform s.vm cellB.cls mk = .method mk := by rw [Launch.admits_selectMethod X.admits]; exact q4
  obtain ⟨vm₁, X₁, hstep₁⟩ := X.invokevirtual hexec hown hlink hnamed hmethM hstM hkP hkPi hy (a := b) (cell := cellB) hcell
    (fun z h => by rw [h] at hobj; cases hobj) hselP hmethM habM hkP hkPi (g := g) hg (argsL := argsL) (rest := rest) (hlen _ hsigM) hstack hdg
  obtain ⟨v, B, X', hpost, hsteps⟩ := hK m meth c ⟨T.setVm vm₁, locs, cells, slots⟩ { g with stack := rest } (.invokevirtual index) mk (Value.ref b :: argsL).toArray X₁ hg hsize hdg hW (X₁.named hnamed) (hpre vm₁ X₁.warmed)
  exact ⟨v, vm₁, B, X₁.warmed, X', hpost, fun target h => hstep₁ _ fun acts => by rw [doInvoke_state]; exact hsteps.trans h⟩
abbrev vx_CVW (R : Room) (s : State) (args : Array Value) (own C : String) (index : Nat) (y : MethodName) (bytes : ByteArray) (maxL : Nat) (ret : Option FieldType) (hh : List (Nat × Nat × Nat × Nat)) (ws : List Cond) (rm : Room) (mc ms n : Nat) : Prop :=
  (rm.cells = mc ∧ rm.slots = ms ∧ rm.frames + 1 ≤ R.frames ∧ 8 + (maxL + 11) + rm.locals ≤ R.locals ∧ (∀ w ∈ ws, ∀ (a' : Array Value) (U : State), s.WarmedH U.vm → w.before a' U = true) ∧ Cond.codeWith y bytes maxL ret hh ∈ ws) ∧
  (Cond.codeWith y bytes maxL ret hh).before args s = true ∧ (Cond.initialized y.cls).before args s = true ∧ (y.cls ≠ "java/lang/invoke/MethodHandle" ∧ y.cls ≠ "java/lang/invoke/VarHandle") ∧
  (∀ sig, parseMethodDescriptor y.desc = some sig → n = sig.parameters.length) ∧ (Cond.methodLink own index y).before args s = true ∧ (Cond.instanceMethod y).before args s = true ∧ (Cond.selects C y y).before args s = true
theorem vx_cwVW {own C : String} {index maxL mc ms : Nat} {y : MethodName} {bytes : ByteArray} {ret : Option FieldType} {hh : List (Nat × Nat × Nat × Nat)} {Ts ws ws' : List Cond} {rm : Room} (n : Nat) (ht : ∀ w ∈ Ts, w.before args s = true) (hT : GoodIn Ts (wsV own index C y ws)) (hw : ws = Cond.codeWith y bytes maxL ret hh :: ws') (hrc : rm.cells = mc) (hrs : rm.slots = ms)
    (hd : y.cls = C ∧ y.cls ≠ "java/lang/invoke/MethodHandle" ∧ y.cls ≠ "java/lang/invoke/VarHandle" ∧ (parseMethodDescriptor y.desc).map (fun d => d.parameters.length) = some n) (hR : rm.frames + 1 ≤ R.frames ∧ 8 + (maxL + 11) + rm.locals ≤ R.locals) :
    vx_CVW R s args own C index y bytes maxL ret hh ws rm mc ms n := by
  obtain ⟨hC, hd⟩ := hd
  subst hC
  have ok : ∀ w ∈ wsV own index y.cls y ws, w.before args s = true := fun w h => ht w (hT w h).1
  have hG : GoodIn Ts ws := fun w h => hT w (by unfold wsV; exact List.mem_append_right _ h)
  have hc : Cond.codeWith y bytes maxL ret hh ∈ ws := by rw [hw]; exact List.mem_cons_self
  refine ⟨⟨hrc, hrs, hR.1, hR.2, pay_in ht hG, hc⟩, ht _ (hG _ hc).1, ok _ (by simp [wsV]), ⟨hd.1, hd.2.1⟩, fun sig h => ?_, ok _ (by simp [wsV]), ok _ (by simp [wsV]), ok _ (by simp [wsV])⟩
  have h2 := hd.2.2
  rw [h] at h2
  exact (Option.some.inj h2).symm
theorem vx_runVW {y : MethodName} {bytes cc : ByteArray} {maxL nL mc ms n index : Nat} {ret : Option FieldType} {hh : List (Nat × Nat × Nat × Nat)} {ws : List Cond} {rm : Room} {Pc : Array Value → State → Prop} {Qc : Array Value → State → Outcome → State → Prop} {free : Addr → Prop} {Ts : List Cond} {own C : String} {b : Addr} {As rest : List Value} {g : JFrame}
    (S : CallFix p m c cc nL s args Ts own) (hM : Met l y ws rm Pc Qc mc ms free) (cw : vx_CVW R s args own C index y bytes maxL ret hh ws rm mc ms n) (hp : PreV s H C b Pc As)
    (hg : g.method = m) (hn : As.length = n) (hsize : g.locals.size = nL) (hstack : g.stack = As.reverse ++ .ref b :: rest) (hW : 2 * g.monitorRoom + (rest.map fun v => v.category).sum ≤ 8) (hdg : decode cc g.pc = .ok (.invokevirtual index, 3)) (hf : cells + mc ≤ R.cells ∧ slots + ms ≤ R.slots) :
    va_Run p l e R s m args below meth c H locs cells slots mc ms g rest (Qc (Value.ref b :: As).toArray) free := by
  obtain ⟨⟨hrc, hrs, hfr, hlo, hws, hcw⟩, hcode, hini, hy, hlen, hl, hin, hse⟩ := cw
  have hK : Back l R p e below s args y 3 8 (PreOf R mc ms Pc) (PostOf Qc mc ms free) := va_backW (hh := hh) (bytes := bytes) (maxL := maxL) (ret := ret) hM hp.1 hrc hrs hfr hlo hws hcw (fun a' U hW => word_at hW (Or.inl (by first | rfl | simp [Cond.onTables, Cond.keeps, Cond.steady])) hini)
  obtain ⟨hx, hb, hml, ho, -⟩ := S
  obtain ⟨-, ⟨cellB, hcB, hoB, hclB⟩, hPc⟩ := hp
  intro T hT X
  obtain ⟨v, vm₁, ⟨U', l2, c2, s2⟩, hW₁, X', ⟨g', mk, t, L, e1, e2, hq, h1, hL, h2, h3⟩, st⟩ := vx_callVW X hx (C := C) (hh := hh) (bytes := bytes) (maxL := maxL) (ret := ret) ho hl hin hse hcode hy hK (by rw [hT]; exact hcB) hoB hclB hg (hsize.trans hml.symm) (argsL := As) (rest := rest) (fun sig h => hn.trans (hlen sig h)) hstack hW (by rw [hb]; exact hdg)
    (fun vm₁ hW₁ => ⟨hf.1, hf.2, hPc (T.setVm vm₁) hT hW₁⟩)
  dsimp only [Pt.U, Pt.locs, Pt.cells, Pt.slots] at X' e1 e2 h1 h2 h3 st
  subst h1; subst h2; subst h3
  exact ⟨v, (T.setVm vm₁).calling g' mk (Value.ref b :: As).toArray, t, U', L, hT, X', hL, e1, e2, hq, st⟩
section
variable {y : MethodName} {bytes cc : ByteArray} {maxL nL mc ms n index : Nat} {ret : Option FieldType} {ws : List Cond} {rm : Room} {Pc : Array Value → State → Prop} {Qc : Array Value → State → Outcome → State → Prop} {XC : String → State → State → Prop} {free : Addr → Prop} {Ts : List Cond} {own C : String} {b : Addr} {As rest : List Value} {g : JFrame}
theorem vx_runVX {hh : List (Nat × Nat × Nat × Nat)} (S : CallFix p m c cc nL s args Ts own) (hM : vx_Met l y ws rm Pc Qc XC mc ms free) (cw : vx_CVW R s args own C index y bytes maxL ret hh ws rm mc ms n) (hp : PreV s H C b Pc As)
    (hg : g.method = m) (hn : As.length = n) (hsize : g.locals.size = nL) (hstack : g.stack = As.reverse ++ .ref b :: rest) (hW : 2 * g.monitorRoom + (rest.map fun v => v.category).sum ≤ 8) (hdg : decode cc g.pc = .ok (.invokevirtual index, 3)) (hf : cells + mc ≤ R.cells ∧ slots + ms ≤ R.slots) :
    vx_Run p l e R s m args below meth c H locs cells slots mc ms g rest (Qc (Value.ref b :: As).toArray) XC free := by
  obtain ⟨⟨hrc, hrs, hfr, hlo, hws, hcw⟩, hcode, hini, hy, hlen, hl, hin, hse⟩ := cw
  have hK : vx_Back l R p e below s args y 3 8 (PreOf R mc ms Pc) (PostOf Qc mc ms free) (vx_Post XC mc ms free) := vx_backW (hh := hh) (bytes := bytes) (maxL := maxL) (ret := ret) hM hp.1 hrc hrs hfr hlo hws hcw (fun a' U hW => word_at hW (Or.inl (by first | rfl | simp [Cond.onTables, Cond.keeps, Cond.steady])) hini)
  obtain ⟨hx, hb, hml, ho, -⟩ := S
  obtain ⟨-, ⟨cellB, hcB, hoB, hclB⟩, hPc⟩ := hp
  intro T hT X
  rcases vx_callVX X hx (C := C) (hh := hh) (bytes := bytes) (maxL := maxL) (ret := ret) ho hl hin hse hcode hy hK (by rw [hT]; exact hcB) hoB hclB hg (hsize.trans hml.symm) (argsL := As) (rest := rest) (fun sig h => hn.trans (hlen sig h)) hstack hW (by rw [hb]; exact hdg)
    (fun vm₁ hW₁ => ⟨hf.1, hf.2, hPc (T.setVm vm₁) hT hW₁⟩) with ⟨v, vm₁, ⟨U', l2, c2, s2⟩, hW₁, X', ⟨g', mk, t, L, e1, e2, hq, h1, hL, h2, h3⟩, st⟩ | ⟨q, vm₁, ⟨U', l2, c2, s2⟩, hW₁, X', ⟨g', mk, t, L, E, ce, e1, e2, hq, hce, hcv, hcl, h1, hL, h2, h3⟩, st⟩
  · dsimp only [Pt.U, Pt.locs, Pt.cells, Pt.slots] at X' e1 e2 h1 h2 h3 st
    subst h1; subst h2; subst h3
    exact Or.inl ⟨v, (T.setVm vm₁).calling g' mk (Value.ref b :: As).toArray, t, U', L, hT, X', hL, e1, e2, hq, st⟩
  · dsimp only [Pt.U, Pt.locs, Pt.cells, Pt.slots] at X' e1 e2 h1 h2 h3 st hcl
    subst h1; subst h2; subst h3
    exact Or.inr ⟨q, (T.setVm vm₁).calling g' mk (Value.ref b :: As).toArray, t, U', L, E, ce, hT, X', hL, e1, e2, hq, hce, hcv, vx_cls hW₁ hcl, st⟩
theorem vx_runSX {hh : List (Nat × Nat × Nat × Nat)} (S : CallFix p m c cc nL s args Ts own) (hM : vx_Met l y ws rm Pc Qc XC mc ms free) (cw : vx_CSW R s args own index y bytes maxL ret hh ws rm mc ms n) (hp : PreS s H Pc As)
    (hg : g.method = m) (hn : As.length = n) (hsize : g.locals.size = nL) (hstack : g.stack = As.reverse ++ rest) (hW : 2 * g.monitorRoom + (rest.map fun v => v.category).sum ≤ 8) (hdg : decode cc g.pc = .ok (.invokestatic index, 3)) (hf : cells + mc ≤ R.cells ∧ slots + ms ≤ R.slots) :
    vx_Run p l e R s m args below meth c H locs cells slots mc ms g rest (Qc As.toArray) XC free := by
  obtain ⟨⟨hrc, hrs, hfr, hlo, hws, hcw⟩, hcode, hini, hy, hlen, hl, hstt⟩ := cw
  have hK : vx_Back l R p e below s args y 3 8 (PreOf R mc ms Pc) (PostOf Qc mc ms free) (vx_Post XC mc ms free) := vx_backW (hh := hh) (bytes := bytes) (maxL := maxL) (ret := ret) hM hp.1 hrc hrs hfr hlo hws hcw (fun a' U hW => word_at hW (Or.inl (by first | rfl | simp [Cond.onTables, Cond.keeps, Cond.steady])) hini)
  obtain ⟨hx, hb, hml, ho, -⟩ := S
  intro T hT X
  rcases vx_callSX X hx (hh := hh) (bytes := bytes) (maxL := maxL) (ret := ret) ho hl hstt hini hcode hy hK hg (hsize.trans hml.symm) (argsL := As) (rest := rest) (fun sig h => hn.trans (hlen sig h)) hstack hW (by rw [hb]; exact hdg)
    (fun vm₁ hW₁ => ⟨hf.1, hf.2, hp.2 (T.setVm vm₁) hT hW₁⟩) with ⟨v, vm₁, ⟨U', l2, c2, s2⟩, hW₁, X', ⟨g', mk, t, L, e1, e2, hq, h1, hL, h2, h3⟩, st⟩ | ⟨q, vm₁, ⟨U', l2, c2, s2⟩, hW₁, X', ⟨g', mk, t, L, E, ce, e1, e2, hq, hce, hcv, hcl, h1, hL, h2, h3⟩, st⟩
  · dsimp only [Pt.U, Pt.locs, Pt.cells, Pt.slots] at X' e1 e2 h1 h2 h3 st
    subst h1; subst h2; subst h3
    exact Or.inl ⟨v, (T.setVm vm₁).calling g' mk As.toArray, t, U', L, hT, X', hL, e1, e2, hq, st⟩
  · dsimp only [Pt.U, Pt.locs, Pt.cells, Pt.slots] at X' e1 e2 h1 h2 h3 st hcl
    subst h1; subst h2; subst h3
    exact Or.inr ⟨q, (T.setVm vm₁).calling g' mk As.toArray, t, U', L, E, ce, hT, X', hL, e1, e2, hq, hce, hcv, vx_cls hW₁ hcl, st⟩
end
end VXH
theorem vx_ofWH {l : Launch} {y : MethodName} {ws ws' : List Cond} {rm : Room} {Pc : Array Value → State → Prop} {Qc : Array Value → State → Outcome → State → Prop} {XC : String → State → State → Prop} {mc ms : Nat} {free : Addr → Prop} {cc : ByteArray} {maxL : Nat} {ret : Option FieldType} {hh : List (Nat × Nat × Nat × Nat)}
    (hy : plainName y.cls = true) (hw : ws = Cond.codeWith y cc maxL ret hh :: ws')
    (body : ∀ p e s m args below meth c s₁, BodyLoose p l y (headSpec ws rm) cc maxL ret e s m args below meth c s₁ → c.maxLocals = maxL → Pc args s →
      W p l e (headSpec ws rm).room s m args below meth c s.heap [] 0 0 (vx_MQ below Qc XC args s mc ms free) (entryFrame m args maxL)) : vx_Met l y ws rm Pc Qc XC mc ms free := by
  refine MetFree.of_bodyS (code := cc) (maxLocals := maxL) (ret := ret) hy ?_ ?_
  · intro args s m h hn
    obtain ⟨m9, meth, c, hn9, h1, h2, h3, h4, -, h5, h6, -⟩ := Cond.codeWith_spec (atoms_spec (ws := ws) h _ (by rw [hw]; exact List.mem_cons_self))
    cases hn.symm.trans hn9
    exact ⟨meth, c, h1, h2, h3, h4, h5, h6⟩
  · intro p e s m args below meth c s₁ B hml hP _
    have hh0 : s₁.heap = s.heap := by rw [B.state]; rfl
    obtain ⟨t, a1, o, b1, b2, b3⟩ := body p e s m args below meth c s₁ B hml hP s₁ hh0 (Stand.of_body B)
    exact ⟨t, o, a1, b1, b2, b3⟩
/-! ===== END ===== -/
end
section
def RX0 : String := "CurfewDesk"
def TX0 : u_T := fun k => match k with
  | 0 => ("CurfewDesk", "orderQuarter", "[I", true)
  | 1 => ("CurfewDesk", "orderAhead", "[I", true)
  | 2 => ("CurfewDesk", "orderBehind", "[I", true)
  | 3 => ("CurfewDesk", "orderColour", "[I", true)
  | 4 => ("CurfewDesk", "orderInForce", "[Z", true)
  | 5 => ("CurfewDesk", "orderExempt", "[I", true)
  | 6 => ("CurfewDesk", "personTrade", "[I", true)
  | 7 => ("CurfewDesk", "personFined", "[I", true)
  | 8 => ("CurfewDesk", "personOwes", "[I", true)
  | 9 => ("CurfewDesk", "personStamps", "[I", true)
  | 10 => ("CurfewDesk", "usedStamps", "[I", true)
  | 11 => ("CurfewDesk", "quarterCount", "I", false)
  | 12 => ("CurfewDesk", "orderCount", "I", false)
  | 13 => ("CurfewDesk", "personCount", "I", false)
  | 14 => ("CurfewDesk", "duskShift", "I", false)
  | _ => ("CurfewDesk", "now", "I", false)
def tyX0 : Nat → FieldType := fun k => match k with
  | 0 => .array .int
  | 1 => .array .int
  | 2 => .array .int
  | 3 => .array .int
  | 4 => .array .boolean
  | 5 => .array .int
  | 6 => .array .int
  | 7 => .array .int
  | 8 => .array .int
  | 9 => .array .int
  | 10 => .array .int
  | 11 => .int
  | 12 => .int
  | 13 => .int
  | 14 => .int
  | _ => .int
abbrev wsX00 : List Cond := u_ws RX0 TX0 16
theorem nmX0 : ∀ a, a < 16 → ∀ b, b < 16 → a ≠ b → (TX0 a).2.1 ≠ (TX0 b).2.1 := by decide +kernel
theorem tyX0_ok : ∀ k, k < 16 → parseFieldDescriptor (TX0 k).2.2.1 = some (tyX0 k) := by decide +kernel
abbrev cX0_init : ByteArray := prog_1_method_1_code
def yX0_init : MethodName := ⟨RX0, "<init>", "()V"⟩
abbrev cX0_addQuarter : ByteArray := prog_1_method_2_code
def yX0_addQuarter : MethodName := ⟨RX0, "addQuarter", "()I"⟩
abbrev cX0_addPerson : ByteArray := prog_1_method_3_code
def yX0_addPerson : MethodName := ⟨RX0, "addPerson", "(I)I"⟩
abbrev cX0_addOrder : ByteArray := prog_1_method_4_code
def yX0_addOrder : MethodName := ⟨RX0, "addOrder", "(IIII)I"⟩
abbrev cX0_turnExempt : ByteArray := prog_1_method_5_code
def yX0_turnExempt : MethodName := ⟨RX0, "turnExempt", "(II)Z"⟩
abbrev cX0_turnOrder : ByteArray := prog_1_method_6_code
def yX0_turnOrder : MethodName := ⟨RX0, "turnOrder", "(I)Z"⟩
abbrev cX0_setShift : ByteArray := prog_1_method_7_code
def yX0_setShift : MethodName := ⟨RX0, "setShift", "(I)I"⟩
abbrev cX0_givePass : ByteArray := prog_1_method_8_code
def yX0_givePass : MethodName := ⟨RX0, "givePass", "(III)I"⟩
abbrev cX0_takePass : ByteArray := prog_1_method_9_code
def yX0_takePass : MethodName := ⟨RX0, "takePass", "(II)I"⟩
abbrev cX0_goOut : ByteArray := prog_1_method_10_code
def yX0_goOut : MethodName := ⟨RX0, "goOut", "(II)I"⟩
abbrev cX0_pass : ByteArray := prog_1_method_11_code
def yX0_pass : MethodName := ⟨RX0, "pass", "(I)I"⟩
abbrev cX0_day : ByteArray := prog_1_method_12_code
def yX0_day : MethodName := ⟨RX0, "day", "()I"⟩
abbrev cX0_halfHour : ByteArray := prog_1_method_13_code
def yX0_halfHour : MethodName := ⟨RX0, "halfHour", "()I"⟩
abbrev cX0_duskIn : ByteArray := prog_1_method_14_code
def yX0_duskIn : MethodName := ⟨RX0, "duskIn", "(I)I"⟩
abbrev cX0_dawnIn : ByteArray := prog_1_method_15_code
def yX0_dawnIn : MethodName := ⟨RX0, "dawnIn", "(I)I"⟩
abbrev cX0_quarterOf : ByteArray := prog_1_method_16_code
def yX0_quarterOf : MethodName := ⟨RX0, "quarterOf", "(I)I"⟩
abbrev cX0_colourOf : ByteArray := prog_1_method_17_code
def yX0_colourOf : MethodName := ⟨RX0, "colourOf", "(I)I"⟩
abbrev cX0_isInForce : ByteArray := prog_1_method_18_code
def yX0_isInForce : MethodName := ⟨RX0, "isInForce", "(I)Z"⟩
abbrev cX0_isOn : ByteArray := prog_1_method_19_code
def yX0_isOn : MethodName := ⟨RX0, "isOn", "(I)Z"⟩
abbrev cX0_isExempt : ByteArray := prog_1_method_20_code
def yX0_isExempt : MethodName := ⟨RX0, "isExempt", "(II)Z"⟩
abbrev cX0_barredBy : ByteArray := prog_1_method_21_code
def yX0_barredBy : MethodName := ⟨RX0, "barredBy", "(I)I"⟩
abbrev cX0_tradeOf : ByteArray := prog_1_method_22_code
def yX0_tradeOf : MethodName := ⟨RX0, "tradeOf", "(I)I"⟩
abbrev cX0_stampsOf : ByteArray := prog_1_method_23_code
def yX0_stampsOf : MethodName := ⟨RX0, "stampsOf", "(II)I"⟩
abbrev cX0_owes : ByteArray := prog_1_method_24_code
def yX0_owes : MethodName := ⟨RX0, "owes", "(I)I"⟩
abbrev cX0_timesFined : ByteArray := prog_1_method_25_code
def yX0_timesFined : MethodName := ⟨RX0, "timesFined", "(I)I"⟩
abbrev cX0_ordersAgainst : ByteArray := prog_1_method_26_code
def yX0_ordersAgainst : MethodName := ⟨RX0, "ordersAgainst", "(II)I"⟩
abbrev cX0_mayGo : ByteArray := prog_1_method_27_code
def yX0_mayGo : MethodName := ⟨RX0, "mayGo", "(II)Z"⟩
abbrev cX0_stampsMissing : ByteArray := prog_1_method_28_code
def yX0_stampsMissing : MethodName := ⟨RX0, "stampsMissing", "(II)I"⟩
abbrev cX0_quarters : ByteArray := prog_1_method_29_code
def yX0_quarters : MethodName := ⟨RX0, "quarters", "()I"⟩
abbrev cX0_orders : ByteArray := prog_1_method_30_code
def yX0_orders : MethodName := ⟨RX0, "orders", "()I"⟩
abbrev cX0_people : ByteArray := prog_1_method_31_code
def yX0_people : MethodName := ⟨RX0, "people", "()I"⟩
abbrev cX0_ordersOn : ByteArray := prog_1_method_32_code
def yX0_ordersOn : MethodName := ⟨RX0, "ordersOn", "()I"⟩
abbrev cX0_shift : ByteArray := prog_1_method_33_code
def yX0_shift : MethodName := ⟨RX0, "shift", "()I"⟩
abbrev cX0_allOwe : ByteArray := prog_1_method_34_code
def yX0_allOwe : MethodName := ⟨RX0, "allOwe", "()I"⟩
abbrev cX0_stampsUsed : ByteArray := prog_1_method_35_code
def yX0_stampsUsed : MethodName := ⟨RX0, "stampsUsed", "(I)I"⟩
abbrev cX0_halfHoursUntilFree : ByteArray := prog_1_method_36_code
def yX0_halfHoursUntilFree : MethodName := ⟨RX0, "halfHoursUntilFree", "(II)I"⟩
abbrev cX0_halfHoursOn : ByteArray := prog_1_method_37_code
def yX0_halfHoursOn : MethodName := ⟨RX0, "halfHoursOn", "(I)I"⟩
abbrev cX0_bestLift : ByteArray := prog_1_method_38_code
def yX0_bestLift : MethodName := ⟨RX0, "bestLift", "()I"⟩
abbrev cX0_meanDebt : ByteArray := prog_1_method_39_code
def yX0_meanDebt : MethodName := ⟨RX0, "meanDebt", "()D"⟩
abbrev cX0_digest : ByteArray := prog_1_method_40_code
def yX0_digest : MethodName := ⟨RX0, "digest", "()J"⟩
abbrev cX0_foldOrder : ByteArray := prog_1_method_41_code
def yX0_foldOrder : MethodName := ⟨RX0, "foldOrder", "(JI)J"⟩
abbrev cX0_foldPerson : ByteArray := prog_1_method_42_code
def yX0_foldPerson : MethodName := ⟨RX0, "foldPerson", "(JI)J"⟩
abbrev cX0_fold : ByteArray := prog_1_method_43_code
def yX0_fold : MethodName := ⟨RX0, "fold", "(JI)J"⟩
abbrev cX0_oneIf : ByteArray := prog_1_method_44_code
def yX0_oneIf : MethodName := ⟨RX0, "oneIf", "(Z)I"⟩
abbrev cX0_tideOf : ByteArray := prog_1_method_45_code
def yX0_tideOf : MethodName := ⟨RX0, "tideOf", "(I)I"⟩
abbrev cX0_duskOf : ByteArray := prog_1_method_46_code
def yX0_duskOf : MethodName := ⟨RX0, "duskOf", "(I)I"⟩
abbrev cX0_dawnOf : ByteArray := prog_1_method_47_code
def yX0_dawnOf : MethodName := ⟨RX0, "dawnOf", "(I)I"⟩
abbrev cX0_isInHours : ByteArray := prog_1_method_48_code
def yX0_isInHours : MethodName := ⟨RX0, "isInHours", "(II)Z"⟩
abbrev cX0_isOnAt : ByteArray := prog_1_method_49_code
def yX0_isOnAt : MethodName := ⟨RX0, "isOnAt", "(II)Z"⟩
abbrev cX0_exempts : ByteArray := prog_1_method_50_code
def yX0_exempts : MethodName := ⟨RX0, "exempts", "(II)Z"⟩
abbrev cX0_bars : ByteArray := prog_1_method_51_code
def yX0_bars : MethodName := ⟨RX0, "bars", "(IIII)Z"⟩
abbrev cX0_isFreeAt : ByteArray := prog_1_method_52_code
def yX0_isFreeAt : MethodName := ⟨RX0, "isFreeAt", "(III)Z"⟩
abbrev cX0_timesBegun : ByteArray := prog_1_method_53_code
def yX0_timesBegun : MethodName := ⟨RX0, "timesBegun", "(II)I"⟩
abbrev cX0_pairsFreedBy : ByteArray := prog_1_method_54_code
def yX0_pairsFreedBy : MethodName := ⟨RX0, "pairsFreedBy", "(I)I"⟩
abbrev cX0_stampPlace : ByteArray := prog_1_method_55_code
def yX0_stampPlace : MethodName := ⟨RX0, "stampPlace", "(II)I"⟩
abbrev cX0_useStamp : ByteArray := prog_1_method_56_code
def yX0_useStamp : MethodName := ⟨RX0, "useStamp", "(II)Z"⟩
abbrev cX0_fineOnce : ByteArray := prog_1_method_57_code
def yX0_fineOnce : MethodName := ⟨RX0, "fineOnce", "(I)I"⟩
abbrev cX0_missing : ByteArray := prog_1_method_58_code
def yX0_missing : MethodName := ⟨RX0, "missing", "(III)I"⟩
abbrev cX0_requireQuarter : ByteArray := prog_1_method_59_code
def yX0_requireQuarter : MethodName := ⟨RX0, "requireQuarter", "(I)V"⟩
abbrev cX0_requireOrder : ByteArray := prog_1_method_60_code
def yX0_requireOrder : MethodName := ⟨RX0, "requireOrder", "(I)V"⟩
abbrev cX0_requirePerson : ByteArray := prog_1_method_61_code
def yX0_requirePerson : MethodName := ⟨RX0, "requirePerson", "(I)V"⟩
abbrev cX0_requireTrade : ByteArray := prog_1_method_62_code
def yX0_requireTrade : MethodName := ⟨RX0, "requireTrade", "(I)V"⟩
abbrev cX0_requireColour : ByteArray := prog_1_method_63_code
def yX0_requireColour : MethodName := ⟨RX0, "requireColour", "(I)V"⟩
abbrev cX0_requireWithin : ByteArray := prog_1_method_64_code
def yX0_requireWithin : MethodName := ⟨RX0, "requireWithin", "(III)V"⟩
def RX1 : String := "CurfewDeskModel"
def TX1 : u_T := fun k => match k with
  | 0 => ("CurfewDeskModel", "thrown", "I", false)
  | 1 => ("CurfewDeskModel", "time", "I", false)
  | 2 => ("CurfewDeskModel", "shift", "I", false)
  | 3 => ("CurfewDeskModel", "quarters", "I", false)
  | 4 => ("CurfewDeskModel", "orders", "I", false)
  | 5 => ("CurfewDeskModel", "people", "I", false)
  | 6 => ("CurfewDeskModel", "quarter", "[I", true)
  | 7 => ("CurfewDeskModel", "ahead", "[I", true)
  | 8 => ("CurfewDeskModel", "behind", "[I", true)
  | 9 => ("CurfewDeskModel", "colour", "[I", true)
  | 10 => ("CurfewDeskModel", "exempt", "[I", true)
  | 11 => ("CurfewDeskModel", "force", "[Z", true)
  | 12 => ("CurfewDeskModel", "trade", "[I", true)
  | 13 => ("CurfewDeskModel", "fined", "[I", true)
  | 14 => ("CurfewDeskModel", "debt", "[I", true)
  | 15 => ("CurfewDeskModel", "stamps", "[I", true)
  | 16 => ("CurfewDeskModel", "used", "[I", true)
  | _ => ("CurfewDeskModel", "wanted", "[I", true)
def tyX1 : Nat → FieldType := fun k => match k with
  | 0 => .int
  | 1 => .int
  | 2 => .int
  | 3 => .int
  | 4 => .int
  | 5 => .int
  | 6 => .array .int
  | 7 => .array .int
  | 8 => .array .int
  | 9 => .array .int
  | 10 => .array .int
  | 11 => .array .boolean
  | 12 => .array .int
  | 13 => .array .int
  | 14 => .array .int
  | 15 => .array .int
  | 16 => .array .int
  | _ => .array .int
abbrev wsX10 : List Cond := u_ws RX1 TX1 18
theorem nmX1 : ∀ a, a < 18 → ∀ b, b < 18 → a ≠ b → (TX1 a).2.1 ≠ (TX1 b).2.1 := by decide +kernel
theorem tyX1_ok : ∀ k, k < 18 → parseFieldDescriptor (TX1 k).2.2.1 = some (tyX1 k) := by decide +kernel
abbrev cX1_init : ByteArray := prog_3_method_1_code
def yX1_init : MethodName := ⟨RX1, "<init>", "()V"⟩
abbrev cX1_thrown : ByteArray := prog_3_method_2_code
def yX1_thrown : MethodName := ⟨RX1, "thrown", "()I"⟩
abbrev cX1_fail : ByteArray := prog_3_method_3_code
def yX1_fail : MethodName := ⟨RX1, "fail", "(I)I"⟩
abbrev cX1_failed : ByteArray := prog_3_method_4_code
def yX1_failed : MethodName := ⟨RX1, "failed", "(I)Z"⟩
abbrev cX1_isIn : ByteArray := prog_3_method_5_code
def yX1_isIn : MethodName := ⟨RX1, "isIn", "(III)Z"⟩
abbrev cX1_isQuarter : ByteArray := prog_3_method_6_code
def yX1_isQuarter : MethodName := ⟨RX1, "isQuarter", "(I)Z"⟩
abbrev cX1_isOrder : ByteArray := prog_3_method_7_code
def yX1_isOrder : MethodName := ⟨RX1, "isOrder", "(I)Z"⟩
abbrev cX1_isPerson : ByteArray := prog_3_method_8_code
def yX1_isPerson : MethodName := ⟨RX1, "isPerson", "(I)Z"⟩
abbrev cX1_isTrade : ByteArray := prog_3_method_9_code
def yX1_isTrade : MethodName := ⟨RX1, "isTrade", "(I)Z"⟩
abbrev cX1_isColour : ByteArray := prog_3_method_10_code
def yX1_isColour : MethodName := ⟨RX1, "isColour", "(I)Z"⟩
abbrev cX1_tide : ByteArray := prog_3_method_11_code
def yX1_tide : MethodName := ⟨RX1, "tide", "(I)I"⟩
abbrev cX1_dusk : ByteArray := prog_3_method_12_code
def yX1_dusk : MethodName := ⟨RX1, "dusk", "(I)I"⟩
abbrev cX1_dawn : ByteArray := prog_3_method_13_code
def yX1_dawn : MethodName := ⟨RX1, "dawn", "(I)I"⟩
abbrev cX1_isAt : ByteArray := prog_3_method_14_code
def yX1_isAt : MethodName := ⟨RX1, "isAt", "(II)Z"⟩
abbrev cX1_onAt : ByteArray := prog_3_method_15_code
def yX1_onAt : MethodName := ⟨RX1, "onAt", "(II)Z"⟩
abbrev cX1_barsAt : ByteArray := prog_3_method_16_code
def yX1_barsAt : MethodName := ⟨RX1, "barsAt", "(IIII)Z"⟩
abbrev cX1_against : ByteArray := prog_3_method_17_code
def yX1_against : MethodName := ⟨RX1, "against", "(III)I"⟩
abbrev cX1_addQuarter : ByteArray := prog_3_method_18_code
def yX1_addQuarter : MethodName := ⟨RX1, "addQuarter", "()I"⟩
abbrev cX1_addPerson : ByteArray := prog_3_method_19_code
def yX1_addPerson : MethodName := ⟨RX1, "addPerson", "(I)I"⟩
abbrev cX1_addOrder : ByteArray := prog_3_method_20_code
def yX1_addOrder : MethodName := ⟨RX1, "addOrder", "(IIII)I"⟩
abbrev cX1_turnExempt : ByteArray := prog_3_method_21_code
def yX1_turnExempt : MethodName := ⟨RX1, "turnExempt", "(II)Z"⟩
abbrev cX1_turnOrder : ByteArray := prog_3_method_22_code
def yX1_turnOrder : MethodName := ⟨RX1, "turnOrder", "(I)Z"⟩
abbrev cX1_setShift : ByteArray := prog_3_method_23_code
def yX1_setShift : MethodName := ⟨RX1, "setShift", "(I)I"⟩
abbrev cX1_isPass : ByteArray := prog_3_method_24_code
def yX1_isPass : MethodName := ⟨RX1, "isPass", "(II)Z"⟩
abbrev cX1_givePass : ByteArray := prog_3_method_25_code
def yX1_givePass : MethodName := ⟨RX1, "givePass", "(III)I"⟩
abbrev cX1_takePass : ByteArray := prog_3_method_26_code
def yX1_takePass : MethodName := ⟨RX1, "takePass", "(II)I"⟩
abbrev cX1_isPair : ByteArray := prog_3_method_27_code
def yX1_isPair : MethodName := ⟨RX1, "isPair", "(II)Z"⟩
abbrev cX1_goOut : ByteArray := prog_3_method_28_code
def yX1_goOut : MethodName := ⟨RX1, "goOut", "(II)I"⟩
abbrev cX1_pass : ByteArray := prog_3_method_29_code
def yX1_pass : MethodName := ⟨RX1, "pass", "(I)I"⟩
abbrev cX1_day : ByteArray := prog_3_method_30_code
def yX1_day : MethodName := ⟨RX1, "day", "()I"⟩
abbrev cX1_halfHour : ByteArray := prog_3_method_31_code
def yX1_halfHour : MethodName := ⟨RX1, "halfHour", "()I"⟩
abbrev cX1_duskIn : ByteArray := prog_3_method_32_code
def yX1_duskIn : MethodName := ⟨RX1, "duskIn", "(I)I"⟩
abbrev cX1_dawnIn : ByteArray := prog_3_method_33_code
def yX1_dawnIn : MethodName := ⟨RX1, "dawnIn", "(I)I"⟩
abbrev cX1_quarterOf : ByteArray := prog_3_method_34_code
def yX1_quarterOf : MethodName := ⟨RX1, "quarterOf", "(I)I"⟩
abbrev cX1_colourOf : ByteArray := prog_3_method_35_code
def yX1_colourOf : MethodName := ⟨RX1, "colourOf", "(I)I"⟩
abbrev cX1_isInForce : ByteArray := prog_3_method_36_code
def yX1_isInForce : MethodName := ⟨RX1, "isInForce", "(I)Z"⟩
abbrev cX1_isOn : ByteArray := prog_3_method_37_code
def yX1_isOn : MethodName := ⟨RX1, "isOn", "(I)Z"⟩
abbrev cX1_isExempt : ByteArray := prog_3_method_38_code
def yX1_isExempt : MethodName := ⟨RX1, "isExempt", "(II)Z"⟩
abbrev cX1_barred : ByteArray := prog_3_method_39_code
def yX1_barred : MethodName := ⟨RX1, "barred", "(I)I"⟩
abbrev cX1_barredBy : ByteArray := prog_3_method_40_code
def yX1_barredBy : MethodName := ⟨RX1, "barredBy", "(I)I"⟩
abbrev cX1_tradeOf : ByteArray := prog_3_method_41_code
def yX1_tradeOf : MethodName := ⟨RX1, "tradeOf", "(I)I"⟩
abbrev cX1_stampsOf : ByteArray := prog_3_method_42_code
def yX1_stampsOf : MethodName := ⟨RX1, "stampsOf", "(II)I"⟩
abbrev cX1_owes : ByteArray := prog_3_method_43_code
def yX1_owes : MethodName := ⟨RX1, "owes", "(I)I"⟩
abbrev cX1_timesFined : ByteArray := prog_3_method_44_code
def yX1_timesFined : MethodName := ⟨RX1, "timesFined", "(I)I"⟩
abbrev cX1_ordersAgainst : ByteArray := prog_3_method_45_code
def yX1_ordersAgainst : MethodName := ⟨RX1, "ordersAgainst", "(II)I"⟩
abbrev cX1_missing : ByteArray := prog_3_method_46_code
def yX1_missing : MethodName := ⟨RX1, "missing", "(II)I"⟩
abbrev cX1_mayGo : ByteArray := prog_3_method_47_code
def yX1_mayGo : MethodName := ⟨RX1, "mayGo", "(II)Z"⟩
abbrev cX1_stampsMissing : ByteArray := prog_3_method_48_code
def yX1_stampsMissing : MethodName := ⟨RX1, "stampsMissing", "(II)I"⟩
abbrev cX1_quarters : ByteArray := prog_3_method_49_code
def yX1_quarters : MethodName := ⟨RX1, "quarters", "()I"⟩
abbrev cX1_orders : ByteArray := prog_3_method_50_code
def yX1_orders : MethodName := ⟨RX1, "orders", "()I"⟩
abbrev cX1_people : ByteArray := prog_3_method_51_code
def yX1_people : MethodName := ⟨RX1, "people", "()I"⟩
abbrev cX1_manyOn : ByteArray := prog_3_method_52_code
def yX1_manyOn : MethodName := ⟨RX1, "manyOn", "()I"⟩
abbrev cX1_ordersOn : ByteArray := prog_3_method_53_code
def yX1_ordersOn : MethodName := ⟨RX1, "ordersOn", "()I"⟩
abbrev cX1_shift : ByteArray := prog_3_method_54_code
def yX1_shift : MethodName := ⟨RX1, "shift", "()I"⟩
abbrev cX1_all : ByteArray := prog_3_method_55_code
def yX1_all : MethodName := ⟨RX1, "all", "()I"⟩
abbrev cX1_allOwe : ByteArray := prog_3_method_56_code
def yX1_allOwe : MethodName := ⟨RX1, "allOwe", "()I"⟩
abbrev cX1_stampsUsed : ByteArray := prog_3_method_57_code
def yX1_stampsUsed : MethodName := ⟨RX1, "stampsUsed", "(I)I"⟩
abbrev cX1_halfHoursUntilFree : ByteArray := prog_3_method_58_code
def yX1_halfHoursUntilFree : MethodName := ⟨RX1, "halfHoursUntilFree", "(II)I"⟩
abbrev cX1_halfHoursOn : ByteArray := prog_3_method_59_code
def yX1_halfHoursOn : MethodName := ⟨RX1, "halfHoursOn", "(I)I"⟩
abbrev cX1_pairs : ByteArray := prog_3_method_60_code
def yX1_pairs : MethodName := ⟨RX1, "pairs", "()I"⟩
abbrev cX1_bestLift : ByteArray := prog_3_method_61_code
def yX1_bestLift : MethodName := ⟨RX1, "bestLift", "()I"⟩
abbrev cX1_meanDebt : ByteArray := prog_3_method_62_code
def yX1_meanDebt : MethodName := ⟨RX1, "meanDebt", "()D"⟩
abbrev cX1_digest : ByteArray := prog_3_method_63_code
def yX1_digest : MethodName := ⟨RX1, "digest", "()J"⟩
def RJ9 : String := "java/lang/Math"
def TJ9 : u_T := fun k => match k with
  | _ => ("", "", "", false)
def tyJ9 : Nat → FieldType := fun k => match k with
  | _ => .int
abbrev wsJ90 : List Cond := u_ws RJ9 TJ9 0
theorem nmJ9 : ∀ a, a < 0 → ∀ b, b < 0 → a ≠ b → (TJ9 a).2.1 ≠ (TJ9 b).2.1 := by decide +kernel
theorem tyJ9_ok : ∀ k, k < 0 → parseFieldDescriptor (TJ9 k).2.2.1 = some (tyJ9 k) := by decide +kernel
abbrev cJ9_max_7cf53 : ByteArray := prog_8_method_65_code
def yJ9_max_7cf53 : MethodName := ⟨RJ9, "max", "(II)I"⟩
abbrev cJ9_min_7cf53 : ByteArray := prog_8_method_69_code
def yJ9_min_7cf53 : MethodName := ⟨RJ9, "min", "(II)I"⟩
def RJ0 : String := "java/lang/String"
def TJ0 : u_T := fun k => match k with
  | _ => ("", "", "", false)
def tyJ0 : Nat → FieldType := fun k => match k with
  | _ => .int
abbrev wsJ00 : List Cond := u_ws RJ0 TJ0 0
theorem nmJ0 : ∀ a, a < 0 → ∀ b, b < 0 → a ≠ b → (TJ0 a).2.1 ≠ (TJ0 b).2.1 := by decide +kernel
theorem tyJ0_ok : ∀ k, k < 0 → parseFieldDescriptor (TJ0 k).2.2.1 = some (tyJ0 k) := by decide +kernel
def RL : String := "CurfewDeskLaw"
abbrev cL_addQuarter : ByteArray := method_3_code
def yL_addQuarter : MethodName := ⟨RL, "addQuarter", "(LCurfewDesk;[J)I"⟩
abbrev cL_addPerson : ByteArray := method_4_code
def yL_addPerson : MethodName := ⟨RL, "addPerson", "(LCurfewDesk;I[J)I"⟩
abbrev cL_addOrder : ByteArray := method_5_code
def yL_addOrder : MethodName := ⟨RL, "addOrder", "(LCurfewDesk;IIII[J)I"⟩
abbrev cL_turnExempt : ByteArray := method_6_code
def yL_turnExempt : MethodName := ⟨RL, "turnExempt", "(LCurfewDesk;II[J)I"⟩
abbrev cL_turnOrder : ByteArray := method_7_code
def yL_turnOrder : MethodName := ⟨RL, "turnOrder", "(LCurfewDesk;I[J)I"⟩
abbrev cL_setShift : ByteArray := method_8_code
def yL_setShift : MethodName := ⟨RL, "setShift", "(LCurfewDesk;I[J)I"⟩
abbrev cL_givePass : ByteArray := method_9_code
def yL_givePass : MethodName := ⟨RL, "givePass", "(LCurfewDesk;III[J)I"⟩
abbrev cL_takePass : ByteArray := method_10_code
def yL_takePass : MethodName := ⟨RL, "takePass", "(LCurfewDesk;II[J)I"⟩
abbrev cL_goOut : ByteArray := method_11_code
def yL_goOut : MethodName := ⟨RL, "goOut", "(LCurfewDesk;II[J)I"⟩
abbrev cL_pass : ByteArray := method_12_code
def yL_pass : MethodName := ⟨RL, "pass", "(LCurfewDesk;I[J)I"⟩
abbrev cL_duskIn : ByteArray := method_13_code
def yL_duskIn : MethodName := ⟨RL, "duskIn", "(LCurfewDesk;I[J)I"⟩
abbrev cL_dawnIn : ByteArray := method_14_code
def yL_dawnIn : MethodName := ⟨RL, "dawnIn", "(LCurfewDesk;I[J)I"⟩
abbrev cL_quarterOf : ByteArray := method_15_code
def yL_quarterOf : MethodName := ⟨RL, "quarterOf", "(LCurfewDesk;I[J)I"⟩
abbrev cL_colourOf : ByteArray := method_16_code
def yL_colourOf : MethodName := ⟨RL, "colourOf", "(LCurfewDesk;I[J)I"⟩
abbrev cL_isInForce : ByteArray := method_17_code
def yL_isInForce : MethodName := ⟨RL, "isInForce", "(LCurfewDesk;I[J)I"⟩
abbrev cL_isOn : ByteArray := method_18_code
def yL_isOn : MethodName := ⟨RL, "isOn", "(LCurfewDesk;I[J)I"⟩
abbrev cL_isExempt : ByteArray := method_19_code
def yL_isExempt : MethodName := ⟨RL, "isExempt", "(LCurfewDesk;II[J)I"⟩
abbrev cL_barredBy : ByteArray := method_20_code
def yL_barredBy : MethodName := ⟨RL, "barredBy", "(LCurfewDesk;I[J)I"⟩
abbrev cL_tradeOf : ByteArray := method_21_code
def yL_tradeOf : MethodName := ⟨RL, "tradeOf", "(LCurfewDesk;I[J)I"⟩
abbrev cL_stampsOf : ByteArray := method_22_code
def yL_stampsOf : MethodName := ⟨RL, "stampsOf", "(LCurfewDesk;II[J)I"⟩
abbrev cL_owes : ByteArray := method_23_code
def yL_owes : MethodName := ⟨RL, "owes", "(LCurfewDesk;I[J)I"⟩
abbrev cL_timesFined : ByteArray := method_24_code
def yL_timesFined : MethodName := ⟨RL, "timesFined", "(LCurfewDesk;I[J)I"⟩
abbrev cL_ordersAgainst : ByteArray := method_25_code
def yL_ordersAgainst : MethodName := ⟨RL, "ordersAgainst", "(LCurfewDesk;II[J)I"⟩
abbrev cL_mayGo : ByteArray := method_26_code
def yL_mayGo : MethodName := ⟨RL, "mayGo", "(LCurfewDesk;II[J)I"⟩
abbrev cL_stampsMissing : ByteArray := method_27_code
def yL_stampsMissing : MethodName := ⟨RL, "stampsMissing", "(LCurfewDesk;II[J)I"⟩
abbrev cL_stampsUsed : ByteArray := method_28_code
def yL_stampsUsed : MethodName := ⟨RL, "stampsUsed", "(LCurfewDesk;I[J)I"⟩
abbrev cL_halfHoursUntilFree : ByteArray := method_29_code
def yL_halfHoursUntilFree : MethodName := ⟨RL, "halfHoursUntilFree", "(LCurfewDesk;II[J)I"⟩
abbrev cL_halfHoursOn : ByteArray := method_30_code
def yL_halfHoursOn : MethodName := ⟨RL, "halfHoursOn", "(LCurfewDesk;I[J)I"⟩
abbrev cL_law : ByteArray := code
def yL_law : MethodName := ⟨RL, "law", "([I)Z"⟩
def wsX0_init : List Cond := .code yX0_init cX0_init 1 none :: ([.methodLink RX0 1 objectInit, .instanceMethod objectInit, .code objectInit ⟨#[0xb1]⟩ 1 none, .arrayClass .int, .fieldLink RX0 9 "CurfewDesk" "orderQuarter" "[I", .fieldLink RX0 13 "CurfewDesk" "orderAhead" "[I", .fieldLink RX0 16 "CurfewDesk" "orderBehind" "[I", .fieldLink RX0 19 "CurfewDesk" "orderColour" "[I", .arrayClass .boolean, .fieldLink RX0 22 "CurfewDesk" "orderInForce" "[Z", .fieldLink RX0 26 "CurfewDesk" "orderExempt" "[I", .fieldLink RX0 29 "CurfewDesk" "personTrade" "[I", .fieldLink RX0 32 "CurfewDesk" "personFined" "[I", .fieldLink RX0 35 "CurfewDesk" "personOwes" "[I", .fieldLink RX0 38 "CurfewDesk" "personStamps" "[I", .fieldLink RX0 41 "CurfewDesk" "usedStamps" "[I"] ++ wsX00)
def wsX0_addQuarter : List Cond := .code yX0_addQuarter cX0_addQuarter 2 (some .int) :: ([.classLink RX0 48 "java/lang/IllegalStateException", .initialized "java/lang/IllegalStateException", .fieldLink RX0 44 "CurfewDesk" "quarterCount" "I"] ++ wsX00 ++ (vx_atS RX0 52 "java/lang/IllegalStateException" ["java/lang/RuntimeException", "java/lang/Exception"]).filter goodWord)
def wsX0_requireTrade : List Cond := .code yX0_requireTrade cX0_requireTrade 1 none :: ([.classLink RX0 190 "java/lang/IndexOutOfBoundsException", .initialized "java/lang/IndexOutOfBoundsException"] ++ (vx_atS RX0 194 "java/lang/IndexOutOfBoundsException" ["java/lang/RuntimeException", "java/lang/Exception"]).filter goodWord)
def wsX0_addPerson : List Cond := .code yX0_addPerson cX0_addPerson 3 (some .int) :: ([.classLink RX0 48 "java/lang/IllegalStateException", .initialized "java/lang/IllegalStateException", .fieldLink RX0 59 "CurfewDesk" "personCount" "I", .fieldLink RX0 29 "CurfewDesk" "personTrade" "[I", .methodLink RX0 55 yX0_requireTrade, .static yX0_requireTrade, .initialized RX0, .code yX0_requireTrade cX0_requireTrade 1 none, .classLink RX0 190 "java/lang/IndexOutOfBoundsException", .initialized "java/lang/IndexOutOfBoundsException"] ++ wsX00 ++ (vx_atS RX0 52 "java/lang/IllegalStateException" ["java/lang/RuntimeException", "java/lang/Exception"]).filter goodWord ++ (vx_atS RX0 194 "java/lang/IndexOutOfBoundsException" ["java/lang/RuntimeException", "java/lang/Exception"]).filter goodWord)
def wsX0_requireQuarter : List Cond := .code yX0_requireQuarter cX0_requireQuarter 2 none :: ([.classLink RX0 190 "java/lang/IndexOutOfBoundsException", .initialized "java/lang/IndexOutOfBoundsException", .fieldLink RX0 44 "CurfewDesk" "quarterCount" "I"] ++ wsX00 ++ (vx_atS RX0 194 "java/lang/IndexOutOfBoundsException" ["java/lang/RuntimeException", "java/lang/Exception"]).filter goodWord)
def wsX0_requireColour : List Cond := .code yX0_requireColour cX0_requireColour 1 none :: ([.classLink RX0 190 "java/lang/IndexOutOfBoundsException", .initialized "java/lang/IndexOutOfBoundsException"] ++ (vx_atS RX0 194 "java/lang/IndexOutOfBoundsException" ["java/lang/RuntimeException", "java/lang/Exception"]).filter goodWord)
def wsX0_requireWithin : List Cond := .code yX0_requireWithin cX0_requireWithin 3 none :: ([.classLink RX0 203 "java/lang/IllegalArgumentException", .initialized "java/lang/IllegalArgumentException"] ++ (vx_atS RX0 207 "java/lang/IllegalArgumentException" ["java/lang/RuntimeException", "java/lang/Exception"]).filter goodWord)
def wsX0_addOrder : List Cond := .code yX0_addOrder cX0_addOrder 6 (some .int) :: ([.classLink RX0 48 "java/lang/IllegalStateException", .initialized "java/lang/IllegalStateException", .fieldLink RX0 74 "CurfewDesk" "orderCount" "I", .fieldLink RX0 9 "CurfewDesk" "orderQuarter" "[I", .fieldLink RX0 13 "CurfewDesk" "orderAhead" "[I", .fieldLink RX0 16 "CurfewDesk" "orderBehind" "[I", .fieldLink RX0 19 "CurfewDesk" "orderColour" "[I", .fieldLink RX0 22 "CurfewDesk" "orderInForce" "[Z", .methodLink RX0 64 yX0_requireQuarter, .instanceMethod yX0_requireQuarter, .selects RX0 yX0_requireQuarter yX0_requireQuarter, .initialized RX0, .code yX0_requireQuarter cX0_requireQuarter 2 none, .classLink RX0 190 "java/lang/IndexOutOfBoundsException", .initialized "java/lang/IndexOutOfBoundsException", .fieldLink RX0 44 "CurfewDesk" "quarterCount" "I", .methodLink RX0 67 yX0_requireColour, .static yX0_requireColour, .code yX0_requireColour cX0_requireColour 1 none, .methodLink RX0 70 yX0_requireWithin, .static yX0_requireWithin, .code yX0_requireWithin cX0_requireWithin 3 none, .classLink RX0 203 "java/lang/IllegalArgumentException", .initialized "java/lang/IllegalArgumentException"] ++ wsX00 ++ (vx_atS RX0 52 "java/lang/IllegalStateException" ["java/lang/RuntimeException", "java/lang/Exception"]).filter goodWord ++ (vx_atS RX0 194 "java/lang/IndexOutOfBoundsException" ["java/lang/RuntimeException", "java/lang/Exception"]).filter goodWord ++ (vx_atS RX0 207 "java/lang/IllegalArgumentException" ["java/lang/RuntimeException", "java/lang/Exception"]).filter goodWord)
def wsX0_requireOrder : List Cond := .code yX0_requireOrder cX0_requireOrder 2 none :: ([.classLink RX0 190 "java/lang/IndexOutOfBoundsException", .initialized "java/lang/IndexOutOfBoundsException", .fieldLink RX0 74 "CurfewDesk" "orderCount" "I"] ++ wsX00 ++ (vx_atS RX0 194 "java/lang/IndexOutOfBoundsException" ["java/lang/RuntimeException", "java/lang/Exception"]).filter goodWord)
def wsX0_exempts : List Cond := .code yX0_exempts cX0_exempts 3 (some .boolean) :: ([.fieldLink RX0 26 "CurfewDesk" "orderExempt" "[I"] ++ wsX00)
def wsX0_turnExempt : List Cond := .code yX0_turnExempt cX0_turnExempt 3 (some .boolean) :: ([.fieldLink RX0 26 "CurfewDesk" "orderExempt" "[I", .methodLink RX0 79 yX0_requireOrder, .instanceMethod yX0_requireOrder, .selects RX0 yX0_requireOrder yX0_requireOrder, .initialized RX0, .code yX0_requireOrder cX0_requireOrder 2 none, .classLink RX0 190 "java/lang/IndexOutOfBoundsException", .initialized "java/lang/IndexOutOfBoundsException", .fieldLink RX0 74 "CurfewDesk" "orderCount" "I", .methodLink RX0 55 yX0_requireTrade, .static yX0_requireTrade, .code yX0_requireTrade cX0_requireTrade 1 none, .methodLink RX0 82 yX0_exempts, .instanceMethod yX0_exempts, .selects RX0 yX0_exempts yX0_exempts, .code yX0_exempts cX0_exempts 3 (some .boolean)] ++ wsX00 ++ (vx_atS RX0 194 "java/lang/IndexOutOfBoundsException" ["java/lang/RuntimeException", "java/lang/Exception"]).filter goodWord)
def wsX0_turnOrder : List Cond := .code yX0_turnOrder cX0_turnOrder 2 (some .boolean) :: ([.fieldLink RX0 22 "CurfewDesk" "orderInForce" "[Z", .methodLink RX0 79 yX0_requireOrder, .instanceMethod yX0_requireOrder, .selects RX0 yX0_requireOrder yX0_requireOrder, .initialized RX0, .code yX0_requireOrder cX0_requireOrder 2 none, .classLink RX0 190 "java/lang/IndexOutOfBoundsException", .initialized "java/lang/IndexOutOfBoundsException", .fieldLink RX0 74 "CurfewDesk" "orderCount" "I"] ++ wsX00 ++ (vx_atS RX0 194 "java/lang/IndexOutOfBoundsException" ["java/lang/RuntimeException", "java/lang/Exception"]).filter goodWord)
def wsX0_setShift : List Cond := .code yX0_setShift cX0_setShift 3 (some .int) :: ([.fieldLink RX0 86 "CurfewDesk" "duskShift" "I", .methodLink RX0 70 yX0_requireWithin, .static yX0_requireWithin, .initialized RX0, .code yX0_requireWithin cX0_requireWithin 3 none, .classLink RX0 203 "java/lang/IllegalArgumentException", .initialized "java/lang/IllegalArgumentException"] ++ wsX00 ++ (vx_atS RX0 207 "java/lang/IllegalArgumentException" ["java/lang/RuntimeException", "java/lang/Exception"]).filter goodWord)
def wsX0_requirePerson : List Cond := .code yX0_requirePerson cX0_requirePerson 2 none :: ([.classLink RX0 190 "java/lang/IndexOutOfBoundsException", .initialized "java/lang/IndexOutOfBoundsException", .fieldLink RX0 59 "CurfewDesk" "personCount" "I"] ++ wsX00 ++ (vx_atS RX0 194 "java/lang/IndexOutOfBoundsException" ["java/lang/RuntimeException", "java/lang/Exception"]).filter goodWord)
def wsX0_stampPlace : List Cond := .code yX0_stampPlace cX0_stampPlace 2 (some .int) :: ([])
def wsX0_givePass : List Cond := .code yX0_givePass cX0_givePass 5 (some .int) :: ([.fieldLink RX0 38 "CurfewDesk" "personStamps" "[I", .methodLink RX0 96 Lib.Math.min.name, .static Lib.Math.min.name, .initialized "java/lang/Math", .code Lib.Math.min.name Lib.Math.min.code 2 (some .int), .methodLink RX0 89 yX0_requirePerson, .instanceMethod yX0_requirePerson, .selects RX0 yX0_requirePerson yX0_requirePerson, .initialized RX0, .code yX0_requirePerson cX0_requirePerson 2 none, .classLink RX0 190 "java/lang/IndexOutOfBoundsException", .initialized "java/lang/IndexOutOfBoundsException", .fieldLink RX0 59 "CurfewDesk" "personCount" "I", .methodLink RX0 67 yX0_requireColour, .static yX0_requireColour, .code yX0_requireColour cX0_requireColour 1 none, .methodLink RX0 70 yX0_requireWithin, .static yX0_requireWithin, .code yX0_requireWithin cX0_requireWithin 3 none, .classLink RX0 203 "java/lang/IllegalArgumentException", .initialized "java/lang/IllegalArgumentException", .methodLink RX0 92 yX0_stampPlace, .static yX0_stampPlace, .code yX0_stampPlace cX0_stampPlace 2 (some .int)] ++ wsX00 ++ (vx_atS RX0 194 "java/lang/IndexOutOfBoundsException" ["java/lang/RuntimeException", "java/lang/Exception"]).filter goodWord ++ (vx_atS RX0 207 "java/lang/IllegalArgumentException" ["java/lang/RuntimeException", "java/lang/Exception"]).filter goodWord)
def wsX0_takePass : List Cond := .code yX0_takePass cX0_takePass 5 (some .int) :: ([.fieldLink RX0 38 "CurfewDesk" "personStamps" "[I", .methodLink RX0 89 yX0_requirePerson, .instanceMethod yX0_requirePerson, .selects RX0 yX0_requirePerson yX0_requirePerson, .initialized RX0, .code yX0_requirePerson cX0_requirePerson 2 none, .classLink RX0 190 "java/lang/IndexOutOfBoundsException", .initialized "java/lang/IndexOutOfBoundsException", .fieldLink RX0 59 "CurfewDesk" "personCount" "I", .methodLink RX0 67 yX0_requireColour, .static yX0_requireColour, .code yX0_requireColour cX0_requireColour 1 none, .methodLink RX0 92 yX0_stampPlace, .static yX0_stampPlace, .code yX0_stampPlace cX0_stampPlace 2 (some .int)] ++ wsX00 ++ (vx_atS RX0 194 "java/lang/IndexOutOfBoundsException" ["java/lang/RuntimeException", "java/lang/Exception"]).filter goodWord)
def wsX0_tideOf : List Cond := .code yX0_tideOf cX0_tideOf 2 (some .int) :: ([])
def wsX0_duskOf : List Cond := .code yX0_duskOf cX0_duskOf 2 (some .int) :: ([.fieldLink RX0 86 "CurfewDesk" "duskShift" "I", .methodLink RX0 184 yX0_tideOf, .static yX0_tideOf, .initialized RX0, .code yX0_tideOf cX0_tideOf 2 (some .int)] ++ wsX00)
def wsX0_dawnOf : List Cond := .code yX0_dawnOf cX0_dawnOf 1 (some .int) :: ([.methodLink RX0 184 yX0_tideOf, .static yX0_tideOf, .initialized RX0, .code yX0_tideOf cX0_tideOf 2 (some .int)])
def wsX0_isInHours : List Cond := .code yX0_isInHours cX0_isInHours 5 (some .boolean) :: ([.fieldLink RX0 13 "CurfewDesk" "orderAhead" "[I", .fieldLink RX0 16 "CurfewDesk" "orderBehind" "[I", .methodLink RX0 122 yX0_duskOf, .instanceMethod yX0_duskOf, .selects RX0 yX0_duskOf yX0_duskOf, .initialized RX0, .code yX0_duskOf cX0_duskOf 2 (some .int), .fieldLink RX0 86 "CurfewDesk" "duskShift" "I", .methodLink RX0 184 yX0_tideOf, .static yX0_tideOf, .code yX0_tideOf cX0_tideOf 2 (some .int), .methodLink RX0 125 yX0_dawnOf, .static yX0_dawnOf, .code yX0_dawnOf cX0_dawnOf 1 (some .int)] ++ wsX00)
def wsX0_bars_r1 : List Cond := [Cond.fieldLink RX0 9 "CurfewDesk" "orderQuarter" "[I", Cond.fieldLink RX0 29 "CurfewDesk" "personTrade" "[I", Cond.fieldLink RX0 22 "CurfewDesk" "orderInForce" "[Z", Cond.methodLink RX0 82 yX0_exempts, Cond.instanceMethod yX0_exempts, Cond.selects RX0 yX0_exempts yX0_exempts, Cond.initialized RX0, Cond.code yX0_exempts cX0_exempts 3 (some .boolean), Cond.fieldLink RX0 26 "CurfewDesk" "orderExempt" "[I", Cond.methodLink RX0 139 yX0_isInHours, Cond.instanceMethod yX0_isInHours, Cond.selects RX0 yX0_isInHours yX0_isInHours, Cond.code yX0_isInHours cX0_isInHours 5 (some .boolean), Cond.fieldLink RX0 13 "CurfewDesk" "orderAhead" "[I", Cond.fieldLink RX0 16 "CurfewDesk" "orderBehind" "[I", Cond.methodLink RX0 122 yX0_duskOf, Cond.instanceMethod yX0_duskOf, Cond.selects RX0 yX0_duskOf yX0_duskOf, Cond.code yX0_duskOf cX0_duskOf 2 (some .int), Cond.fieldLink RX0 86 "CurfewDesk" "duskShift" "I", Cond.methodLink RX0 184 yX0_tideOf, Cond.static yX0_tideOf, Cond.code yX0_tideOf cX0_tideOf 2 (some .int), Cond.methodLink RX0 125 yX0_dawnOf]
def wsX0_bars_r2 : List Cond := [Cond.static yX0_dawnOf, Cond.code yX0_dawnOf cX0_dawnOf 1 (some .int)]
def wsX0_bars : List Cond := .code yX0_bars cX0_bars 5 (some .boolean) :: ((wsX0_bars_r1 ++ wsX0_bars_r2) ++ wsX00)
def wsX0_useStamp : List Cond := .code yX0_useStamp cX0_useStamp 4 (some .boolean) :: ([.fieldLink RX0 38 "CurfewDesk" "personStamps" "[I", .fieldLink RX0 41 "CurfewDesk" "usedStamps" "[I", .methodLink RX0 92 yX0_stampPlace, .static yX0_stampPlace, .initialized RX0, .code yX0_stampPlace cX0_stampPlace 2 (some .int)] ++ wsX00)
def wsX0_fineOnce : List Cond := .code yX0_fineOnce cX0_fineOnce 3 (some .int) :: ([.fieldLink RX0 32 "CurfewDesk" "personFined" "[I", .fieldLink RX0 35 "CurfewDesk" "personOwes" "[I"] ++ wsX00)
def wsX0_goOut_r1 : List Cond := [Cond.fieldLink RX0 74 "CurfewDesk" "orderCount" "I", Cond.fieldLink RX0 101 "CurfewDesk" "now" "I", Cond.fieldLink RX0 19 "CurfewDesk" "orderColour" "[I", Cond.methodLink RX0 89 yX0_requirePerson, Cond.instanceMethod yX0_requirePerson, Cond.selects RX0 yX0_requirePerson yX0_requirePerson, Cond.initialized RX0, Cond.code yX0_requirePerson cX0_requirePerson 2 none, Cond.classLink RX0 190 "java/lang/IndexOutOfBoundsException", Cond.initialized "java/lang/IndexOutOfBoundsException", Cond.fieldLink RX0 59 "CurfewDesk" "personCount" "I", Cond.methodLink RX0 64 yX0_requireQuarter, Cond.instanceMethod yX0_requireQuarter, Cond.selects RX0 yX0_requireQuarter yX0_requireQuarter, Cond.code yX0_requireQuarter cX0_requireQuarter 2 none, Cond.fieldLink RX0 44 "CurfewDesk" "quarterCount" "I", Cond.methodLink RX0 104 yX0_bars, Cond.instanceMethod yX0_bars, Cond.selects RX0 yX0_bars yX0_bars, Cond.code yX0_bars cX0_bars 5 (some .boolean), Cond.fieldLink RX0 9 "CurfewDesk" "orderQuarter" "[I", Cond.fieldLink RX0 29 "CurfewDesk" "personTrade" "[I", Cond.fieldLink RX0 22 "CurfewDesk" "orderInForce" "[Z", Cond.methodLink RX0 82 yX0_exempts]
def wsX0_goOut_r2 : List Cond := [Cond.instanceMethod yX0_exempts, Cond.selects RX0 yX0_exempts yX0_exempts, Cond.code yX0_exempts cX0_exempts 3 (some .boolean), Cond.fieldLink RX0 26 "CurfewDesk" "orderExempt" "[I", Cond.methodLink RX0 139 yX0_isInHours, Cond.instanceMethod yX0_isInHours, Cond.selects RX0 yX0_isInHours yX0_isInHours, Cond.code yX0_isInHours cX0_isInHours 5 (some .boolean), Cond.fieldLink RX0 13 "CurfewDesk" "orderAhead" "[I", Cond.fieldLink RX0 16 "CurfewDesk" "orderBehind" "[I", Cond.methodLink RX0 122 yX0_duskOf, Cond.instanceMethod yX0_duskOf, Cond.selects RX0 yX0_duskOf yX0_duskOf, Cond.code yX0_duskOf cX0_duskOf 2 (some .int), Cond.fieldLink RX0 86 "CurfewDesk" "duskShift" "I", Cond.methodLink RX0 184 yX0_tideOf, Cond.static yX0_tideOf, Cond.code yX0_tideOf cX0_tideOf 2 (some .int), Cond.methodLink RX0 125 yX0_dawnOf, Cond.static yX0_dawnOf, Cond.code yX0_dawnOf cX0_dawnOf 1 (some .int), Cond.methodLink RX0 108 yX0_useStamp, Cond.instanceMethod yX0_useStamp, Cond.selects RX0 yX0_useStamp yX0_useStamp]
def wsX0_goOut_r3 : List Cond := [Cond.code yX0_useStamp cX0_useStamp 4 (some .boolean), Cond.fieldLink RX0 38 "CurfewDesk" "personStamps" "[I", Cond.fieldLink RX0 41 "CurfewDesk" "usedStamps" "[I", Cond.methodLink RX0 92 yX0_stampPlace, Cond.static yX0_stampPlace, Cond.code yX0_stampPlace cX0_stampPlace 2 (some .int), Cond.methodLink RX0 111 yX0_fineOnce, Cond.instanceMethod yX0_fineOnce, Cond.selects RX0 yX0_fineOnce yX0_fineOnce, Cond.code yX0_fineOnce cX0_fineOnce 3 (some .int), Cond.fieldLink RX0 32 "CurfewDesk" "personFined" "[I", Cond.fieldLink RX0 35 "CurfewDesk" "personOwes" "[I"]
def wsX0_goOut : List Cond := .code yX0_goOut cX0_goOut 5 (some .int) :: ((wsX0_goOut_r1 ++ (wsX0_goOut_r2 ++ wsX0_goOut_r3)) ++ wsX00 ++ (vx_atS RX0 194 "java/lang/IndexOutOfBoundsException" ["java/lang/RuntimeException", "java/lang/Exception"]).filter goodWord)
def wsX0_isOnAt : List Cond := .code yX0_isOnAt cX0_isOnAt 3 (some .boolean) :: ([.fieldLink RX0 22 "CurfewDesk" "orderInForce" "[Z", .methodLink RX0 139 yX0_isInHours, .instanceMethod yX0_isInHours, .selects RX0 yX0_isInHours yX0_isInHours, .initialized RX0, .code yX0_isInHours cX0_isInHours 5 (some .boolean), .fieldLink RX0 13 "CurfewDesk" "orderAhead" "[I", .fieldLink RX0 16 "CurfewDesk" "orderBehind" "[I", .methodLink RX0 122 yX0_duskOf, .instanceMethod yX0_duskOf, .selects RX0 yX0_duskOf yX0_duskOf, .code yX0_duskOf cX0_duskOf 2 (some .int), .fieldLink RX0 86 "CurfewDesk" "duskShift" "I", .methodLink RX0 184 yX0_tideOf, .static yX0_tideOf, .code yX0_tideOf cX0_tideOf 2 (some .int), .methodLink RX0 125 yX0_dawnOf, .static yX0_dawnOf, .code yX0_dawnOf cX0_dawnOf 1 (some .int)] ++ wsX00)
def wsX0_timesBegun : List Cond := .code yX0_timesBegun cX0_timesBegun 7 (some .int) :: ([.fieldLink RX0 101 "CurfewDesk" "now" "I", .methodLink RX0 128 yX0_isOnAt, .instanceMethod yX0_isOnAt, .selects RX0 yX0_isOnAt yX0_isOnAt, .initialized RX0, .code yX0_isOnAt cX0_isOnAt 3 (some .boolean), .fieldLink RX0 22 "CurfewDesk" "orderInForce" "[Z", .methodLink RX0 139 yX0_isInHours, .instanceMethod yX0_isInHours, .selects RX0 yX0_isInHours yX0_isInHours, .code yX0_isInHours cX0_isInHours 5 (some .boolean), .fieldLink RX0 13 "CurfewDesk" "orderAhead" "[I", .fieldLink RX0 16 "CurfewDesk" "orderBehind" "[I", .methodLink RX0 122 yX0_duskOf, .instanceMethod yX0_duskOf, .selects RX0 yX0_duskOf yX0_duskOf, .code yX0_duskOf cX0_duskOf 2 (some .int), .fieldLink RX0 86 "CurfewDesk" "duskShift" "I", .methodLink RX0 184 yX0_tideOf, .static yX0_tideOf, .code yX0_tideOf cX0_tideOf 2 (some .int), .methodLink RX0 125 yX0_dawnOf, .static yX0_dawnOf, .code yX0_dawnOf cX0_dawnOf 1 (some .int)] ++ wsX00)
def wsX0_pass_r1 : List Cond := [Cond.fieldLink RX0 74 "CurfewDesk" "orderCount" "I", Cond.fieldLink RX0 101 "CurfewDesk" "now" "I", Cond.methodLink RX0 70 yX0_requireWithin, Cond.static yX0_requireWithin, Cond.initialized RX0, Cond.code yX0_requireWithin cX0_requireWithin 3 none, Cond.classLink RX0 203 "java/lang/IllegalArgumentException", Cond.initialized "java/lang/IllegalArgumentException", Cond.methodLink RX0 115 yX0_timesBegun, Cond.instanceMethod yX0_timesBegun, Cond.selects RX0 yX0_timesBegun yX0_timesBegun, Cond.code yX0_timesBegun cX0_timesBegun 7 (some .int), Cond.methodLink RX0 128 yX0_isOnAt, Cond.instanceMethod yX0_isOnAt, Cond.selects RX0 yX0_isOnAt yX0_isOnAt, Cond.code yX0_isOnAt cX0_isOnAt 3 (some .boolean), Cond.fieldLink RX0 22 "CurfewDesk" "orderInForce" "[Z", Cond.methodLink RX0 139 yX0_isInHours, Cond.instanceMethod yX0_isInHours, Cond.selects RX0 yX0_isInHours yX0_isInHours, Cond.code yX0_isInHours cX0_isInHours 5 (some .boolean), Cond.fieldLink RX0 13 "CurfewDesk" "orderAhead" "[I", Cond.fieldLink RX0 16 "CurfewDesk" "orderBehind" "[I", Cond.methodLink RX0 122 yX0_duskOf]
def wsX0_pass_r2 : List Cond := [Cond.instanceMethod yX0_duskOf, Cond.selects RX0 yX0_duskOf yX0_duskOf, Cond.code yX0_duskOf cX0_duskOf 2 (some .int), Cond.fieldLink RX0 86 "CurfewDesk" "duskShift" "I", Cond.methodLink RX0 184 yX0_tideOf, Cond.static yX0_tideOf, Cond.code yX0_tideOf cX0_tideOf 2 (some .int), Cond.methodLink RX0 125 yX0_dawnOf, Cond.static yX0_dawnOf, Cond.code yX0_dawnOf cX0_dawnOf 1 (some .int)]
def wsX0_pass : List Cond := .code yX0_pass cX0_pass 4 (some .int) :: ((wsX0_pass_r1 ++ wsX0_pass_r2) ++ wsX00 ++ (vx_atS RX0 207 "java/lang/IllegalArgumentException" ["java/lang/RuntimeException", "java/lang/Exception"]).filter goodWord)
def wsX0_day : List Cond := .code yX0_day cX0_day 1 (some .int) :: ([.fieldLink RX0 101 "CurfewDesk" "now" "I"] ++ wsX00)
def wsX0_halfHour : List Cond := .code yX0_halfHour cX0_halfHour 1 (some .int) :: ([.fieldLink RX0 101 "CurfewDesk" "now" "I"] ++ wsX00)
def wsX0_duskIn : List Cond := .code yX0_duskIn cX0_duskIn 2 (some .int) :: ([.methodLink RX0 70 yX0_requireWithin, .static yX0_requireWithin, .initialized RX0, .code yX0_requireWithin cX0_requireWithin 3 none, .classLink RX0 203 "java/lang/IllegalArgumentException", .initialized "java/lang/IllegalArgumentException", .methodLink RX0 118 yX0_day, .instanceMethod yX0_day, .selects RX0 yX0_day yX0_day, .code yX0_day cX0_day 1 (some .int), .fieldLink RX0 101 "CurfewDesk" "now" "I", .methodLink RX0 122 yX0_duskOf, .instanceMethod yX0_duskOf, .selects RX0 yX0_duskOf yX0_duskOf, .code yX0_duskOf cX0_duskOf 2 (some .int), .fieldLink RX0 86 "CurfewDesk" "duskShift" "I", .methodLink RX0 184 yX0_tideOf, .static yX0_tideOf, .code yX0_tideOf cX0_tideOf 2 (some .int)] ++ wsX00 ++ (vx_atS RX0 207 "java/lang/IllegalArgumentException" ["java/lang/RuntimeException", "java/lang/Exception"]).filter goodWord)
def wsX0_dawnIn : List Cond := .code yX0_dawnIn cX0_dawnIn 2 (some .int) :: ([.methodLink RX0 70 yX0_requireWithin, .static yX0_requireWithin, .initialized RX0, .code yX0_requireWithin cX0_requireWithin 3 none, .classLink RX0 203 "java/lang/IllegalArgumentException", .initialized "java/lang/IllegalArgumentException", .methodLink RX0 118 yX0_day, .instanceMethod yX0_day, .selects RX0 yX0_day yX0_day, .code yX0_day cX0_day 1 (some .int), .fieldLink RX0 101 "CurfewDesk" "now" "I", .methodLink RX0 125 yX0_dawnOf, .static yX0_dawnOf, .code yX0_dawnOf cX0_dawnOf 1 (some .int), .methodLink RX0 184 yX0_tideOf, .static yX0_tideOf, .code yX0_tideOf cX0_tideOf 2 (some .int)] ++ wsX00 ++ (vx_atS RX0 207 "java/lang/IllegalArgumentException" ["java/lang/RuntimeException", "java/lang/Exception"]).filter goodWord)
def wsX0_quarterOf : List Cond := .code yX0_quarterOf cX0_quarterOf 2 (some .int) :: ([.fieldLink RX0 9 "CurfewDesk" "orderQuarter" "[I", .methodLink RX0 79 yX0_requireOrder, .instanceMethod yX0_requireOrder, .selects RX0 yX0_requireOrder yX0_requireOrder, .initialized RX0, .code yX0_requireOrder cX0_requireOrder 2 none, .classLink RX0 190 "java/lang/IndexOutOfBoundsException", .initialized "java/lang/IndexOutOfBoundsException", .fieldLink RX0 74 "CurfewDesk" "orderCount" "I"] ++ wsX00 ++ (vx_atS RX0 194 "java/lang/IndexOutOfBoundsException" ["java/lang/RuntimeException", "java/lang/Exception"]).filter goodWord)
def wsX0_colourOf : List Cond := .code yX0_colourOf cX0_colourOf 2 (some .int) :: ([.fieldLink RX0 19 "CurfewDesk" "orderColour" "[I", .methodLink RX0 79 yX0_requireOrder, .instanceMethod yX0_requireOrder, .selects RX0 yX0_requireOrder yX0_requireOrder, .initialized RX0, .code yX0_requireOrder cX0_requireOrder 2 none, .classLink RX0 190 "java/lang/IndexOutOfBoundsException", .initialized "java/lang/IndexOutOfBoundsException", .fieldLink RX0 74 "CurfewDesk" "orderCount" "I"] ++ wsX00 ++ (vx_atS RX0 194 "java/lang/IndexOutOfBoundsException" ["java/lang/RuntimeException", "java/lang/Exception"]).filter goodWord)
def wsX0_isInForce : List Cond := .code yX0_isInForce cX0_isInForce 2 (some .boolean) :: ([.fieldLink RX0 22 "CurfewDesk" "orderInForce" "[Z", .methodLink RX0 79 yX0_requireOrder, .instanceMethod yX0_requireOrder, .selects RX0 yX0_requireOrder yX0_requireOrder, .initialized RX0, .code yX0_requireOrder cX0_requireOrder 2 none, .classLink RX0 190 "java/lang/IndexOutOfBoundsException", .initialized "java/lang/IndexOutOfBoundsException", .fieldLink RX0 74 "CurfewDesk" "orderCount" "I"] ++ wsX00 ++ (vx_atS RX0 194 "java/lang/IndexOutOfBoundsException" ["java/lang/RuntimeException", "java/lang/Exception"]).filter goodWord)
def wsX0_isOn_r1 : List Cond := [Cond.fieldLink RX0 101 "CurfewDesk" "now" "I", Cond.methodLink RX0 79 yX0_requireOrder, Cond.instanceMethod yX0_requireOrder, Cond.selects RX0 yX0_requireOrder yX0_requireOrder, Cond.initialized RX0, Cond.code yX0_requireOrder cX0_requireOrder 2 none, Cond.classLink RX0 190 "java/lang/IndexOutOfBoundsException", Cond.initialized "java/lang/IndexOutOfBoundsException", Cond.fieldLink RX0 74 "CurfewDesk" "orderCount" "I", Cond.methodLink RX0 128 yX0_isOnAt, Cond.instanceMethod yX0_isOnAt, Cond.selects RX0 yX0_isOnAt yX0_isOnAt, Cond.code yX0_isOnAt cX0_isOnAt 3 (some .boolean), Cond.fieldLink RX0 22 "CurfewDesk" "orderInForce" "[Z", Cond.methodLink RX0 139 yX0_isInHours, Cond.instanceMethod yX0_isInHours, Cond.selects RX0 yX0_isInHours yX0_isInHours, Cond.code yX0_isInHours cX0_isInHours 5 (some .boolean), Cond.fieldLink RX0 13 "CurfewDesk" "orderAhead" "[I", Cond.fieldLink RX0 16 "CurfewDesk" "orderBehind" "[I", Cond.methodLink RX0 122 yX0_duskOf, Cond.instanceMethod yX0_duskOf, Cond.selects RX0 yX0_duskOf yX0_duskOf, Cond.code yX0_duskOf cX0_duskOf 2 (some .int)]
def wsX0_isOn_r2 : List Cond := [Cond.fieldLink RX0 86 "CurfewDesk" "duskShift" "I", Cond.methodLink RX0 184 yX0_tideOf, Cond.static yX0_tideOf, Cond.code yX0_tideOf cX0_tideOf 2 (some .int), Cond.methodLink RX0 125 yX0_dawnOf, Cond.static yX0_dawnOf, Cond.code yX0_dawnOf cX0_dawnOf 1 (some .int)]
def wsX0_isOn : List Cond := .code yX0_isOn cX0_isOn 2 (some .boolean) :: ((wsX0_isOn_r1 ++ wsX0_isOn_r2) ++ wsX00 ++ (vx_atS RX0 194 "java/lang/IndexOutOfBoundsException" ["java/lang/RuntimeException", "java/lang/Exception"]).filter goodWord)
def wsX0_isExempt : List Cond := .code yX0_isExempt cX0_isExempt 3 (some .boolean) :: ([.methodLink RX0 79 yX0_requireOrder, .instanceMethod yX0_requireOrder, .selects RX0 yX0_requireOrder yX0_requireOrder, .initialized RX0, .code yX0_requireOrder cX0_requireOrder 2 none, .classLink RX0 190 "java/lang/IndexOutOfBoundsException", .initialized "java/lang/IndexOutOfBoundsException", .fieldLink RX0 74 "CurfewDesk" "orderCount" "I", .methodLink RX0 55 yX0_requireTrade, .static yX0_requireTrade, .code yX0_requireTrade cX0_requireTrade 1 none, .methodLink RX0 82 yX0_exempts, .instanceMethod yX0_exempts, .selects RX0 yX0_exempts yX0_exempts, .code yX0_exempts cX0_exempts 3 (some .boolean), .fieldLink RX0 26 "CurfewDesk" "orderExempt" "[I"] ++ wsX00 ++ (vx_atS RX0 194 "java/lang/IndexOutOfBoundsException" ["java/lang/RuntimeException", "java/lang/Exception"]).filter goodWord)
def wsX0_barredBy_r1 : List Cond := [Cond.fieldLink RX0 59 "CurfewDesk" "personCount" "I", Cond.fieldLink RX0 9 "CurfewDesk" "orderQuarter" "[I", Cond.fieldLink RX0 101 "CurfewDesk" "now" "I", Cond.methodLink RX0 79 yX0_requireOrder, Cond.instanceMethod yX0_requireOrder, Cond.selects RX0 yX0_requireOrder yX0_requireOrder, Cond.initialized RX0, Cond.code yX0_requireOrder cX0_requireOrder 2 none, Cond.classLink RX0 190 "java/lang/IndexOutOfBoundsException", Cond.initialized "java/lang/IndexOutOfBoundsException", Cond.fieldLink RX0 74 "CurfewDesk" "orderCount" "I", Cond.methodLink RX0 104 yX0_bars, Cond.instanceMethod yX0_bars, Cond.selects RX0 yX0_bars yX0_bars, Cond.code yX0_bars cX0_bars 5 (some .boolean), Cond.fieldLink RX0 29 "CurfewDesk" "personTrade" "[I", Cond.fieldLink RX0 22 "CurfewDesk" "orderInForce" "[Z", Cond.methodLink RX0 82 yX0_exempts, Cond.instanceMethod yX0_exempts, Cond.selects RX0 yX0_exempts yX0_exempts, Cond.code yX0_exempts cX0_exempts 3 (some .boolean), Cond.fieldLink RX0 26 "CurfewDesk" "orderExempt" "[I", Cond.methodLink RX0 139 yX0_isInHours, Cond.instanceMethod yX0_isInHours]
def wsX0_barredBy_r2 : List Cond := [Cond.selects RX0 yX0_isInHours yX0_isInHours, Cond.code yX0_isInHours cX0_isInHours 5 (some .boolean), Cond.fieldLink RX0 13 "CurfewDesk" "orderAhead" "[I", Cond.fieldLink RX0 16 "CurfewDesk" "orderBehind" "[I", Cond.methodLink RX0 122 yX0_duskOf, Cond.instanceMethod yX0_duskOf, Cond.selects RX0 yX0_duskOf yX0_duskOf, Cond.code yX0_duskOf cX0_duskOf 2 (some .int), Cond.fieldLink RX0 86 "CurfewDesk" "duskShift" "I", Cond.methodLink RX0 184 yX0_tideOf, Cond.static yX0_tideOf, Cond.code yX0_tideOf cX0_tideOf 2 (some .int), Cond.methodLink RX0 125 yX0_dawnOf, Cond.static yX0_dawnOf, Cond.code yX0_dawnOf cX0_dawnOf 1 (some .int)]
def wsX0_barredBy : List Cond := .code yX0_barredBy cX0_barredBy 4 (some .int) :: ((wsX0_barredBy_r1 ++ wsX0_barredBy_r2) ++ wsX00 ++ (vx_atS RX0 194 "java/lang/IndexOutOfBoundsException" ["java/lang/RuntimeException", "java/lang/Exception"]).filter goodWord)
def wsX0_tradeOf : List Cond := .code yX0_tradeOf cX0_tradeOf 2 (some .int) :: ([.fieldLink RX0 29 "CurfewDesk" "personTrade" "[I", .methodLink RX0 89 yX0_requirePerson, .instanceMethod yX0_requirePerson, .selects RX0 yX0_requirePerson yX0_requirePerson, .initialized RX0, .code yX0_requirePerson cX0_requirePerson 2 none, .classLink RX0 190 "java/lang/IndexOutOfBoundsException", .initialized "java/lang/IndexOutOfBoundsException", .fieldLink RX0 59 "CurfewDesk" "personCount" "I"] ++ wsX00 ++ (vx_atS RX0 194 "java/lang/IndexOutOfBoundsException" ["java/lang/RuntimeException", "java/lang/Exception"]).filter goodWord)
def wsX0_stampsOf : List Cond := .code yX0_stampsOf cX0_stampsOf 3 (some .int) :: ([.fieldLink RX0 38 "CurfewDesk" "personStamps" "[I", .methodLink RX0 89 yX0_requirePerson, .instanceMethod yX0_requirePerson, .selects RX0 yX0_requirePerson yX0_requirePerson, .initialized RX0, .code yX0_requirePerson cX0_requirePerson 2 none, .classLink RX0 190 "java/lang/IndexOutOfBoundsException", .initialized "java/lang/IndexOutOfBoundsException", .fieldLink RX0 59 "CurfewDesk" "personCount" "I", .methodLink RX0 67 yX0_requireColour, .static yX0_requireColour, .code yX0_requireColour cX0_requireColour 1 none, .methodLink RX0 92 yX0_stampPlace, .static yX0_stampPlace, .code yX0_stampPlace cX0_stampPlace 2 (some .int)] ++ wsX00 ++ (vx_atS RX0 194 "java/lang/IndexOutOfBoundsException" ["java/lang/RuntimeException", "java/lang/Exception"]).filter goodWord)
def wsX0_owes : List Cond := .code yX0_owes cX0_owes 2 (some .int) :: ([.fieldLink RX0 35 "CurfewDesk" "personOwes" "[I", .methodLink RX0 89 yX0_requirePerson, .instanceMethod yX0_requirePerson, .selects RX0 yX0_requirePerson yX0_requirePerson, .initialized RX0, .code yX0_requirePerson cX0_requirePerson 2 none, .classLink RX0 190 "java/lang/IndexOutOfBoundsException", .initialized "java/lang/IndexOutOfBoundsException", .fieldLink RX0 59 "CurfewDesk" "personCount" "I"] ++ wsX00 ++ (vx_atS RX0 194 "java/lang/IndexOutOfBoundsException" ["java/lang/RuntimeException", "java/lang/Exception"]).filter goodWord)
def wsX0_timesFined : List Cond := .code yX0_timesFined cX0_timesFined 2 (some .int) :: ([.fieldLink RX0 32 "CurfewDesk" "personFined" "[I", .methodLink RX0 89 yX0_requirePerson, .instanceMethod yX0_requirePerson, .selects RX0 yX0_requirePerson yX0_requirePerson, .initialized RX0, .code yX0_requirePerson cX0_requirePerson 2 none, .classLink RX0 190 "java/lang/IndexOutOfBoundsException", .initialized "java/lang/IndexOutOfBoundsException", .fieldLink RX0 59 "CurfewDesk" "personCount" "I"] ++ wsX00 ++ (vx_atS RX0 194 "java/lang/IndexOutOfBoundsException" ["java/lang/RuntimeException", "java/lang/Exception"]).filter goodWord)
def wsX0_ordersAgainst_r1 : List Cond := [Cond.fieldLink RX0 74 "CurfewDesk" "orderCount" "I", Cond.fieldLink RX0 101 "CurfewDesk" "now" "I", Cond.methodLink RX0 89 yX0_requirePerson, Cond.instanceMethod yX0_requirePerson, Cond.selects RX0 yX0_requirePerson yX0_requirePerson, Cond.initialized RX0, Cond.code yX0_requirePerson cX0_requirePerson 2 none, Cond.classLink RX0 190 "java/lang/IndexOutOfBoundsException", Cond.initialized "java/lang/IndexOutOfBoundsException", Cond.fieldLink RX0 59 "CurfewDesk" "personCount" "I", Cond.methodLink RX0 64 yX0_requireQuarter, Cond.instanceMethod yX0_requireQuarter, Cond.selects RX0 yX0_requireQuarter yX0_requireQuarter, Cond.code yX0_requireQuarter cX0_requireQuarter 2 none, Cond.fieldLink RX0 44 "CurfewDesk" "quarterCount" "I", Cond.methodLink RX0 104 yX0_bars, Cond.instanceMethod yX0_bars, Cond.selects RX0 yX0_bars yX0_bars, Cond.code yX0_bars cX0_bars 5 (some .boolean), Cond.fieldLink RX0 9 "CurfewDesk" "orderQuarter" "[I", Cond.fieldLink RX0 29 "CurfewDesk" "personTrade" "[I", Cond.fieldLink RX0 22 "CurfewDesk" "orderInForce" "[Z", Cond.methodLink RX0 82 yX0_exempts, Cond.instanceMethod yX0_exempts]
def wsX0_ordersAgainst_r2 : List Cond := [Cond.selects RX0 yX0_exempts yX0_exempts, Cond.code yX0_exempts cX0_exempts 3 (some .boolean), Cond.fieldLink RX0 26 "CurfewDesk" "orderExempt" "[I", Cond.methodLink RX0 139 yX0_isInHours, Cond.instanceMethod yX0_isInHours, Cond.selects RX0 yX0_isInHours yX0_isInHours, Cond.code yX0_isInHours cX0_isInHours 5 (some .boolean), Cond.fieldLink RX0 13 "CurfewDesk" "orderAhead" "[I", Cond.fieldLink RX0 16 "CurfewDesk" "orderBehind" "[I", Cond.methodLink RX0 122 yX0_duskOf, Cond.instanceMethod yX0_duskOf, Cond.selects RX0 yX0_duskOf yX0_duskOf, Cond.code yX0_duskOf cX0_duskOf 2 (some .int), Cond.fieldLink RX0 86 "CurfewDesk" "duskShift" "I", Cond.methodLink RX0 184 yX0_tideOf, Cond.static yX0_tideOf, Cond.code yX0_tideOf cX0_tideOf 2 (some .int), Cond.methodLink RX0 125 yX0_dawnOf, Cond.static yX0_dawnOf, Cond.code yX0_dawnOf cX0_dawnOf 1 (some .int)]
def wsX0_ordersAgainst : List Cond := .code yX0_ordersAgainst cX0_ordersAgainst 5 (some .int) :: ((wsX0_ordersAgainst_r1 ++ wsX0_ordersAgainst_r2) ++ wsX00 ++ (vx_atS RX0 194 "java/lang/IndexOutOfBoundsException" ["java/lang/RuntimeException", "java/lang/Exception"]).filter goodWord)
def wsX0_missing_r1 : List Cond := [Cond.fieldLink RX0 74 "CurfewDesk" "orderCount" "I", Cond.fieldLink RX0 19 "CurfewDesk" "orderColour" "[I", Cond.fieldLink RX0 101 "CurfewDesk" "now" "I", Cond.fieldLink RX0 38 "CurfewDesk" "personStamps" "[I", Cond.methodLink RX0 187 Lib.Math.max.name, Cond.static Lib.Math.max.name, Cond.initialized "java/lang/Math", Cond.code Lib.Math.max.name Lib.Math.max.code 2 (some .int), Cond.methodLink RX0 104 yX0_bars, Cond.instanceMethod yX0_bars, Cond.selects RX0 yX0_bars yX0_bars, Cond.initialized RX0, Cond.code yX0_bars cX0_bars 5 (some .boolean), Cond.fieldLink RX0 9 "CurfewDesk" "orderQuarter" "[I", Cond.fieldLink RX0 29 "CurfewDesk" "personTrade" "[I", Cond.fieldLink RX0 22 "CurfewDesk" "orderInForce" "[Z", Cond.methodLink RX0 82 yX0_exempts, Cond.instanceMethod yX0_exempts, Cond.selects RX0 yX0_exempts yX0_exempts, Cond.code yX0_exempts cX0_exempts 3 (some .boolean), Cond.fieldLink RX0 26 "CurfewDesk" "orderExempt" "[I", Cond.methodLink RX0 139 yX0_isInHours, Cond.instanceMethod yX0_isInHours, Cond.selects RX0 yX0_isInHours yX0_isInHours]
def wsX0_missing_r2 : List Cond := [Cond.code yX0_isInHours cX0_isInHours 5 (some .boolean), Cond.fieldLink RX0 13 "CurfewDesk" "orderAhead" "[I", Cond.fieldLink RX0 16 "CurfewDesk" "orderBehind" "[I", Cond.methodLink RX0 122 yX0_duskOf, Cond.instanceMethod yX0_duskOf, Cond.selects RX0 yX0_duskOf yX0_duskOf, Cond.code yX0_duskOf cX0_duskOf 2 (some .int), Cond.fieldLink RX0 86 "CurfewDesk" "duskShift" "I", Cond.methodLink RX0 184 yX0_tideOf, Cond.static yX0_tideOf, Cond.code yX0_tideOf cX0_tideOf 2 (some .int), Cond.methodLink RX0 125 yX0_dawnOf, Cond.static yX0_dawnOf, Cond.code yX0_dawnOf cX0_dawnOf 1 (some .int), Cond.methodLink RX0 92 yX0_stampPlace, Cond.static yX0_stampPlace, Cond.code yX0_stampPlace cX0_stampPlace 2 (some .int)]
def wsX0_missing : List Cond := .code yX0_missing cX0_missing 8 (some .int) :: ((wsX0_missing_r1 ++ wsX0_missing_r2) ++ wsX00)
def wsX0_mayGo_r1 : List Cond := [Cond.methodLink RX0 89 yX0_requirePerson, Cond.instanceMethod yX0_requirePerson, Cond.selects RX0 yX0_requirePerson yX0_requirePerson, Cond.initialized RX0, Cond.code yX0_requirePerson cX0_requirePerson 2 none, Cond.classLink RX0 190 "java/lang/IndexOutOfBoundsException", Cond.initialized "java/lang/IndexOutOfBoundsException", Cond.fieldLink RX0 59 "CurfewDesk" "personCount" "I", Cond.methodLink RX0 64 yX0_requireQuarter, Cond.instanceMethod yX0_requireQuarter, Cond.selects RX0 yX0_requireQuarter yX0_requireQuarter, Cond.code yX0_requireQuarter cX0_requireQuarter 2 none, Cond.fieldLink RX0 44 "CurfewDesk" "quarterCount" "I", Cond.methodLink RX0 131 yX0_missing, Cond.instanceMethod yX0_missing, Cond.selects RX0 yX0_missing yX0_missing, Cond.code yX0_missing cX0_missing 8 (some .int), Cond.fieldLink RX0 74 "CurfewDesk" "orderCount" "I", Cond.fieldLink RX0 19 "CurfewDesk" "orderColour" "[I", Cond.fieldLink RX0 101 "CurfewDesk" "now" "I", Cond.fieldLink RX0 38 "CurfewDesk" "personStamps" "[I", Cond.methodLink RX0 187 Lib.Math.max.name, Cond.static Lib.Math.max.name, Cond.initialized "java/lang/Math"]
def wsX0_mayGo_r2 : List Cond := [Cond.code Lib.Math.max.name Lib.Math.max.code 2 (some .int), Cond.methodLink RX0 104 yX0_bars, Cond.instanceMethod yX0_bars, Cond.selects RX0 yX0_bars yX0_bars, Cond.code yX0_bars cX0_bars 5 (some .boolean), Cond.fieldLink RX0 9 "CurfewDesk" "orderQuarter" "[I", Cond.fieldLink RX0 29 "CurfewDesk" "personTrade" "[I", Cond.fieldLink RX0 22 "CurfewDesk" "orderInForce" "[Z", Cond.methodLink RX0 82 yX0_exempts, Cond.instanceMethod yX0_exempts, Cond.selects RX0 yX0_exempts yX0_exempts, Cond.code yX0_exempts cX0_exempts 3 (some .boolean), Cond.fieldLink RX0 26 "CurfewDesk" "orderExempt" "[I", Cond.methodLink RX0 139 yX0_isInHours, Cond.instanceMethod yX0_isInHours, Cond.selects RX0 yX0_isInHours yX0_isInHours, Cond.code yX0_isInHours cX0_isInHours 5 (some .boolean), Cond.fieldLink RX0 13 "CurfewDesk" "orderAhead" "[I", Cond.fieldLink RX0 16 "CurfewDesk" "orderBehind" "[I", Cond.methodLink RX0 122 yX0_duskOf, Cond.instanceMethod yX0_duskOf, Cond.selects RX0 yX0_duskOf yX0_duskOf, Cond.code yX0_duskOf cX0_duskOf 2 (some .int), Cond.fieldLink RX0 86 "CurfewDesk" "duskShift" "I"]
def wsX0_mayGo_r3 : List Cond := [Cond.methodLink RX0 184 yX0_tideOf, Cond.static yX0_tideOf, Cond.code yX0_tideOf cX0_tideOf 2 (some .int), Cond.methodLink RX0 125 yX0_dawnOf, Cond.static yX0_dawnOf, Cond.code yX0_dawnOf cX0_dawnOf 1 (some .int), Cond.methodLink RX0 92 yX0_stampPlace, Cond.static yX0_stampPlace, Cond.code yX0_stampPlace cX0_stampPlace 2 (some .int)]
def wsX0_mayGo : List Cond := .code yX0_mayGo cX0_mayGo 3 (some .boolean) :: ((wsX0_mayGo_r1 ++ (wsX0_mayGo_r2 ++ wsX0_mayGo_r3)) ++ wsX00 ++ (vx_atS RX0 194 "java/lang/IndexOutOfBoundsException" ["java/lang/RuntimeException", "java/lang/Exception"]).filter goodWord)
def wsX0_stampsMissing_r1 : List Cond := [Cond.methodLink RX0 89 yX0_requirePerson, Cond.instanceMethod yX0_requirePerson, Cond.selects RX0 yX0_requirePerson yX0_requirePerson, Cond.initialized RX0, Cond.code yX0_requirePerson cX0_requirePerson 2 none, Cond.classLink RX0 190 "java/lang/IndexOutOfBoundsException", Cond.initialized "java/lang/IndexOutOfBoundsException", Cond.fieldLink RX0 59 "CurfewDesk" "personCount" "I", Cond.methodLink RX0 64 yX0_requireQuarter, Cond.instanceMethod yX0_requireQuarter, Cond.selects RX0 yX0_requireQuarter yX0_requireQuarter, Cond.code yX0_requireQuarter cX0_requireQuarter 2 none, Cond.fieldLink RX0 44 "CurfewDesk" "quarterCount" "I", Cond.methodLink RX0 131 yX0_missing, Cond.instanceMethod yX0_missing, Cond.selects RX0 yX0_missing yX0_missing, Cond.code yX0_missing cX0_missing 8 (some .int), Cond.fieldLink RX0 74 "CurfewDesk" "orderCount" "I", Cond.fieldLink RX0 19 "CurfewDesk" "orderColour" "[I", Cond.fieldLink RX0 101 "CurfewDesk" "now" "I", Cond.fieldLink RX0 38 "CurfewDesk" "personStamps" "[I", Cond.methodLink RX0 187 Lib.Math.max.name, Cond.static Lib.Math.max.name, Cond.initialized "java/lang/Math"]
def wsX0_stampsMissing_r2 : List Cond := [Cond.code Lib.Math.max.name Lib.Math.max.code 2 (some .int), Cond.methodLink RX0 104 yX0_bars, Cond.instanceMethod yX0_bars, Cond.selects RX0 yX0_bars yX0_bars, Cond.code yX0_bars cX0_bars 5 (some .boolean), Cond.fieldLink RX0 9 "CurfewDesk" "orderQuarter" "[I", Cond.fieldLink RX0 29 "CurfewDesk" "personTrade" "[I", Cond.fieldLink RX0 22 "CurfewDesk" "orderInForce" "[Z", Cond.methodLink RX0 82 yX0_exempts, Cond.instanceMethod yX0_exempts, Cond.selects RX0 yX0_exempts yX0_exempts, Cond.code yX0_exempts cX0_exempts 3 (some .boolean), Cond.fieldLink RX0 26 "CurfewDesk" "orderExempt" "[I", Cond.methodLink RX0 139 yX0_isInHours, Cond.instanceMethod yX0_isInHours, Cond.selects RX0 yX0_isInHours yX0_isInHours, Cond.code yX0_isInHours cX0_isInHours 5 (some .boolean), Cond.fieldLink RX0 13 "CurfewDesk" "orderAhead" "[I", Cond.fieldLink RX0 16 "CurfewDesk" "orderBehind" "[I", Cond.methodLink RX0 122 yX0_duskOf, Cond.instanceMethod yX0_duskOf, Cond.selects RX0 yX0_duskOf yX0_duskOf, Cond.code yX0_duskOf cX0_duskOf 2 (some .int), Cond.fieldLink RX0 86 "CurfewDesk" "duskShift" "I"]
def wsX0_stampsMissing_r3 : List Cond := [Cond.methodLink RX0 184 yX0_tideOf, Cond.static yX0_tideOf, Cond.code yX0_tideOf cX0_tideOf 2 (some .int), Cond.methodLink RX0 125 yX0_dawnOf, Cond.static yX0_dawnOf, Cond.code yX0_dawnOf cX0_dawnOf 1 (some .int), Cond.methodLink RX0 92 yX0_stampPlace, Cond.static yX0_stampPlace, Cond.code yX0_stampPlace cX0_stampPlace 2 (some .int)]
def wsX0_stampsMissing : List Cond := .code yX0_stampsMissing cX0_stampsMissing 3 (some .int) :: ((wsX0_stampsMissing_r1 ++ (wsX0_stampsMissing_r2 ++ wsX0_stampsMissing_r3)) ++ wsX00 ++ (vx_atS RX0 194 "java/lang/IndexOutOfBoundsException" ["java/lang/RuntimeException", "java/lang/Exception"]).filter goodWord)
def wsX0_quarters : List Cond := .code yX0_quarters cX0_quarters 1 (some .int) :: ([.fieldLink RX0 44 "CurfewDesk" "quarterCount" "I"] ++ wsX00)
def wsX0_orders : List Cond := .code yX0_orders cX0_orders 1 (some .int) :: ([.fieldLink RX0 74 "CurfewDesk" "orderCount" "I"] ++ wsX00)
def wsX0_people : List Cond := .code yX0_people cX0_people 1 (some .int) :: ([.fieldLink RX0 59 "CurfewDesk" "personCount" "I"] ++ wsX00)
def wsX0_ordersOn_r1 : List Cond := [Cond.fieldLink RX0 74 "CurfewDesk" "orderCount" "I", Cond.fieldLink RX0 101 "CurfewDesk" "now" "I", Cond.methodLink RX0 128 yX0_isOnAt, Cond.instanceMethod yX0_isOnAt, Cond.selects RX0 yX0_isOnAt yX0_isOnAt, Cond.initialized RX0, Cond.code yX0_isOnAt cX0_isOnAt 3 (some .boolean), Cond.fieldLink RX0 22 "CurfewDesk" "orderInForce" "[Z", Cond.methodLink RX0 139 yX0_isInHours, Cond.instanceMethod yX0_isInHours, Cond.selects RX0 yX0_isInHours yX0_isInHours, Cond.code yX0_isInHours cX0_isInHours 5 (some .boolean), Cond.fieldLink RX0 13 "CurfewDesk" "orderAhead" "[I", Cond.fieldLink RX0 16 "CurfewDesk" "orderBehind" "[I", Cond.methodLink RX0 122 yX0_duskOf, Cond.instanceMethod yX0_duskOf, Cond.selects RX0 yX0_duskOf yX0_duskOf, Cond.code yX0_duskOf cX0_duskOf 2 (some .int), Cond.fieldLink RX0 86 "CurfewDesk" "duskShift" "I", Cond.methodLink RX0 184 yX0_tideOf, Cond.static yX0_tideOf, Cond.code yX0_tideOf cX0_tideOf 2 (some .int), Cond.methodLink RX0 125 yX0_dawnOf, Cond.static yX0_dawnOf]
def wsX0_ordersOn_r2 : List Cond := [Cond.code yX0_dawnOf cX0_dawnOf 1 (some .int)]
def wsX0_ordersOn : List Cond := .code yX0_ordersOn cX0_ordersOn 3 (some .int) :: ((wsX0_ordersOn_r1 ++ wsX0_ordersOn_r2) ++ wsX00)
def wsX0_shift : List Cond := .code yX0_shift cX0_shift 1 (some .int) :: ([.fieldLink RX0 86 "CurfewDesk" "duskShift" "I"] ++ wsX00)
def wsX0_allOwe : List Cond := .code yX0_allOwe cX0_allOwe 3 (some .int) :: ([.fieldLink RX0 59 "CurfewDesk" "personCount" "I", .fieldLink RX0 35 "CurfewDesk" "personOwes" "[I"] ++ wsX00)
def wsX0_stampsUsed : List Cond := .code yX0_stampsUsed cX0_stampsUsed 2 (some .int) :: ([.fieldLink RX0 41 "CurfewDesk" "usedStamps" "[I", .methodLink RX0 67 yX0_requireColour, .static yX0_requireColour, .initialized RX0, .code yX0_requireColour cX0_requireColour 1 none, .classLink RX0 190 "java/lang/IndexOutOfBoundsException", .initialized "java/lang/IndexOutOfBoundsException"] ++ wsX00 ++ (vx_atS RX0 194 "java/lang/IndexOutOfBoundsException" ["java/lang/RuntimeException", "java/lang/Exception"]).filter goodWord)
def wsX0_isFreeAt_r1 : List Cond := [Cond.fieldLink RX0 74 "CurfewDesk" "orderCount" "I", Cond.methodLink RX0 104 yX0_bars, Cond.instanceMethod yX0_bars, Cond.selects RX0 yX0_bars yX0_bars, Cond.initialized RX0, Cond.code yX0_bars cX0_bars 5 (some .boolean), Cond.fieldLink RX0 9 "CurfewDesk" "orderQuarter" "[I", Cond.fieldLink RX0 29 "CurfewDesk" "personTrade" "[I", Cond.fieldLink RX0 22 "CurfewDesk" "orderInForce" "[Z", Cond.methodLink RX0 82 yX0_exempts, Cond.instanceMethod yX0_exempts, Cond.selects RX0 yX0_exempts yX0_exempts, Cond.code yX0_exempts cX0_exempts 3 (some .boolean), Cond.fieldLink RX0 26 "CurfewDesk" "orderExempt" "[I", Cond.methodLink RX0 139 yX0_isInHours, Cond.instanceMethod yX0_isInHours, Cond.selects RX0 yX0_isInHours yX0_isInHours, Cond.code yX0_isInHours cX0_isInHours 5 (some .boolean), Cond.fieldLink RX0 13 "CurfewDesk" "orderAhead" "[I", Cond.fieldLink RX0 16 "CurfewDesk" "orderBehind" "[I", Cond.methodLink RX0 122 yX0_duskOf, Cond.instanceMethod yX0_duskOf, Cond.selects RX0 yX0_duskOf yX0_duskOf, Cond.code yX0_duskOf cX0_duskOf 2 (some .int)]
def wsX0_isFreeAt_r2 : List Cond := [Cond.fieldLink RX0 86 "CurfewDesk" "duskShift" "I", Cond.methodLink RX0 184 yX0_tideOf, Cond.static yX0_tideOf, Cond.code yX0_tideOf cX0_tideOf 2 (some .int), Cond.methodLink RX0 125 yX0_dawnOf, Cond.static yX0_dawnOf, Cond.code yX0_dawnOf cX0_dawnOf 1 (some .int)]
def wsX0_isFreeAt : List Cond := .code yX0_isFreeAt cX0_isFreeAt 5 (some .boolean) :: ((wsX0_isFreeAt_r1 ++ wsX0_isFreeAt_r2) ++ wsX00)
def wsX0_halfHoursUntilFree_r1 : List Cond := [Cond.fieldLink RX0 101 "CurfewDesk" "now" "I", Cond.methodLink RX0 89 yX0_requirePerson, Cond.instanceMethod yX0_requirePerson, Cond.selects RX0 yX0_requirePerson yX0_requirePerson, Cond.initialized RX0, Cond.code yX0_requirePerson cX0_requirePerson 2 none, Cond.classLink RX0 190 "java/lang/IndexOutOfBoundsException", Cond.initialized "java/lang/IndexOutOfBoundsException", Cond.fieldLink RX0 59 "CurfewDesk" "personCount" "I", Cond.methodLink RX0 64 yX0_requireQuarter, Cond.instanceMethod yX0_requireQuarter, Cond.selects RX0 yX0_requireQuarter yX0_requireQuarter, Cond.code yX0_requireQuarter cX0_requireQuarter 2 none, Cond.fieldLink RX0 44 "CurfewDesk" "quarterCount" "I", Cond.methodLink RX0 135 yX0_isFreeAt, Cond.instanceMethod yX0_isFreeAt, Cond.selects RX0 yX0_isFreeAt yX0_isFreeAt, Cond.code yX0_isFreeAt cX0_isFreeAt 5 (some .boolean), Cond.fieldLink RX0 74 "CurfewDesk" "orderCount" "I", Cond.methodLink RX0 104 yX0_bars, Cond.instanceMethod yX0_bars, Cond.selects RX0 yX0_bars yX0_bars, Cond.code yX0_bars cX0_bars 5 (some .boolean), Cond.fieldLink RX0 9 "CurfewDesk" "orderQuarter" "[I"]
def wsX0_halfHoursUntilFree_r2 : List Cond := [Cond.fieldLink RX0 29 "CurfewDesk" "personTrade" "[I", Cond.fieldLink RX0 22 "CurfewDesk" "orderInForce" "[Z", Cond.methodLink RX0 82 yX0_exempts, Cond.instanceMethod yX0_exempts, Cond.selects RX0 yX0_exempts yX0_exempts, Cond.code yX0_exempts cX0_exempts 3 (some .boolean), Cond.fieldLink RX0 26 "CurfewDesk" "orderExempt" "[I", Cond.methodLink RX0 139 yX0_isInHours, Cond.instanceMethod yX0_isInHours, Cond.selects RX0 yX0_isInHours yX0_isInHours, Cond.code yX0_isInHours cX0_isInHours 5 (some .boolean), Cond.fieldLink RX0 13 "CurfewDesk" "orderAhead" "[I", Cond.fieldLink RX0 16 "CurfewDesk" "orderBehind" "[I", Cond.methodLink RX0 122 yX0_duskOf, Cond.instanceMethod yX0_duskOf, Cond.selects RX0 yX0_duskOf yX0_duskOf, Cond.code yX0_duskOf cX0_duskOf 2 (some .int), Cond.fieldLink RX0 86 "CurfewDesk" "duskShift" "I", Cond.methodLink RX0 184 yX0_tideOf, Cond.static yX0_tideOf, Cond.code yX0_tideOf cX0_tideOf 2 (some .int), Cond.methodLink RX0 125 yX0_dawnOf, Cond.static yX0_dawnOf, Cond.code yX0_dawnOf cX0_dawnOf 1 (some .int)]
def wsX0_halfHoursUntilFree : List Cond := .code yX0_halfHoursUntilFree cX0_halfHoursUntilFree 4 (some .int) :: ((wsX0_halfHoursUntilFree_r1 ++ wsX0_halfHoursUntilFree_r2) ++ wsX00 ++ (vx_atS RX0 194 "java/lang/IndexOutOfBoundsException" ["java/lang/RuntimeException", "java/lang/Exception"]).filter goodWord)
def wsX0_halfHoursOn_r1 : List Cond := [Cond.fieldLink RX0 101 "CurfewDesk" "now" "I", Cond.methodLink RX0 79 yX0_requireOrder, Cond.instanceMethod yX0_requireOrder, Cond.selects RX0 yX0_requireOrder yX0_requireOrder, Cond.initialized RX0, Cond.code yX0_requireOrder cX0_requireOrder 2 none, Cond.classLink RX0 190 "java/lang/IndexOutOfBoundsException", Cond.initialized "java/lang/IndexOutOfBoundsException", Cond.fieldLink RX0 74 "CurfewDesk" "orderCount" "I", Cond.methodLink RX0 139 yX0_isInHours, Cond.instanceMethod yX0_isInHours, Cond.selects RX0 yX0_isInHours yX0_isInHours, Cond.code yX0_isInHours cX0_isInHours 5 (some .boolean), Cond.fieldLink RX0 13 "CurfewDesk" "orderAhead" "[I", Cond.fieldLink RX0 16 "CurfewDesk" "orderBehind" "[I", Cond.methodLink RX0 122 yX0_duskOf, Cond.instanceMethod yX0_duskOf, Cond.selects RX0 yX0_duskOf yX0_duskOf, Cond.code yX0_duskOf cX0_duskOf 2 (some .int), Cond.fieldLink RX0 86 "CurfewDesk" "duskShift" "I", Cond.methodLink RX0 184 yX0_tideOf, Cond.static yX0_tideOf, Cond.code yX0_tideOf cX0_tideOf 2 (some .int), Cond.methodLink RX0 125 yX0_dawnOf]
def wsX0_halfHoursOn_r2 : List Cond := [Cond.static yX0_dawnOf, Cond.code yX0_dawnOf cX0_dawnOf 1 (some .int)]
def wsX0_halfHoursOn : List Cond := .code yX0_halfHoursOn cX0_halfHoursOn 4 (some .int) :: ((wsX0_halfHoursOn_r1 ++ wsX0_halfHoursOn_r2) ++ wsX00 ++ (vx_atS RX0 194 "java/lang/IndexOutOfBoundsException" ["java/lang/RuntimeException", "java/lang/Exception"]).filter goodWord)
def wsX0_pairsFreedBy_r1 : List Cond := [Cond.fieldLink RX0 9 "CurfewDesk" "orderQuarter" "[I", Cond.fieldLink RX0 59 "CurfewDesk" "personCount" "I", Cond.methodLink RX0 131 yX0_missing, Cond.instanceMethod yX0_missing, Cond.selects RX0 yX0_missing yX0_missing, Cond.initialized RX0, Cond.code yX0_missing cX0_missing 8 (some .int), Cond.fieldLink RX0 74 "CurfewDesk" "orderCount" "I", Cond.fieldLink RX0 19 "CurfewDesk" "orderColour" "[I", Cond.fieldLink RX0 101 "CurfewDesk" "now" "I", Cond.fieldLink RX0 38 "CurfewDesk" "personStamps" "[I", Cond.methodLink RX0 187 Lib.Math.max.name, Cond.static Lib.Math.max.name, Cond.initialized "java/lang/Math", Cond.code Lib.Math.max.name Lib.Math.max.code 2 (some .int), Cond.methodLink RX0 104 yX0_bars, Cond.instanceMethod yX0_bars, Cond.selects RX0 yX0_bars yX0_bars, Cond.code yX0_bars cX0_bars 5 (some .boolean), Cond.fieldLink RX0 29 "CurfewDesk" "personTrade" "[I", Cond.fieldLink RX0 22 "CurfewDesk" "orderInForce" "[Z", Cond.methodLink RX0 82 yX0_exempts, Cond.instanceMethod yX0_exempts, Cond.selects RX0 yX0_exempts yX0_exempts]
def wsX0_pairsFreedBy_r2 : List Cond := [Cond.code yX0_exempts cX0_exempts 3 (some .boolean), Cond.fieldLink RX0 26 "CurfewDesk" "orderExempt" "[I", Cond.methodLink RX0 139 yX0_isInHours, Cond.instanceMethod yX0_isInHours, Cond.selects RX0 yX0_isInHours yX0_isInHours, Cond.code yX0_isInHours cX0_isInHours 5 (some .boolean), Cond.fieldLink RX0 13 "CurfewDesk" "orderAhead" "[I", Cond.fieldLink RX0 16 "CurfewDesk" "orderBehind" "[I", Cond.methodLink RX0 122 yX0_duskOf, Cond.instanceMethod yX0_duskOf, Cond.selects RX0 yX0_duskOf yX0_duskOf, Cond.code yX0_duskOf cX0_duskOf 2 (some .int), Cond.fieldLink RX0 86 "CurfewDesk" "duskShift" "I", Cond.methodLink RX0 184 yX0_tideOf, Cond.static yX0_tideOf, Cond.code yX0_tideOf cX0_tideOf 2 (some .int), Cond.methodLink RX0 125 yX0_dawnOf, Cond.static yX0_dawnOf, Cond.code yX0_dawnOf cX0_dawnOf 1 (some .int), Cond.methodLink RX0 92 yX0_stampPlace, Cond.static yX0_stampPlace, Cond.code yX0_stampPlace cX0_stampPlace 2 (some .int)]
def wsX0_pairsFreedBy : List Cond := .code yX0_pairsFreedBy cX0_pairsFreedBy 5 (some .int) :: ((wsX0_pairsFreedBy_r1 ++ wsX0_pairsFreedBy_r2) ++ wsX00)
def wsX0_bestLift_r1 : List Cond := [Cond.fieldLink RX0 74 "CurfewDesk" "orderCount" "I", Cond.methodLink RX0 142 yX0_pairsFreedBy, Cond.instanceMethod yX0_pairsFreedBy, Cond.selects RX0 yX0_pairsFreedBy yX0_pairsFreedBy, Cond.initialized RX0, Cond.code yX0_pairsFreedBy cX0_pairsFreedBy 5 (some .int), Cond.fieldLink RX0 9 "CurfewDesk" "orderQuarter" "[I", Cond.fieldLink RX0 59 "CurfewDesk" "personCount" "I", Cond.methodLink RX0 131 yX0_missing, Cond.instanceMethod yX0_missing, Cond.selects RX0 yX0_missing yX0_missing, Cond.code yX0_missing cX0_missing 8 (some .int), Cond.fieldLink RX0 19 "CurfewDesk" "orderColour" "[I", Cond.fieldLink RX0 101 "CurfewDesk" "now" "I", Cond.fieldLink RX0 38 "CurfewDesk" "personStamps" "[I", Cond.methodLink RX0 187 Lib.Math.max.name, Cond.static Lib.Math.max.name, Cond.initialized "java/lang/Math", Cond.code Lib.Math.max.name Lib.Math.max.code 2 (some .int), Cond.methodLink RX0 104 yX0_bars, Cond.instanceMethod yX0_bars, Cond.selects RX0 yX0_bars yX0_bars, Cond.code yX0_bars cX0_bars 5 (some .boolean), Cond.fieldLink RX0 29 "CurfewDesk" "personTrade" "[I"]
def wsX0_bestLift_r2 : List Cond := [Cond.fieldLink RX0 22 "CurfewDesk" "orderInForce" "[Z", Cond.methodLink RX0 82 yX0_exempts, Cond.instanceMethod yX0_exempts, Cond.selects RX0 yX0_exempts yX0_exempts, Cond.code yX0_exempts cX0_exempts 3 (some .boolean), Cond.fieldLink RX0 26 "CurfewDesk" "orderExempt" "[I", Cond.methodLink RX0 139 yX0_isInHours, Cond.instanceMethod yX0_isInHours, Cond.selects RX0 yX0_isInHours yX0_isInHours, Cond.code yX0_isInHours cX0_isInHours 5 (some .boolean), Cond.fieldLink RX0 13 "CurfewDesk" "orderAhead" "[I", Cond.fieldLink RX0 16 "CurfewDesk" "orderBehind" "[I", Cond.methodLink RX0 122 yX0_duskOf, Cond.instanceMethod yX0_duskOf, Cond.selects RX0 yX0_duskOf yX0_duskOf, Cond.code yX0_duskOf cX0_duskOf 2 (some .int), Cond.fieldLink RX0 86 "CurfewDesk" "duskShift" "I", Cond.methodLink RX0 184 yX0_tideOf, Cond.static yX0_tideOf, Cond.code yX0_tideOf cX0_tideOf 2 (some .int), Cond.methodLink RX0 125 yX0_dawnOf, Cond.static yX0_dawnOf, Cond.code yX0_dawnOf cX0_dawnOf 1 (some .int), Cond.methodLink RX0 92 yX0_stampPlace]
def wsX0_bestLift_r3 : List Cond := [Cond.static yX0_stampPlace, Cond.code yX0_stampPlace cX0_stampPlace 2 (some .int)]
def wsX0_bestLift : List Cond := .code yX0_bestLift cX0_bestLift 5 (some .int) :: ((wsX0_bestLift_r1 ++ (wsX0_bestLift_r2 ++ wsX0_bestLift_r3)) ++ wsX00)
def wsX0_meanDebt : List Cond := .code yX0_meanDebt cX0_meanDebt 1 (some .double) :: ([.fieldLink RX0 59 "CurfewDesk" "personCount" "I", .methodLink RX0 145 yX0_allOwe, .instanceMethod yX0_allOwe, .selects RX0 yX0_allOwe yX0_allOwe, .initialized RX0, .code yX0_allOwe cX0_allOwe 3 (some .int), .fieldLink RX0 35 "CurfewDesk" "personOwes" "[I"] ++ wsX00)
def wsX0_fold : List Cond := .code yX0_fold cX0_fold 3 (some .long) :: ([.constantLong RX0 182 (31)])
def wsX0_oneIf : List Cond := .code yX0_oneIf cX0_oneIf 1 (some .int) :: ([])
def wsX0_foldOrder_r1 : List Cond := [Cond.fieldLink RX0 9 "CurfewDesk" "orderQuarter" "[I", Cond.fieldLink RX0 19 "CurfewDesk" "orderColour" "[I", Cond.fieldLink RX0 22 "CurfewDesk" "orderInForce" "[Z", Cond.fieldLink RX0 101 "CurfewDesk" "now" "I", Cond.methodLink RX0 150 yX0_fold, Cond.static yX0_fold, Cond.initialized RX0, Cond.code yX0_fold cX0_fold 3 (some .long), Cond.constantLong RX0 182 (31), Cond.methodLink RX0 172 yX0_oneIf, Cond.static yX0_oneIf, Cond.code yX0_oneIf cX0_oneIf 1 (some .int), Cond.methodLink RX0 128 yX0_isOnAt, Cond.instanceMethod yX0_isOnAt, Cond.selects RX0 yX0_isOnAt yX0_isOnAt, Cond.code yX0_isOnAt cX0_isOnAt 3 (some .boolean), Cond.methodLink RX0 139 yX0_isInHours, Cond.instanceMethod yX0_isInHours, Cond.selects RX0 yX0_isInHours yX0_isInHours, Cond.code yX0_isInHours cX0_isInHours 5 (some .boolean), Cond.fieldLink RX0 13 "CurfewDesk" "orderAhead" "[I", Cond.fieldLink RX0 16 "CurfewDesk" "orderBehind" "[I", Cond.methodLink RX0 122 yX0_duskOf, Cond.instanceMethod yX0_duskOf]
def wsX0_foldOrder_r2 : List Cond := [Cond.selects RX0 yX0_duskOf yX0_duskOf, Cond.code yX0_duskOf cX0_duskOf 2 (some .int), Cond.fieldLink RX0 86 "CurfewDesk" "duskShift" "I", Cond.methodLink RX0 184 yX0_tideOf, Cond.static yX0_tideOf, Cond.code yX0_tideOf cX0_tideOf 2 (some .int), Cond.methodLink RX0 125 yX0_dawnOf, Cond.static yX0_dawnOf, Cond.code yX0_dawnOf cX0_dawnOf 1 (some .int), Cond.methodLink RX0 176 yX0_barredBy, Cond.instanceMethod yX0_barredBy, Cond.selects RX0 yX0_barredBy yX0_barredBy, Cond.code yX0_barredBy cX0_barredBy 4 (some .int), Cond.fieldLink RX0 59 "CurfewDesk" "personCount" "I", Cond.methodLink RX0 79 yX0_requireOrder, Cond.instanceMethod yX0_requireOrder, Cond.selects RX0 yX0_requireOrder yX0_requireOrder, Cond.code yX0_requireOrder cX0_requireOrder 2 none, Cond.classLink RX0 190 "java/lang/IndexOutOfBoundsException", Cond.initialized "java/lang/IndexOutOfBoundsException", Cond.fieldLink RX0 74 "CurfewDesk" "orderCount" "I", Cond.methodLink RX0 104 yX0_bars, Cond.instanceMethod yX0_bars, Cond.selects RX0 yX0_bars yX0_bars]
def wsX0_foldOrder_r3 : List Cond := [Cond.code yX0_bars cX0_bars 5 (some .boolean), Cond.fieldLink RX0 29 "CurfewDesk" "personTrade" "[I", Cond.methodLink RX0 82 yX0_exempts, Cond.instanceMethod yX0_exempts, Cond.selects RX0 yX0_exempts yX0_exempts, Cond.code yX0_exempts cX0_exempts 3 (some .boolean), Cond.fieldLink RX0 26 "CurfewDesk" "orderExempt" "[I"]
def wsX0_foldOrder : List Cond := .code yX0_foldOrder cX0_foldOrder 7 (some .long) :: ((wsX0_foldOrder_r1 ++ (wsX0_foldOrder_r2 ++ wsX0_foldOrder_r3)) ++ wsX00 ++ (vx_atS RX0 194 "java/lang/IndexOutOfBoundsException" ["java/lang/RuntimeException", "java/lang/Exception"]).filter goodWord)
def wsX0_foldPerson_r1 : List Cond := [Cond.fieldLink RX0 29 "CurfewDesk" "personTrade" "[I", Cond.fieldLink RX0 35 "CurfewDesk" "personOwes" "[I", Cond.fieldLink RX0 32 "CurfewDesk" "personFined" "[I", Cond.fieldLink RX0 38 "CurfewDesk" "personStamps" "[I", Cond.fieldLink RX0 44 "CurfewDesk" "quarterCount" "I", Cond.methodLink RX0 150 yX0_fold, Cond.static yX0_fold, Cond.initialized RX0, Cond.code yX0_fold cX0_fold 3 (some .long), Cond.constantLong RX0 182 (31), Cond.methodLink RX0 92 yX0_stampPlace, Cond.static yX0_stampPlace, Cond.code yX0_stampPlace cX0_stampPlace 2 (some .int), Cond.methodLink RX0 179 yX0_ordersAgainst, Cond.instanceMethod yX0_ordersAgainst, Cond.selects RX0 yX0_ordersAgainst yX0_ordersAgainst, Cond.code yX0_ordersAgainst cX0_ordersAgainst 5 (some .int), Cond.fieldLink RX0 74 "CurfewDesk" "orderCount" "I", Cond.fieldLink RX0 101 "CurfewDesk" "now" "I", Cond.methodLink RX0 89 yX0_requirePerson, Cond.instanceMethod yX0_requirePerson, Cond.selects RX0 yX0_requirePerson yX0_requirePerson, Cond.code yX0_requirePerson cX0_requirePerson 2 none, Cond.classLink RX0 190 "java/lang/IndexOutOfBoundsException"]
def wsX0_foldPerson_r2 : List Cond := [Cond.initialized "java/lang/IndexOutOfBoundsException", Cond.fieldLink RX0 59 "CurfewDesk" "personCount" "I", Cond.methodLink RX0 64 yX0_requireQuarter, Cond.instanceMethod yX0_requireQuarter, Cond.selects RX0 yX0_requireQuarter yX0_requireQuarter, Cond.code yX0_requireQuarter cX0_requireQuarter 2 none, Cond.methodLink RX0 104 yX0_bars, Cond.instanceMethod yX0_bars, Cond.selects RX0 yX0_bars yX0_bars, Cond.code yX0_bars cX0_bars 5 (some .boolean), Cond.fieldLink RX0 9 "CurfewDesk" "orderQuarter" "[I", Cond.fieldLink RX0 22 "CurfewDesk" "orderInForce" "[Z", Cond.methodLink RX0 82 yX0_exempts, Cond.instanceMethod yX0_exempts, Cond.selects RX0 yX0_exempts yX0_exempts, Cond.code yX0_exempts cX0_exempts 3 (some .boolean), Cond.fieldLink RX0 26 "CurfewDesk" "orderExempt" "[I", Cond.methodLink RX0 139 yX0_isInHours, Cond.instanceMethod yX0_isInHours, Cond.selects RX0 yX0_isInHours yX0_isInHours, Cond.code yX0_isInHours cX0_isInHours 5 (some .boolean), Cond.fieldLink RX0 13 "CurfewDesk" "orderAhead" "[I", Cond.fieldLink RX0 16 "CurfewDesk" "orderBehind" "[I", Cond.methodLink RX0 122 yX0_duskOf]
def wsX0_foldPerson_r3 : List Cond := [Cond.instanceMethod yX0_duskOf, Cond.selects RX0 yX0_duskOf yX0_duskOf, Cond.code yX0_duskOf cX0_duskOf 2 (some .int), Cond.fieldLink RX0 86 "CurfewDesk" "duskShift" "I", Cond.methodLink RX0 184 yX0_tideOf, Cond.static yX0_tideOf, Cond.code yX0_tideOf cX0_tideOf 2 (some .int), Cond.methodLink RX0 125 yX0_dawnOf, Cond.static yX0_dawnOf, Cond.code yX0_dawnOf cX0_dawnOf 1 (some .int)]
def wsX0_foldPerson : List Cond := .code yX0_foldPerson cX0_foldPerson 7 (some .long) :: ((wsX0_foldPerson_r1 ++ (wsX0_foldPerson_r2 ++ wsX0_foldPerson_r3)) ++ wsX00 ++ (vx_atS RX0 194 "java/lang/IndexOutOfBoundsException" ["java/lang/RuntimeException", "java/lang/Exception"]).filter goodWord)
def wsX0_digest_r1 : List Cond := [Cond.constantLong RX0 148 (1879), Cond.fieldLink RX0 44 "CurfewDesk" "quarterCount" "I", Cond.fieldLink RX0 74 "CurfewDesk" "orderCount" "I", Cond.fieldLink RX0 59 "CurfewDesk" "personCount" "I", Cond.fieldLink RX0 86 "CurfewDesk" "duskShift" "I", Cond.fieldLink RX0 41 "CurfewDesk" "usedStamps" "[I", Cond.methodLink RX0 118 yX0_day, Cond.instanceMethod yX0_day, Cond.selects RX0 yX0_day yX0_day, Cond.initialized RX0, Cond.code yX0_day cX0_day 1 (some .int), Cond.fieldLink RX0 101 "CurfewDesk" "now" "I", Cond.methodLink RX0 150 yX0_fold, Cond.static yX0_fold, Cond.code yX0_fold cX0_fold 3 (some .long), Cond.constantLong RX0 182 (31), Cond.methodLink RX0 154 yX0_halfHour, Cond.instanceMethod yX0_halfHour, Cond.selects RX0 yX0_halfHour yX0_halfHour, Cond.code yX0_halfHour cX0_halfHour 1 (some .int), Cond.methodLink RX0 157 yX0_duskIn, Cond.instanceMethod yX0_duskIn, Cond.selects RX0 yX0_duskIn yX0_duskIn, Cond.code yX0_duskIn cX0_duskIn 2 (some .int)]
def wsX0_digest_r2 : List Cond := [Cond.methodLink RX0 70 yX0_requireWithin, Cond.static yX0_requireWithin, Cond.code yX0_requireWithin cX0_requireWithin 3 none, Cond.classLink RX0 203 "java/lang/IllegalArgumentException", Cond.initialized "java/lang/IllegalArgumentException", Cond.methodLink RX0 122 yX0_duskOf, Cond.instanceMethod yX0_duskOf, Cond.selects RX0 yX0_duskOf yX0_duskOf, Cond.code yX0_duskOf cX0_duskOf 2 (some .int), Cond.methodLink RX0 184 yX0_tideOf, Cond.static yX0_tideOf, Cond.code yX0_tideOf cX0_tideOf 2 (some .int), Cond.methodLink RX0 160 yX0_dawnIn, Cond.instanceMethod yX0_dawnIn, Cond.selects RX0 yX0_dawnIn yX0_dawnIn, Cond.code yX0_dawnIn cX0_dawnIn 2 (some .int), Cond.methodLink RX0 125 yX0_dawnOf, Cond.static yX0_dawnOf, Cond.code yX0_dawnOf cX0_dawnOf 1 (some .int), Cond.methodLink RX0 163 yX0_ordersOn, Cond.instanceMethod yX0_ordersOn, Cond.selects RX0 yX0_ordersOn yX0_ordersOn, Cond.code yX0_ordersOn cX0_ordersOn 3 (some .int), Cond.methodLink RX0 128 yX0_isOnAt]
def wsX0_digest_r3 : List Cond := [Cond.instanceMethod yX0_isOnAt, Cond.selects RX0 yX0_isOnAt yX0_isOnAt, Cond.code yX0_isOnAt cX0_isOnAt 3 (some .boolean), Cond.fieldLink RX0 22 "CurfewDesk" "orderInForce" "[Z", Cond.methodLink RX0 139 yX0_isInHours, Cond.instanceMethod yX0_isInHours, Cond.selects RX0 yX0_isInHours yX0_isInHours, Cond.code yX0_isInHours cX0_isInHours 5 (some .boolean), Cond.fieldLink RX0 13 "CurfewDesk" "orderAhead" "[I", Cond.fieldLink RX0 16 "CurfewDesk" "orderBehind" "[I", Cond.methodLink RX0 166 yX0_foldOrder, Cond.instanceMethod yX0_foldOrder, Cond.selects RX0 yX0_foldOrder yX0_foldOrder, Cond.code yX0_foldOrder cX0_foldOrder 7 (some .long), Cond.fieldLink RX0 9 "CurfewDesk" "orderQuarter" "[I", Cond.fieldLink RX0 19 "CurfewDesk" "orderColour" "[I", Cond.methodLink RX0 172 yX0_oneIf, Cond.static yX0_oneIf, Cond.code yX0_oneIf cX0_oneIf 1 (some .int), Cond.methodLink RX0 176 yX0_barredBy, Cond.instanceMethod yX0_barredBy, Cond.selects RX0 yX0_barredBy yX0_barredBy, Cond.code yX0_barredBy cX0_barredBy 4 (some .int), Cond.methodLink RX0 79 yX0_requireOrder]
def wsX0_digest_r4 : List Cond := [Cond.instanceMethod yX0_requireOrder, Cond.selects RX0 yX0_requireOrder yX0_requireOrder, Cond.code yX0_requireOrder cX0_requireOrder 2 none, Cond.classLink RX0 190 "java/lang/IndexOutOfBoundsException", Cond.initialized "java/lang/IndexOutOfBoundsException", Cond.methodLink RX0 104 yX0_bars, Cond.instanceMethod yX0_bars, Cond.selects RX0 yX0_bars yX0_bars, Cond.code yX0_bars cX0_bars 5 (some .boolean), Cond.fieldLink RX0 29 "CurfewDesk" "personTrade" "[I", Cond.methodLink RX0 82 yX0_exempts, Cond.instanceMethod yX0_exempts, Cond.selects RX0 yX0_exempts yX0_exempts, Cond.code yX0_exempts cX0_exempts 3 (some .boolean), Cond.fieldLink RX0 26 "CurfewDesk" "orderExempt" "[I", Cond.methodLink RX0 169 yX0_foldPerson, Cond.instanceMethod yX0_foldPerson, Cond.selects RX0 yX0_foldPerson yX0_foldPerson, Cond.code yX0_foldPerson cX0_foldPerson 7 (some .long), Cond.fieldLink RX0 35 "CurfewDesk" "personOwes" "[I", Cond.fieldLink RX0 32 "CurfewDesk" "personFined" "[I", Cond.fieldLink RX0 38 "CurfewDesk" "personStamps" "[I", Cond.methodLink RX0 92 yX0_stampPlace, Cond.static yX0_stampPlace]
def wsX0_digest_r5 : List Cond := [Cond.code yX0_stampPlace cX0_stampPlace 2 (some .int), Cond.methodLink RX0 179 yX0_ordersAgainst, Cond.instanceMethod yX0_ordersAgainst, Cond.selects RX0 yX0_ordersAgainst yX0_ordersAgainst, Cond.code yX0_ordersAgainst cX0_ordersAgainst 5 (some .int), Cond.methodLink RX0 89 yX0_requirePerson, Cond.instanceMethod yX0_requirePerson, Cond.selects RX0 yX0_requirePerson yX0_requirePerson, Cond.code yX0_requirePerson cX0_requirePerson 2 none, Cond.methodLink RX0 64 yX0_requireQuarter, Cond.instanceMethod yX0_requireQuarter, Cond.selects RX0 yX0_requireQuarter yX0_requireQuarter, Cond.code yX0_requireQuarter cX0_requireQuarter 2 none]
def wsX0_digest : List Cond := .code yX0_digest cX0_digest 4 (some .long) :: ((wsX0_digest_r1 ++ (wsX0_digest_r2 ++ (wsX0_digest_r3 ++ (wsX0_digest_r4 ++ wsX0_digest_r5)))) ++ wsX00 ++ (vx_atS RX0 207 "java/lang/IllegalArgumentException" ["java/lang/RuntimeException", "java/lang/Exception"]).filter goodWord ++ (vx_atS RX0 194 "java/lang/IndexOutOfBoundsException" ["java/lang/RuntimeException", "java/lang/Exception"]).filter goodWord)
def wsX1_init : List Cond := .code yX1_init cX1_init 1 none :: ([.methodLink RX1 1 objectInit, .instanceMethod objectInit, .code objectInit ⟨#[0xb1]⟩ 1 none, .arrayClass .int, .fieldLink RX1 9 "CurfewDeskModel" "quarter" "[I", .fieldLink RX1 13 "CurfewDeskModel" "ahead" "[I", .fieldLink RX1 16 "CurfewDeskModel" "behind" "[I", .fieldLink RX1 19 "CurfewDeskModel" "colour" "[I", .fieldLink RX1 22 "CurfewDeskModel" "exempt" "[I", .arrayClass .boolean, .fieldLink RX1 25 "CurfewDeskModel" "force" "[Z", .fieldLink RX1 29 "CurfewDeskModel" "trade" "[I", .fieldLink RX1 32 "CurfewDeskModel" "fined" "[I", .fieldLink RX1 35 "CurfewDeskModel" "debt" "[I", .fieldLink RX1 38 "CurfewDeskModel" "stamps" "[I", .fieldLink RX1 41 "CurfewDeskModel" "used" "[I", .fieldLink RX1 44 "CurfewDeskModel" "wanted" "[I"] ++ wsX10)
def wsX1_thrown : List Cond := .code yX1_thrown cX1_thrown 1 (some .int) :: ([.fieldLink RX1 47 "CurfewDeskModel" "thrown" "I"] ++ wsX10)
def wsX1_fail : List Cond := .code yX1_fail cX1_fail 2 (some .int) :: ([.fieldLink RX1 47 "CurfewDeskModel" "thrown" "I"] ++ wsX10)
def wsX1_failed : List Cond := .code yX1_failed cX1_failed 2 (some .boolean) :: ([.fieldLink RX1 47 "CurfewDeskModel" "thrown" "I"] ++ wsX10)
def wsX1_isIn : List Cond := .code yX1_isIn cX1_isIn 3 (some .boolean) :: ([])
def wsX1_isQuarter : List Cond := .code yX1_isQuarter cX1_isQuarter 2 (some .boolean) :: ([.fieldLink RX1 51 "CurfewDeskModel" "quarters" "I", .methodLink RX1 54 yX1_isIn, .static yX1_isIn, .initialized RX1, .code yX1_isIn cX1_isIn 3 (some .boolean)] ++ wsX10)
def wsX1_isOrder : List Cond := .code yX1_isOrder cX1_isOrder 2 (some .boolean) :: ([.fieldLink RX1 58 "CurfewDeskModel" "orders" "I", .methodLink RX1 54 yX1_isIn, .static yX1_isIn, .initialized RX1, .code yX1_isIn cX1_isIn 3 (some .boolean)] ++ wsX10)
def wsX1_isPerson : List Cond := .code yX1_isPerson cX1_isPerson 2 (some .boolean) :: ([.fieldLink RX1 61 "CurfewDeskModel" "people" "I", .methodLink RX1 54 yX1_isIn, .static yX1_isIn, .initialized RX1, .code yX1_isIn cX1_isIn 3 (some .boolean)] ++ wsX10)
def wsX1_isTrade : List Cond := .code yX1_isTrade cX1_isTrade 1 (some .boolean) :: ([.methodLink RX1 54 yX1_isIn, .static yX1_isIn, .initialized RX1, .code yX1_isIn cX1_isIn 3 (some .boolean)])
def wsX1_isColour : List Cond := .code yX1_isColour cX1_isColour 1 (some .boolean) :: ([.methodLink RX1 54 yX1_isIn, .static yX1_isIn, .initialized RX1, .code yX1_isIn cX1_isIn 3 (some .boolean)])
def wsX1_tide : List Cond := .code yX1_tide cX1_tide 2 (some .int) :: ([])
def wsX1_dusk : List Cond := .code yX1_dusk cX1_dusk 2 (some .int) :: ([.fieldLink RX1 68 "CurfewDeskModel" "shift" "I", .methodLink RX1 64 yX1_tide, .static yX1_tide, .initialized RX1, .code yX1_tide cX1_tide 2 (some .int)] ++ wsX10)
def wsX1_dawn : List Cond := .code yX1_dawn cX1_dawn 1 (some .int) :: ([.methodLink RX1 64 yX1_tide, .static yX1_tide, .initialized RX1, .code yX1_tide cX1_tide 2 (some .int)])
def wsX1_isAt : List Cond := .code yX1_isAt cX1_isAt 5 (some .boolean) :: ([.fieldLink RX1 13 "CurfewDeskModel" "ahead" "[I", .fieldLink RX1 16 "CurfewDeskModel" "behind" "[I", .methodLink RX1 71 yX1_dusk, .instanceMethod yX1_dusk, .selects RX1 yX1_dusk yX1_dusk, .initialized RX1, .code yX1_dusk cX1_dusk 2 (some .int), .fieldLink RX1 68 "CurfewDeskModel" "shift" "I", .methodLink RX1 64 yX1_tide, .static yX1_tide, .code yX1_tide cX1_tide 2 (some .int), .methodLink RX1 74 yX1_dawn, .static yX1_dawn, .code yX1_dawn cX1_dawn 1 (some .int)] ++ wsX10)
def wsX1_onAt : List Cond := .code yX1_onAt cX1_onAt 3 (some .boolean) :: ([.fieldLink RX1 25 "CurfewDeskModel" "force" "[Z", .methodLink RX1 77 yX1_isAt, .instanceMethod yX1_isAt, .selects RX1 yX1_isAt yX1_isAt, .initialized RX1, .code yX1_isAt cX1_isAt 5 (some .boolean), .fieldLink RX1 13 "CurfewDeskModel" "ahead" "[I", .fieldLink RX1 16 "CurfewDeskModel" "behind" "[I", .methodLink RX1 71 yX1_dusk, .instanceMethod yX1_dusk, .selects RX1 yX1_dusk yX1_dusk, .code yX1_dusk cX1_dusk 2 (some .int), .fieldLink RX1 68 "CurfewDeskModel" "shift" "I", .methodLink RX1 64 yX1_tide, .static yX1_tide, .code yX1_tide cX1_tide 2 (some .int), .methodLink RX1 74 yX1_dawn, .static yX1_dawn, .code yX1_dawn cX1_dawn 1 (some .int)] ++ wsX10)
def wsX1_barsAt_r1 : List Cond := [Cond.fieldLink RX1 9 "CurfewDeskModel" "quarter" "[I", Cond.fieldLink RX1 22 "CurfewDeskModel" "exempt" "[I", Cond.fieldLink RX1 29 "CurfewDeskModel" "trade" "[I", Cond.methodLink RX1 81 yX1_onAt, Cond.instanceMethod yX1_onAt, Cond.selects RX1 yX1_onAt yX1_onAt, Cond.initialized RX1, Cond.code yX1_onAt cX1_onAt 3 (some .boolean), Cond.fieldLink RX1 25 "CurfewDeskModel" "force" "[Z", Cond.methodLink RX1 77 yX1_isAt, Cond.instanceMethod yX1_isAt, Cond.selects RX1 yX1_isAt yX1_isAt, Cond.code yX1_isAt cX1_isAt 5 (some .boolean), Cond.fieldLink RX1 13 "CurfewDeskModel" "ahead" "[I", Cond.fieldLink RX1 16 "CurfewDeskModel" "behind" "[I", Cond.methodLink RX1 71 yX1_dusk, Cond.instanceMethod yX1_dusk, Cond.selects RX1 yX1_dusk yX1_dusk, Cond.code yX1_dusk cX1_dusk 2 (some .int), Cond.fieldLink RX1 68 "CurfewDeskModel" "shift" "I", Cond.methodLink RX1 64 yX1_tide, Cond.static yX1_tide, Cond.code yX1_tide cX1_tide 2 (some .int), Cond.methodLink RX1 74 yX1_dawn]
def wsX1_barsAt_r2 : List Cond := [Cond.static yX1_dawn, Cond.code yX1_dawn cX1_dawn 1 (some .int)]
def wsX1_barsAt : List Cond := .code yX1_barsAt cX1_barsAt 5 (some .boolean) :: ((wsX1_barsAt_r1 ++ wsX1_barsAt_r2) ++ wsX10)
def wsX1_against_r1 : List Cond := [Cond.fieldLink RX1 58 "CurfewDeskModel" "orders" "I", Cond.methodLink RX1 84 yX1_barsAt, Cond.instanceMethod yX1_barsAt, Cond.selects RX1 yX1_barsAt yX1_barsAt, Cond.initialized RX1, Cond.code yX1_barsAt cX1_barsAt 5 (some .boolean), Cond.fieldLink RX1 9 "CurfewDeskModel" "quarter" "[I", Cond.fieldLink RX1 22 "CurfewDeskModel" "exempt" "[I", Cond.fieldLink RX1 29 "CurfewDeskModel" "trade" "[I", Cond.methodLink RX1 81 yX1_onAt, Cond.instanceMethod yX1_onAt, Cond.selects RX1 yX1_onAt yX1_onAt, Cond.code yX1_onAt cX1_onAt 3 (some .boolean), Cond.fieldLink RX1 25 "CurfewDeskModel" "force" "[Z", Cond.methodLink RX1 77 yX1_isAt, Cond.instanceMethod yX1_isAt, Cond.selects RX1 yX1_isAt yX1_isAt, Cond.code yX1_isAt cX1_isAt 5 (some .boolean), Cond.fieldLink RX1 13 "CurfewDeskModel" "ahead" "[I", Cond.fieldLink RX1 16 "CurfewDeskModel" "behind" "[I", Cond.methodLink RX1 71 yX1_dusk, Cond.instanceMethod yX1_dusk, Cond.selects RX1 yX1_dusk yX1_dusk, Cond.code yX1_dusk cX1_dusk 2 (some .int)]
def wsX1_against_r2 : List Cond := [Cond.fieldLink RX1 68 "CurfewDeskModel" "shift" "I", Cond.methodLink RX1 64 yX1_tide, Cond.static yX1_tide, Cond.code yX1_tide cX1_tide 2 (some .int), Cond.methodLink RX1 74 yX1_dawn, Cond.static yX1_dawn, Cond.code yX1_dawn cX1_dawn 1 (some .int)]
def wsX1_against : List Cond := .code yX1_against cX1_against 6 (some .int) :: ((wsX1_against_r1 ++ wsX1_against_r2) ++ wsX10)
def wsX1_addQuarter : List Cond := .code yX1_addQuarter cX1_addQuarter 1 (some .int) :: ([.fieldLink RX1 47 "CurfewDeskModel" "thrown" "I", .fieldLink RX1 51 "CurfewDeskModel" "quarters" "I", .methodLink RX1 88 yX1_fail, .instanceMethod yX1_fail, .selects RX1 yX1_fail yX1_fail, .initialized RX1, .code yX1_fail cX1_fail 2 (some .int)] ++ wsX10)
def wsX1_addPerson : List Cond := .code yX1_addPerson cX1_addPerson 2 (some .int) :: ([.fieldLink RX1 47 "CurfewDeskModel" "thrown" "I", .fieldLink RX1 61 "CurfewDeskModel" "people" "I", .fieldLink RX1 29 "CurfewDeskModel" "trade" "[I", .methodLink RX1 91 yX1_isTrade, .static yX1_isTrade, .initialized RX1, .code yX1_isTrade cX1_isTrade 1 (some .boolean), .methodLink RX1 54 yX1_isIn, .static yX1_isIn, .code yX1_isIn cX1_isIn 3 (some .boolean), .methodLink RX1 88 yX1_fail, .instanceMethod yX1_fail, .selects RX1 yX1_fail yX1_fail, .code yX1_fail cX1_fail 2 (some .int)] ++ wsX10)
def wsX1_addOrder : List Cond := .code yX1_addOrder cX1_addOrder 5 (some .int) :: ([.fieldLink RX1 47 "CurfewDeskModel" "thrown" "I", .fieldLink RX1 58 "CurfewDeskModel" "orders" "I", .fieldLink RX1 9 "CurfewDeskModel" "quarter" "[I", .fieldLink RX1 13 "CurfewDeskModel" "ahead" "[I", .fieldLink RX1 16 "CurfewDeskModel" "behind" "[I", .fieldLink RX1 19 "CurfewDeskModel" "colour" "[I", .fieldLink RX1 25 "CurfewDeskModel" "force" "[Z", .methodLink RX1 95 yX1_isQuarter, .instanceMethod yX1_isQuarter, .selects RX1 yX1_isQuarter yX1_isQuarter, .initialized RX1, .code yX1_isQuarter cX1_isQuarter 2 (some .boolean), .fieldLink RX1 51 "CurfewDeskModel" "quarters" "I", .methodLink RX1 54 yX1_isIn, .static yX1_isIn, .code yX1_isIn cX1_isIn 3 (some .boolean), .methodLink RX1 98 yX1_isColour, .static yX1_isColour, .code yX1_isColour cX1_isColour 1 (some .boolean), .methodLink RX1 88 yX1_fail, .instanceMethod yX1_fail, .selects RX1 yX1_fail yX1_fail, .code yX1_fail cX1_fail 2 (some .int)] ++ wsX10)
def wsX1_turnExempt : List Cond := .code yX1_turnExempt cX1_turnExempt 3 (some .boolean) :: ([.fieldLink RX1 47 "CurfewDeskModel" "thrown" "I", .fieldLink RX1 22 "CurfewDeskModel" "exempt" "[I", .methodLink RX1 101 yX1_isOrder, .instanceMethod yX1_isOrder, .selects RX1 yX1_isOrder yX1_isOrder, .initialized RX1, .code yX1_isOrder cX1_isOrder 2 (some .boolean), .fieldLink RX1 58 "CurfewDeskModel" "orders" "I", .methodLink RX1 54 yX1_isIn, .static yX1_isIn, .code yX1_isIn cX1_isIn 3 (some .boolean), .methodLink RX1 91 yX1_isTrade, .static yX1_isTrade, .code yX1_isTrade cX1_isTrade 1 (some .boolean), .methodLink RX1 104 yX1_failed, .instanceMethod yX1_failed, .selects RX1 yX1_failed yX1_failed, .code yX1_failed cX1_failed 2 (some .boolean)] ++ wsX10)
def wsX1_turnOrder : List Cond := .code yX1_turnOrder cX1_turnOrder 2 (some .boolean) :: ([.fieldLink RX1 47 "CurfewDeskModel" "thrown" "I", .fieldLink RX1 25 "CurfewDeskModel" "force" "[Z", .methodLink RX1 101 yX1_isOrder, .instanceMethod yX1_isOrder, .selects RX1 yX1_isOrder yX1_isOrder, .initialized RX1, .code yX1_isOrder cX1_isOrder 2 (some .boolean), .fieldLink RX1 58 "CurfewDeskModel" "orders" "I", .methodLink RX1 54 yX1_isIn, .static yX1_isIn, .code yX1_isIn cX1_isIn 3 (some .boolean), .methodLink RX1 104 yX1_failed, .instanceMethod yX1_failed, .selects RX1 yX1_failed yX1_failed, .code yX1_failed cX1_failed 2 (some .boolean)] ++ wsX10)
def wsX1_setShift : List Cond := .code yX1_setShift cX1_setShift 3 (some .int) :: ([.fieldLink RX1 47 "CurfewDeskModel" "thrown" "I", .fieldLink RX1 68 "CurfewDeskModel" "shift" "I", .methodLink RX1 54 yX1_isIn, .static yX1_isIn, .initialized RX1, .code yX1_isIn cX1_isIn 3 (some .boolean), .methodLink RX1 88 yX1_fail, .instanceMethod yX1_fail, .selects RX1 yX1_fail yX1_fail, .code yX1_fail cX1_fail 2 (some .int)] ++ wsX10)
def wsX1_isPass : List Cond := .code yX1_isPass cX1_isPass 3 (some .boolean) :: ([.fieldLink RX1 47 "CurfewDeskModel" "thrown" "I", .methodLink RX1 107 yX1_isPerson, .instanceMethod yX1_isPerson, .selects RX1 yX1_isPerson yX1_isPerson, .initialized RX1, .code yX1_isPerson cX1_isPerson 2 (some .boolean), .fieldLink RX1 61 "CurfewDeskModel" "people" "I", .methodLink RX1 54 yX1_isIn, .static yX1_isIn, .code yX1_isIn cX1_isIn 3 (some .boolean), .methodLink RX1 98 yX1_isColour, .static yX1_isColour, .code yX1_isColour cX1_isColour 1 (some .boolean)] ++ wsX10)
def wsX1_givePass_r1 : List Cond := [Cond.fieldLink RX1 38 "CurfewDeskModel" "stamps" "[I", Cond.methodLink RX1 113 Lib.Math.min.name, Cond.static Lib.Math.min.name, Cond.initialized "java/lang/Math", Cond.code Lib.Math.min.name Lib.Math.min.code 2 (some .int), Cond.methodLink RX1 110 yX1_isPass, Cond.instanceMethod yX1_isPass, Cond.selects RX1 yX1_isPass yX1_isPass, Cond.initialized RX1, Cond.code yX1_isPass cX1_isPass 3 (some .boolean), Cond.fieldLink RX1 47 "CurfewDeskModel" "thrown" "I", Cond.methodLink RX1 107 yX1_isPerson, Cond.instanceMethod yX1_isPerson, Cond.selects RX1 yX1_isPerson yX1_isPerson, Cond.code yX1_isPerson cX1_isPerson 2 (some .boolean), Cond.fieldLink RX1 61 "CurfewDeskModel" "people" "I", Cond.methodLink RX1 54 yX1_isIn, Cond.static yX1_isIn, Cond.code yX1_isIn cX1_isIn 3 (some .boolean), Cond.methodLink RX1 98 yX1_isColour, Cond.static yX1_isColour, Cond.code yX1_isColour cX1_isColour 1 (some .boolean), Cond.methodLink RX1 88 yX1_fail, Cond.instanceMethod yX1_fail]
def wsX1_givePass_r2 : List Cond := [Cond.selects RX1 yX1_fail yX1_fail, Cond.code yX1_fail cX1_fail 2 (some .int)]
def wsX1_givePass : List Cond := .code yX1_givePass cX1_givePass 5 (some .int) :: ((wsX1_givePass_r1 ++ wsX1_givePass_r2) ++ wsX10)
def wsX1_takePass : List Cond := .code yX1_takePass cX1_takePass 4 (some .int) :: ([.fieldLink RX1 38 "CurfewDeskModel" "stamps" "[I", .methodLink RX1 110 yX1_isPass, .instanceMethod yX1_isPass, .selects RX1 yX1_isPass yX1_isPass, .initialized RX1, .code yX1_isPass cX1_isPass 3 (some .boolean), .fieldLink RX1 47 "CurfewDeskModel" "thrown" "I", .methodLink RX1 107 yX1_isPerson, .instanceMethod yX1_isPerson, .selects RX1 yX1_isPerson yX1_isPerson, .code yX1_isPerson cX1_isPerson 2 (some .boolean), .fieldLink RX1 61 "CurfewDeskModel" "people" "I", .methodLink RX1 54 yX1_isIn, .static yX1_isIn, .code yX1_isIn cX1_isIn 3 (some .boolean), .methodLink RX1 98 yX1_isColour, .static yX1_isColour, .code yX1_isColour cX1_isColour 1 (some .boolean)] ++ wsX10)
def wsX1_isPair : List Cond := .code yX1_isPair cX1_isPair 3 (some .boolean) :: ([.fieldLink RX1 47 "CurfewDeskModel" "thrown" "I", .methodLink RX1 107 yX1_isPerson, .instanceMethod yX1_isPerson, .selects RX1 yX1_isPerson yX1_isPerson, .initialized RX1, .code yX1_isPerson cX1_isPerson 2 (some .boolean), .fieldLink RX1 61 "CurfewDeskModel" "people" "I", .methodLink RX1 54 yX1_isIn, .static yX1_isIn, .code yX1_isIn cX1_isIn 3 (some .boolean), .methodLink RX1 95 yX1_isQuarter, .instanceMethod yX1_isQuarter, .selects RX1 yX1_isQuarter yX1_isQuarter, .code yX1_isQuarter cX1_isQuarter 2 (some .boolean), .fieldLink RX1 51 "CurfewDeskModel" "quarters" "I"] ++ wsX10)
def wsX1_goOut_r1 : List Cond := [Cond.fieldLink RX1 58 "CurfewDeskModel" "orders" "I", Cond.fieldLink RX1 122 "CurfewDeskModel" "time" "I", Cond.fieldLink RX1 19 "CurfewDeskModel" "colour" "[I", Cond.fieldLink RX1 38 "CurfewDeskModel" "stamps" "[I", Cond.fieldLink RX1 41 "CurfewDeskModel" "used" "[I", Cond.fieldLink RX1 32 "CurfewDeskModel" "fined" "[I", Cond.fieldLink RX1 35 "CurfewDeskModel" "debt" "[I", Cond.methodLink RX1 119 yX1_isPair, Cond.instanceMethod yX1_isPair, Cond.selects RX1 yX1_isPair yX1_isPair, Cond.initialized RX1, Cond.code yX1_isPair cX1_isPair 3 (some .boolean), Cond.fieldLink RX1 47 "CurfewDeskModel" "thrown" "I", Cond.methodLink RX1 107 yX1_isPerson, Cond.instanceMethod yX1_isPerson, Cond.selects RX1 yX1_isPerson yX1_isPerson, Cond.code yX1_isPerson cX1_isPerson 2 (some .boolean), Cond.fieldLink RX1 61 "CurfewDeskModel" "people" "I", Cond.methodLink RX1 54 yX1_isIn, Cond.static yX1_isIn, Cond.code yX1_isIn cX1_isIn 3 (some .boolean), Cond.methodLink RX1 95 yX1_isQuarter, Cond.instanceMethod yX1_isQuarter, Cond.selects RX1 yX1_isQuarter yX1_isQuarter]
def wsX1_goOut_r2 : List Cond := [Cond.code yX1_isQuarter cX1_isQuarter 2 (some .boolean), Cond.fieldLink RX1 51 "CurfewDeskModel" "quarters" "I", Cond.methodLink RX1 84 yX1_barsAt, Cond.instanceMethod yX1_barsAt, Cond.selects RX1 yX1_barsAt yX1_barsAt, Cond.code yX1_barsAt cX1_barsAt 5 (some .boolean), Cond.fieldLink RX1 9 "CurfewDeskModel" "quarter" "[I", Cond.fieldLink RX1 22 "CurfewDeskModel" "exempt" "[I", Cond.fieldLink RX1 29 "CurfewDeskModel" "trade" "[I", Cond.methodLink RX1 81 yX1_onAt, Cond.instanceMethod yX1_onAt, Cond.selects RX1 yX1_onAt yX1_onAt, Cond.code yX1_onAt cX1_onAt 3 (some .boolean), Cond.fieldLink RX1 25 "CurfewDeskModel" "force" "[Z", Cond.methodLink RX1 77 yX1_isAt, Cond.instanceMethod yX1_isAt, Cond.selects RX1 yX1_isAt yX1_isAt, Cond.code yX1_isAt cX1_isAt 5 (some .boolean), Cond.fieldLink RX1 13 "CurfewDeskModel" "ahead" "[I", Cond.fieldLink RX1 16 "CurfewDeskModel" "behind" "[I", Cond.methodLink RX1 71 yX1_dusk, Cond.instanceMethod yX1_dusk, Cond.selects RX1 yX1_dusk yX1_dusk, Cond.code yX1_dusk cX1_dusk 2 (some .int)]
def wsX1_goOut_r3 : List Cond := [Cond.fieldLink RX1 68 "CurfewDeskModel" "shift" "I", Cond.methodLink RX1 64 yX1_tide, Cond.static yX1_tide, Cond.code yX1_tide cX1_tide 2 (some .int), Cond.methodLink RX1 74 yX1_dawn, Cond.static yX1_dawn, Cond.code yX1_dawn cX1_dawn 1 (some .int)]
def wsX1_goOut : List Cond := .code yX1_goOut cX1_goOut 6 (some .int) :: ((wsX1_goOut_r1 ++ (wsX1_goOut_r2 ++ wsX1_goOut_r3)) ++ wsX10)
def wsX1_pass_r1 : List Cond := [Cond.fieldLink RX1 47 "CurfewDeskModel" "thrown" "I", Cond.fieldLink RX1 58 "CurfewDeskModel" "orders" "I", Cond.fieldLink RX1 122 "CurfewDeskModel" "time" "I", Cond.methodLink RX1 54 yX1_isIn, Cond.static yX1_isIn, Cond.initialized RX1, Cond.code yX1_isIn cX1_isIn 3 (some .boolean), Cond.methodLink RX1 88 yX1_fail, Cond.instanceMethod yX1_fail, Cond.selects RX1 yX1_fail yX1_fail, Cond.code yX1_fail cX1_fail 2 (some .int), Cond.methodLink RX1 81 yX1_onAt, Cond.instanceMethod yX1_onAt, Cond.selects RX1 yX1_onAt yX1_onAt, Cond.code yX1_onAt cX1_onAt 3 (some .boolean), Cond.fieldLink RX1 25 "CurfewDeskModel" "force" "[Z", Cond.methodLink RX1 77 yX1_isAt, Cond.instanceMethod yX1_isAt, Cond.selects RX1 yX1_isAt yX1_isAt, Cond.code yX1_isAt cX1_isAt 5 (some .boolean), Cond.fieldLink RX1 13 "CurfewDeskModel" "ahead" "[I", Cond.fieldLink RX1 16 "CurfewDeskModel" "behind" "[I", Cond.methodLink RX1 71 yX1_dusk, Cond.instanceMethod yX1_dusk]
def wsX1_pass_r2 : List Cond := [Cond.selects RX1 yX1_dusk yX1_dusk, Cond.code yX1_dusk cX1_dusk 2 (some .int), Cond.fieldLink RX1 68 "CurfewDeskModel" "shift" "I", Cond.methodLink RX1 64 yX1_tide, Cond.static yX1_tide, Cond.code yX1_tide cX1_tide 2 (some .int), Cond.methodLink RX1 74 yX1_dawn, Cond.static yX1_dawn, Cond.code yX1_dawn cX1_dawn 1 (some .int)]
def wsX1_pass : List Cond := .code yX1_pass cX1_pass 5 (some .int) :: ((wsX1_pass_r1 ++ wsX1_pass_r2) ++ wsX10)
def wsX1_day : List Cond := .code yX1_day cX1_day 1 (some .int) :: ([.fieldLink RX1 47 "CurfewDeskModel" "thrown" "I", .fieldLink RX1 122 "CurfewDeskModel" "time" "I"] ++ wsX10)
def wsX1_halfHour : List Cond := .code yX1_halfHour cX1_halfHour 1 (some .int) :: ([.fieldLink RX1 47 "CurfewDeskModel" "thrown" "I", .fieldLink RX1 122 "CurfewDeskModel" "time" "I"] ++ wsX10)
def wsX1_duskIn : List Cond := .code yX1_duskIn cX1_duskIn 2 (some .int) :: ([.fieldLink RX1 47 "CurfewDeskModel" "thrown" "I", .fieldLink RX1 122 "CurfewDeskModel" "time" "I", .methodLink RX1 54 yX1_isIn, .static yX1_isIn, .initialized RX1, .code yX1_isIn cX1_isIn 3 (some .boolean), .methodLink RX1 71 yX1_dusk, .instanceMethod yX1_dusk, .selects RX1 yX1_dusk yX1_dusk, .code yX1_dusk cX1_dusk 2 (some .int), .fieldLink RX1 68 "CurfewDeskModel" "shift" "I", .methodLink RX1 64 yX1_tide, .static yX1_tide, .code yX1_tide cX1_tide 2 (some .int), .methodLink RX1 88 yX1_fail, .instanceMethod yX1_fail, .selects RX1 yX1_fail yX1_fail, .code yX1_fail cX1_fail 2 (some .int)] ++ wsX10)
def wsX1_dawnIn : List Cond := .code yX1_dawnIn cX1_dawnIn 2 (some .int) :: ([.fieldLink RX1 47 "CurfewDeskModel" "thrown" "I", .fieldLink RX1 122 "CurfewDeskModel" "time" "I", .methodLink RX1 54 yX1_isIn, .static yX1_isIn, .initialized RX1, .code yX1_isIn cX1_isIn 3 (some .boolean), .methodLink RX1 74 yX1_dawn, .static yX1_dawn, .code yX1_dawn cX1_dawn 1 (some .int), .methodLink RX1 64 yX1_tide, .static yX1_tide, .code yX1_tide cX1_tide 2 (some .int), .methodLink RX1 88 yX1_fail, .instanceMethod yX1_fail, .selects RX1 yX1_fail yX1_fail, .code yX1_fail cX1_fail 2 (some .int)] ++ wsX10)
def wsX1_quarterOf : List Cond := .code yX1_quarterOf cX1_quarterOf 2 (some .int) :: ([.fieldLink RX1 47 "CurfewDeskModel" "thrown" "I", .fieldLink RX1 9 "CurfewDeskModel" "quarter" "[I", .methodLink RX1 101 yX1_isOrder, .instanceMethod yX1_isOrder, .selects RX1 yX1_isOrder yX1_isOrder, .initialized RX1, .code yX1_isOrder cX1_isOrder 2 (some .boolean), .fieldLink RX1 58 "CurfewDeskModel" "orders" "I", .methodLink RX1 54 yX1_isIn, .static yX1_isIn, .code yX1_isIn cX1_isIn 3 (some .boolean), .methodLink RX1 88 yX1_fail, .instanceMethod yX1_fail, .selects RX1 yX1_fail yX1_fail, .code yX1_fail cX1_fail 2 (some .int)] ++ wsX10)
def wsX1_colourOf : List Cond := .code yX1_colourOf cX1_colourOf 2 (some .int) :: ([.fieldLink RX1 47 "CurfewDeskModel" "thrown" "I", .fieldLink RX1 19 "CurfewDeskModel" "colour" "[I", .methodLink RX1 101 yX1_isOrder, .instanceMethod yX1_isOrder, .selects RX1 yX1_isOrder yX1_isOrder, .initialized RX1, .code yX1_isOrder cX1_isOrder 2 (some .boolean), .fieldLink RX1 58 "CurfewDeskModel" "orders" "I", .methodLink RX1 54 yX1_isIn, .static yX1_isIn, .code yX1_isIn cX1_isIn 3 (some .boolean), .methodLink RX1 88 yX1_fail, .instanceMethod yX1_fail, .selects RX1 yX1_fail yX1_fail, .code yX1_fail cX1_fail 2 (some .int)] ++ wsX10)
def wsX1_isInForce : List Cond := .code yX1_isInForce cX1_isInForce 2 (some .boolean) :: ([.fieldLink RX1 47 "CurfewDeskModel" "thrown" "I", .fieldLink RX1 25 "CurfewDeskModel" "force" "[Z", .methodLink RX1 101 yX1_isOrder, .instanceMethod yX1_isOrder, .selects RX1 yX1_isOrder yX1_isOrder, .initialized RX1, .code yX1_isOrder cX1_isOrder 2 (some .boolean), .fieldLink RX1 58 "CurfewDeskModel" "orders" "I", .methodLink RX1 54 yX1_isIn, .static yX1_isIn, .code yX1_isIn cX1_isIn 3 (some .boolean), .methodLink RX1 104 yX1_failed, .instanceMethod yX1_failed, .selects RX1 yX1_failed yX1_failed, .code yX1_failed cX1_failed 2 (some .boolean)] ++ wsX10)
def wsX1_isOn_r1 : List Cond := [Cond.fieldLink RX1 47 "CurfewDeskModel" "thrown" "I", Cond.fieldLink RX1 122 "CurfewDeskModel" "time" "I", Cond.methodLink RX1 101 yX1_isOrder, Cond.instanceMethod yX1_isOrder, Cond.selects RX1 yX1_isOrder yX1_isOrder, Cond.initialized RX1, Cond.code yX1_isOrder cX1_isOrder 2 (some .boolean), Cond.fieldLink RX1 58 "CurfewDeskModel" "orders" "I", Cond.methodLink RX1 54 yX1_isIn, Cond.static yX1_isIn, Cond.code yX1_isIn cX1_isIn 3 (some .boolean), Cond.methodLink RX1 81 yX1_onAt, Cond.instanceMethod yX1_onAt, Cond.selects RX1 yX1_onAt yX1_onAt, Cond.code yX1_onAt cX1_onAt 3 (some .boolean), Cond.fieldLink RX1 25 "CurfewDeskModel" "force" "[Z", Cond.methodLink RX1 77 yX1_isAt, Cond.instanceMethod yX1_isAt, Cond.selects RX1 yX1_isAt yX1_isAt, Cond.code yX1_isAt cX1_isAt 5 (some .boolean), Cond.fieldLink RX1 13 "CurfewDeskModel" "ahead" "[I", Cond.fieldLink RX1 16 "CurfewDeskModel" "behind" "[I", Cond.methodLink RX1 71 yX1_dusk, Cond.instanceMethod yX1_dusk]
def wsX1_isOn_r2 : List Cond := [Cond.selects RX1 yX1_dusk yX1_dusk, Cond.code yX1_dusk cX1_dusk 2 (some .int), Cond.fieldLink RX1 68 "CurfewDeskModel" "shift" "I", Cond.methodLink RX1 64 yX1_tide, Cond.static yX1_tide, Cond.code yX1_tide cX1_tide 2 (some .int), Cond.methodLink RX1 74 yX1_dawn, Cond.static yX1_dawn, Cond.code yX1_dawn cX1_dawn 1 (some .int), Cond.methodLink RX1 104 yX1_failed, Cond.instanceMethod yX1_failed, Cond.selects RX1 yX1_failed yX1_failed, Cond.code yX1_failed cX1_failed 2 (some .boolean)]
def wsX1_isOn : List Cond := .code yX1_isOn cX1_isOn 2 (some .boolean) :: ((wsX1_isOn_r1 ++ wsX1_isOn_r2) ++ wsX10)
def wsX1_isExempt : List Cond := .code yX1_isExempt cX1_isExempt 3 (some .boolean) :: ([.fieldLink RX1 47 "CurfewDeskModel" "thrown" "I", .fieldLink RX1 22 "CurfewDeskModel" "exempt" "[I", .methodLink RX1 101 yX1_isOrder, .instanceMethod yX1_isOrder, .selects RX1 yX1_isOrder yX1_isOrder, .initialized RX1, .code yX1_isOrder cX1_isOrder 2 (some .boolean), .fieldLink RX1 58 "CurfewDeskModel" "orders" "I", .methodLink RX1 54 yX1_isIn, .static yX1_isIn, .code yX1_isIn cX1_isIn 3 (some .boolean), .methodLink RX1 91 yX1_isTrade, .static yX1_isTrade, .code yX1_isTrade cX1_isTrade 1 (some .boolean), .methodLink RX1 104 yX1_failed, .instanceMethod yX1_failed, .selects RX1 yX1_failed yX1_failed, .code yX1_failed cX1_failed 2 (some .boolean)] ++ wsX10)
def wsX1_barred_r1 : List Cond := [Cond.fieldLink RX1 61 "CurfewDeskModel" "people" "I", Cond.fieldLink RX1 9 "CurfewDeskModel" "quarter" "[I", Cond.fieldLink RX1 122 "CurfewDeskModel" "time" "I", Cond.methodLink RX1 84 yX1_barsAt, Cond.instanceMethod yX1_barsAt, Cond.selects RX1 yX1_barsAt yX1_barsAt, Cond.initialized RX1, Cond.code yX1_barsAt cX1_barsAt 5 (some .boolean), Cond.fieldLink RX1 22 "CurfewDeskModel" "exempt" "[I", Cond.fieldLink RX1 29 "CurfewDeskModel" "trade" "[I", Cond.methodLink RX1 81 yX1_onAt, Cond.instanceMethod yX1_onAt, Cond.selects RX1 yX1_onAt yX1_onAt, Cond.code yX1_onAt cX1_onAt 3 (some .boolean), Cond.fieldLink RX1 25 "CurfewDeskModel" "force" "[Z", Cond.methodLink RX1 77 yX1_isAt, Cond.instanceMethod yX1_isAt, Cond.selects RX1 yX1_isAt yX1_isAt, Cond.code yX1_isAt cX1_isAt 5 (some .boolean), Cond.fieldLink RX1 13 "CurfewDeskModel" "ahead" "[I", Cond.fieldLink RX1 16 "CurfewDeskModel" "behind" "[I", Cond.methodLink RX1 71 yX1_dusk, Cond.instanceMethod yX1_dusk, Cond.selects RX1 yX1_dusk yX1_dusk]
def wsX1_barred_r2 : List Cond := [Cond.code yX1_dusk cX1_dusk 2 (some .int), Cond.fieldLink RX1 68 "CurfewDeskModel" "shift" "I", Cond.methodLink RX1 64 yX1_tide, Cond.static yX1_tide, Cond.code yX1_tide cX1_tide 2 (some .int), Cond.methodLink RX1 74 yX1_dawn, Cond.static yX1_dawn, Cond.code yX1_dawn cX1_dawn 1 (some .int)]
def wsX1_barred : List Cond := .code yX1_barred cX1_barred 4 (some .int) :: ((wsX1_barred_r1 ++ wsX1_barred_r2) ++ wsX10)
def wsX1_barredBy_r1 : List Cond := [Cond.fieldLink RX1 47 "CurfewDeskModel" "thrown" "I", Cond.methodLink RX1 101 yX1_isOrder, Cond.instanceMethod yX1_isOrder, Cond.selects RX1 yX1_isOrder yX1_isOrder, Cond.initialized RX1, Cond.code yX1_isOrder cX1_isOrder 2 (some .boolean), Cond.fieldLink RX1 58 "CurfewDeskModel" "orders" "I", Cond.methodLink RX1 54 yX1_isIn, Cond.static yX1_isIn, Cond.code yX1_isIn cX1_isIn 3 (some .boolean), Cond.methodLink RX1 125 yX1_barred, Cond.instanceMethod yX1_barred, Cond.selects RX1 yX1_barred yX1_barred, Cond.code yX1_barred cX1_barred 4 (some .int), Cond.fieldLink RX1 61 "CurfewDeskModel" "people" "I", Cond.fieldLink RX1 9 "CurfewDeskModel" "quarter" "[I", Cond.fieldLink RX1 122 "CurfewDeskModel" "time" "I", Cond.methodLink RX1 84 yX1_barsAt, Cond.instanceMethod yX1_barsAt, Cond.selects RX1 yX1_barsAt yX1_barsAt, Cond.code yX1_barsAt cX1_barsAt 5 (some .boolean), Cond.fieldLink RX1 22 "CurfewDeskModel" "exempt" "[I", Cond.fieldLink RX1 29 "CurfewDeskModel" "trade" "[I", Cond.methodLink RX1 81 yX1_onAt]
def wsX1_barredBy_r2 : List Cond := [Cond.instanceMethod yX1_onAt, Cond.selects RX1 yX1_onAt yX1_onAt, Cond.code yX1_onAt cX1_onAt 3 (some .boolean), Cond.fieldLink RX1 25 "CurfewDeskModel" "force" "[Z", Cond.methodLink RX1 77 yX1_isAt, Cond.instanceMethod yX1_isAt, Cond.selects RX1 yX1_isAt yX1_isAt, Cond.code yX1_isAt cX1_isAt 5 (some .boolean), Cond.fieldLink RX1 13 "CurfewDeskModel" "ahead" "[I", Cond.fieldLink RX1 16 "CurfewDeskModel" "behind" "[I", Cond.methodLink RX1 71 yX1_dusk, Cond.instanceMethod yX1_dusk, Cond.selects RX1 yX1_dusk yX1_dusk, Cond.code yX1_dusk cX1_dusk 2 (some .int), Cond.fieldLink RX1 68 "CurfewDeskModel" "shift" "I", Cond.methodLink RX1 64 yX1_tide, Cond.static yX1_tide, Cond.code yX1_tide cX1_tide 2 (some .int), Cond.methodLink RX1 74 yX1_dawn, Cond.static yX1_dawn, Cond.code yX1_dawn cX1_dawn 1 (some .int), Cond.methodLink RX1 88 yX1_fail, Cond.instanceMethod yX1_fail, Cond.selects RX1 yX1_fail yX1_fail]
def wsX1_barredBy_r3 : List Cond := [Cond.code yX1_fail cX1_fail 2 (some .int)]
def wsX1_barredBy : List Cond := .code yX1_barredBy cX1_barredBy 2 (some .int) :: ((wsX1_barredBy_r1 ++ (wsX1_barredBy_r2 ++ wsX1_barredBy_r3)) ++ wsX10)
def wsX1_tradeOf : List Cond := .code yX1_tradeOf cX1_tradeOf 2 (some .int) :: ([.fieldLink RX1 47 "CurfewDeskModel" "thrown" "I", .fieldLink RX1 29 "CurfewDeskModel" "trade" "[I", .methodLink RX1 107 yX1_isPerson, .instanceMethod yX1_isPerson, .selects RX1 yX1_isPerson yX1_isPerson, .initialized RX1, .code yX1_isPerson cX1_isPerson 2 (some .boolean), .fieldLink RX1 61 "CurfewDeskModel" "people" "I", .methodLink RX1 54 yX1_isIn, .static yX1_isIn, .code yX1_isIn cX1_isIn 3 (some .boolean), .methodLink RX1 88 yX1_fail, .instanceMethod yX1_fail, .selects RX1 yX1_fail yX1_fail, .code yX1_fail cX1_fail 2 (some .int)] ++ wsX10)
def wsX1_stampsOf : List Cond := .code yX1_stampsOf cX1_stampsOf 3 (some .int) :: ([.fieldLink RX1 38 "CurfewDeskModel" "stamps" "[I", .methodLink RX1 110 yX1_isPass, .instanceMethod yX1_isPass, .selects RX1 yX1_isPass yX1_isPass, .initialized RX1, .code yX1_isPass cX1_isPass 3 (some .boolean), .fieldLink RX1 47 "CurfewDeskModel" "thrown" "I", .methodLink RX1 107 yX1_isPerson, .instanceMethod yX1_isPerson, .selects RX1 yX1_isPerson yX1_isPerson, .code yX1_isPerson cX1_isPerson 2 (some .boolean), .fieldLink RX1 61 "CurfewDeskModel" "people" "I", .methodLink RX1 54 yX1_isIn, .static yX1_isIn, .code yX1_isIn cX1_isIn 3 (some .boolean), .methodLink RX1 98 yX1_isColour, .static yX1_isColour, .code yX1_isColour cX1_isColour 1 (some .boolean)] ++ wsX10)
def wsX1_owes : List Cond := .code yX1_owes cX1_owes 2 (some .int) :: ([.fieldLink RX1 47 "CurfewDeskModel" "thrown" "I", .fieldLink RX1 35 "CurfewDeskModel" "debt" "[I", .methodLink RX1 107 yX1_isPerson, .instanceMethod yX1_isPerson, .selects RX1 yX1_isPerson yX1_isPerson, .initialized RX1, .code yX1_isPerson cX1_isPerson 2 (some .boolean), .fieldLink RX1 61 "CurfewDeskModel" "people" "I", .methodLink RX1 54 yX1_isIn, .static yX1_isIn, .code yX1_isIn cX1_isIn 3 (some .boolean), .methodLink RX1 88 yX1_fail, .instanceMethod yX1_fail, .selects RX1 yX1_fail yX1_fail, .code yX1_fail cX1_fail 2 (some .int)] ++ wsX10)
def wsX1_timesFined : List Cond := .code yX1_timesFined cX1_timesFined 2 (some .int) :: ([.fieldLink RX1 47 "CurfewDeskModel" "thrown" "I", .fieldLink RX1 32 "CurfewDeskModel" "fined" "[I", .methodLink RX1 107 yX1_isPerson, .instanceMethod yX1_isPerson, .selects RX1 yX1_isPerson yX1_isPerson, .initialized RX1, .code yX1_isPerson cX1_isPerson 2 (some .boolean), .fieldLink RX1 61 "CurfewDeskModel" "people" "I", .methodLink RX1 54 yX1_isIn, .static yX1_isIn, .code yX1_isIn cX1_isIn 3 (some .boolean), .methodLink RX1 88 yX1_fail, .instanceMethod yX1_fail, .selects RX1 yX1_fail yX1_fail, .code yX1_fail cX1_fail 2 (some .int)] ++ wsX10)
def wsX1_ordersAgainst_r1 : List Cond := [Cond.fieldLink RX1 122 "CurfewDeskModel" "time" "I", Cond.methodLink RX1 119 yX1_isPair, Cond.instanceMethod yX1_isPair, Cond.selects RX1 yX1_isPair yX1_isPair, Cond.initialized RX1, Cond.code yX1_isPair cX1_isPair 3 (some .boolean), Cond.fieldLink RX1 47 "CurfewDeskModel" "thrown" "I", Cond.methodLink RX1 107 yX1_isPerson, Cond.instanceMethod yX1_isPerson, Cond.selects RX1 yX1_isPerson yX1_isPerson, Cond.code yX1_isPerson cX1_isPerson 2 (some .boolean), Cond.fieldLink RX1 61 "CurfewDeskModel" "people" "I", Cond.methodLink RX1 54 yX1_isIn, Cond.static yX1_isIn, Cond.code yX1_isIn cX1_isIn 3 (some .boolean), Cond.methodLink RX1 95 yX1_isQuarter, Cond.instanceMethod yX1_isQuarter, Cond.selects RX1 yX1_isQuarter yX1_isQuarter, Cond.code yX1_isQuarter cX1_isQuarter 2 (some .boolean), Cond.fieldLink RX1 51 "CurfewDeskModel" "quarters" "I", Cond.methodLink RX1 128 yX1_against, Cond.instanceMethod yX1_against, Cond.selects RX1 yX1_against yX1_against, Cond.code yX1_against cX1_against 6 (some .int)]
def wsX1_ordersAgainst_r2 : List Cond := [Cond.fieldLink RX1 58 "CurfewDeskModel" "orders" "I", Cond.methodLink RX1 84 yX1_barsAt, Cond.instanceMethod yX1_barsAt, Cond.selects RX1 yX1_barsAt yX1_barsAt, Cond.code yX1_barsAt cX1_barsAt 5 (some .boolean), Cond.fieldLink RX1 9 "CurfewDeskModel" "quarter" "[I", Cond.fieldLink RX1 22 "CurfewDeskModel" "exempt" "[I", Cond.fieldLink RX1 29 "CurfewDeskModel" "trade" "[I", Cond.methodLink RX1 81 yX1_onAt, Cond.instanceMethod yX1_onAt, Cond.selects RX1 yX1_onAt yX1_onAt, Cond.code yX1_onAt cX1_onAt 3 (some .boolean), Cond.fieldLink RX1 25 "CurfewDeskModel" "force" "[Z", Cond.methodLink RX1 77 yX1_isAt, Cond.instanceMethod yX1_isAt, Cond.selects RX1 yX1_isAt yX1_isAt, Cond.code yX1_isAt cX1_isAt 5 (some .boolean), Cond.fieldLink RX1 13 "CurfewDeskModel" "ahead" "[I", Cond.fieldLink RX1 16 "CurfewDeskModel" "behind" "[I", Cond.methodLink RX1 71 yX1_dusk, Cond.instanceMethod yX1_dusk, Cond.selects RX1 yX1_dusk yX1_dusk, Cond.code yX1_dusk cX1_dusk 2 (some .int), Cond.fieldLink RX1 68 "CurfewDeskModel" "shift" "I"]
def wsX1_ordersAgainst_r3 : List Cond := [Cond.methodLink RX1 64 yX1_tide, Cond.static yX1_tide, Cond.code yX1_tide cX1_tide 2 (some .int), Cond.methodLink RX1 74 yX1_dawn, Cond.static yX1_dawn, Cond.code yX1_dawn cX1_dawn 1 (some .int)]
def wsX1_ordersAgainst : List Cond := .code yX1_ordersAgainst cX1_ordersAgainst 3 (some .int) :: ((wsX1_ordersAgainst_r1 ++ (wsX1_ordersAgainst_r2 ++ wsX1_ordersAgainst_r3)) ++ wsX10)
def wsX1_missing_r1 : List Cond := [Cond.fieldLink RX1 44 "CurfewDeskModel" "wanted" "[I", Cond.fieldLink RX1 38 "CurfewDeskModel" "stamps" "[I", Cond.fieldLink RX1 58 "CurfewDeskModel" "orders" "I", Cond.fieldLink RX1 122 "CurfewDeskModel" "time" "I", Cond.fieldLink RX1 19 "CurfewDeskModel" "colour" "[I", Cond.methodLink RX1 132 Lib.Math.max.name, Cond.static Lib.Math.max.name, Cond.initialized "java/lang/Math", Cond.code Lib.Math.max.name Lib.Math.max.code 2 (some .int), Cond.methodLink RX1 84 yX1_barsAt, Cond.instanceMethod yX1_barsAt, Cond.selects RX1 yX1_barsAt yX1_barsAt, Cond.initialized RX1, Cond.code yX1_barsAt cX1_barsAt 5 (some .boolean), Cond.fieldLink RX1 9 "CurfewDeskModel" "quarter" "[I", Cond.fieldLink RX1 22 "CurfewDeskModel" "exempt" "[I", Cond.fieldLink RX1 29 "CurfewDeskModel" "trade" "[I", Cond.methodLink RX1 81 yX1_onAt, Cond.instanceMethod yX1_onAt, Cond.selects RX1 yX1_onAt yX1_onAt, Cond.code yX1_onAt cX1_onAt 3 (some .boolean), Cond.fieldLink RX1 25 "CurfewDeskModel" "force" "[Z", Cond.methodLink RX1 77 yX1_isAt, Cond.instanceMethod yX1_isAt]
def wsX1_missing_r2 : List Cond := [Cond.selects RX1 yX1_isAt yX1_isAt, Cond.code yX1_isAt cX1_isAt 5 (some .boolean), Cond.fieldLink RX1 13 "CurfewDeskModel" "ahead" "[I", Cond.fieldLink RX1 16 "CurfewDeskModel" "behind" "[I", Cond.methodLink RX1 71 yX1_dusk, Cond.instanceMethod yX1_dusk, Cond.selects RX1 yX1_dusk yX1_dusk, Cond.code yX1_dusk cX1_dusk 2 (some .int), Cond.fieldLink RX1 68 "CurfewDeskModel" "shift" "I", Cond.methodLink RX1 64 yX1_tide, Cond.static yX1_tide, Cond.code yX1_tide cX1_tide 2 (some .int), Cond.methodLink RX1 74 yX1_dawn, Cond.static yX1_dawn, Cond.code yX1_dawn cX1_dawn 1 (some .int)]
def wsX1_missing : List Cond := .code yX1_missing cX1_missing 5 (some .int) :: ((wsX1_missing_r1 ++ wsX1_missing_r2) ++ wsX10)
def wsX1_mayGo_r1 : List Cond := [Cond.methodLink RX1 119 yX1_isPair, Cond.instanceMethod yX1_isPair, Cond.selects RX1 yX1_isPair yX1_isPair, Cond.initialized RX1, Cond.code yX1_isPair cX1_isPair 3 (some .boolean), Cond.fieldLink RX1 47 "CurfewDeskModel" "thrown" "I", Cond.methodLink RX1 107 yX1_isPerson, Cond.instanceMethod yX1_isPerson, Cond.selects RX1 yX1_isPerson yX1_isPerson, Cond.code yX1_isPerson cX1_isPerson 2 (some .boolean), Cond.fieldLink RX1 61 "CurfewDeskModel" "people" "I", Cond.methodLink RX1 54 yX1_isIn, Cond.static yX1_isIn, Cond.code yX1_isIn cX1_isIn 3 (some .boolean), Cond.methodLink RX1 95 yX1_isQuarter, Cond.instanceMethod yX1_isQuarter, Cond.selects RX1 yX1_isQuarter yX1_isQuarter, Cond.code yX1_isQuarter cX1_isQuarter 2 (some .boolean), Cond.fieldLink RX1 51 "CurfewDeskModel" "quarters" "I", Cond.methodLink RX1 135 yX1_missing, Cond.instanceMethod yX1_missing, Cond.selects RX1 yX1_missing yX1_missing, Cond.code yX1_missing cX1_missing 5 (some .int), Cond.fieldLink RX1 44 "CurfewDeskModel" "wanted" "[I"]
def wsX1_mayGo_r2 : List Cond := [Cond.fieldLink RX1 38 "CurfewDeskModel" "stamps" "[I", Cond.fieldLink RX1 58 "CurfewDeskModel" "orders" "I", Cond.fieldLink RX1 122 "CurfewDeskModel" "time" "I", Cond.fieldLink RX1 19 "CurfewDeskModel" "colour" "[I", Cond.methodLink RX1 132 Lib.Math.max.name, Cond.static Lib.Math.max.name, Cond.initialized "java/lang/Math", Cond.code Lib.Math.max.name Lib.Math.max.code 2 (some .int), Cond.methodLink RX1 84 yX1_barsAt, Cond.instanceMethod yX1_barsAt, Cond.selects RX1 yX1_barsAt yX1_barsAt, Cond.code yX1_barsAt cX1_barsAt 5 (some .boolean), Cond.fieldLink RX1 9 "CurfewDeskModel" "quarter" "[I", Cond.fieldLink RX1 22 "CurfewDeskModel" "exempt" "[I", Cond.fieldLink RX1 29 "CurfewDeskModel" "trade" "[I", Cond.methodLink RX1 81 yX1_onAt, Cond.instanceMethod yX1_onAt, Cond.selects RX1 yX1_onAt yX1_onAt, Cond.code yX1_onAt cX1_onAt 3 (some .boolean), Cond.fieldLink RX1 25 "CurfewDeskModel" "force" "[Z", Cond.methodLink RX1 77 yX1_isAt, Cond.instanceMethod yX1_isAt, Cond.selects RX1 yX1_isAt yX1_isAt, Cond.code yX1_isAt cX1_isAt 5 (some .boolean)]
def wsX1_mayGo_r3 : List Cond := [Cond.fieldLink RX1 13 "CurfewDeskModel" "ahead" "[I", Cond.fieldLink RX1 16 "CurfewDeskModel" "behind" "[I", Cond.methodLink RX1 71 yX1_dusk, Cond.instanceMethod yX1_dusk, Cond.selects RX1 yX1_dusk yX1_dusk, Cond.code yX1_dusk cX1_dusk 2 (some .int), Cond.fieldLink RX1 68 "CurfewDeskModel" "shift" "I", Cond.methodLink RX1 64 yX1_tide, Cond.static yX1_tide, Cond.code yX1_tide cX1_tide 2 (some .int), Cond.methodLink RX1 74 yX1_dawn, Cond.static yX1_dawn, Cond.code yX1_dawn cX1_dawn 1 (some .int)]
def wsX1_mayGo : List Cond := .code yX1_mayGo cX1_mayGo 3 (some .boolean) :: ((wsX1_mayGo_r1 ++ (wsX1_mayGo_r2 ++ wsX1_mayGo_r3)) ++ wsX10)
def wsX1_stampsMissing_r1 : List Cond := [Cond.methodLink RX1 119 yX1_isPair, Cond.instanceMethod yX1_isPair, Cond.selects RX1 yX1_isPair yX1_isPair, Cond.initialized RX1, Cond.code yX1_isPair cX1_isPair 3 (some .boolean), Cond.fieldLink RX1 47 "CurfewDeskModel" "thrown" "I", Cond.methodLink RX1 107 yX1_isPerson, Cond.instanceMethod yX1_isPerson, Cond.selects RX1 yX1_isPerson yX1_isPerson, Cond.code yX1_isPerson cX1_isPerson 2 (some .boolean), Cond.fieldLink RX1 61 "CurfewDeskModel" "people" "I", Cond.methodLink RX1 54 yX1_isIn, Cond.static yX1_isIn, Cond.code yX1_isIn cX1_isIn 3 (some .boolean), Cond.methodLink RX1 95 yX1_isQuarter, Cond.instanceMethod yX1_isQuarter, Cond.selects RX1 yX1_isQuarter yX1_isQuarter, Cond.code yX1_isQuarter cX1_isQuarter 2 (some .boolean), Cond.fieldLink RX1 51 "CurfewDeskModel" "quarters" "I", Cond.methodLink RX1 135 yX1_missing, Cond.instanceMethod yX1_missing, Cond.selects RX1 yX1_missing yX1_missing, Cond.code yX1_missing cX1_missing 5 (some .int), Cond.fieldLink RX1 44 "CurfewDeskModel" "wanted" "[I"]
def wsX1_stampsMissing_r2 : List Cond := [Cond.fieldLink RX1 38 "CurfewDeskModel" "stamps" "[I", Cond.fieldLink RX1 58 "CurfewDeskModel" "orders" "I", Cond.fieldLink RX1 122 "CurfewDeskModel" "time" "I", Cond.fieldLink RX1 19 "CurfewDeskModel" "colour" "[I", Cond.methodLink RX1 132 Lib.Math.max.name, Cond.static Lib.Math.max.name, Cond.initialized "java/lang/Math", Cond.code Lib.Math.max.name Lib.Math.max.code 2 (some .int), Cond.methodLink RX1 84 yX1_barsAt, Cond.instanceMethod yX1_barsAt, Cond.selects RX1 yX1_barsAt yX1_barsAt, Cond.code yX1_barsAt cX1_barsAt 5 (some .boolean), Cond.fieldLink RX1 9 "CurfewDeskModel" "quarter" "[I", Cond.fieldLink RX1 22 "CurfewDeskModel" "exempt" "[I", Cond.fieldLink RX1 29 "CurfewDeskModel" "trade" "[I", Cond.methodLink RX1 81 yX1_onAt, Cond.instanceMethod yX1_onAt, Cond.selects RX1 yX1_onAt yX1_onAt, Cond.code yX1_onAt cX1_onAt 3 (some .boolean), Cond.fieldLink RX1 25 "CurfewDeskModel" "force" "[Z", Cond.methodLink RX1 77 yX1_isAt, Cond.instanceMethod yX1_isAt, Cond.selects RX1 yX1_isAt yX1_isAt, Cond.code yX1_isAt cX1_isAt 5 (some .boolean)]
def wsX1_stampsMissing_r3 : List Cond := [Cond.fieldLink RX1 13 "CurfewDeskModel" "ahead" "[I", Cond.fieldLink RX1 16 "CurfewDeskModel" "behind" "[I", Cond.methodLink RX1 71 yX1_dusk, Cond.instanceMethod yX1_dusk, Cond.selects RX1 yX1_dusk yX1_dusk, Cond.code yX1_dusk cX1_dusk 2 (some .int), Cond.fieldLink RX1 68 "CurfewDeskModel" "shift" "I", Cond.methodLink RX1 64 yX1_tide, Cond.static yX1_tide, Cond.code yX1_tide cX1_tide 2 (some .int), Cond.methodLink RX1 74 yX1_dawn, Cond.static yX1_dawn, Cond.code yX1_dawn cX1_dawn 1 (some .int)]
def wsX1_stampsMissing : List Cond := .code yX1_stampsMissing cX1_stampsMissing 3 (some .int) :: ((wsX1_stampsMissing_r1 ++ (wsX1_stampsMissing_r2 ++ wsX1_stampsMissing_r3)) ++ wsX10)
def wsX1_quarters : List Cond := .code yX1_quarters cX1_quarters 1 (some .int) :: ([.fieldLink RX1 47 "CurfewDeskModel" "thrown" "I", .fieldLink RX1 51 "CurfewDeskModel" "quarters" "I"] ++ wsX10)
def wsX1_orders : List Cond := .code yX1_orders cX1_orders 1 (some .int) :: ([.fieldLink RX1 47 "CurfewDeskModel" "thrown" "I", .fieldLink RX1 58 "CurfewDeskModel" "orders" "I"] ++ wsX10)
def wsX1_people : List Cond := .code yX1_people cX1_people 1 (some .int) :: ([.fieldLink RX1 47 "CurfewDeskModel" "thrown" "I", .fieldLink RX1 61 "CurfewDeskModel" "people" "I"] ++ wsX10)
def wsX1_manyOn_r1 : List Cond := [Cond.fieldLink RX1 58 "CurfewDeskModel" "orders" "I", Cond.fieldLink RX1 122 "CurfewDeskModel" "time" "I", Cond.methodLink RX1 81 yX1_onAt, Cond.instanceMethod yX1_onAt, Cond.selects RX1 yX1_onAt yX1_onAt, Cond.initialized RX1, Cond.code yX1_onAt cX1_onAt 3 (some .boolean), Cond.fieldLink RX1 25 "CurfewDeskModel" "force" "[Z", Cond.methodLink RX1 77 yX1_isAt, Cond.instanceMethod yX1_isAt, Cond.selects RX1 yX1_isAt yX1_isAt, Cond.code yX1_isAt cX1_isAt 5 (some .boolean), Cond.fieldLink RX1 13 "CurfewDeskModel" "ahead" "[I", Cond.fieldLink RX1 16 "CurfewDeskModel" "behind" "[I", Cond.methodLink RX1 71 yX1_dusk, Cond.instanceMethod yX1_dusk, Cond.selects RX1 yX1_dusk yX1_dusk, Cond.code yX1_dusk cX1_dusk 2 (some .int), Cond.fieldLink RX1 68 "CurfewDeskModel" "shift" "I", Cond.methodLink RX1 64 yX1_tide, Cond.static yX1_tide, Cond.code yX1_tide cX1_tide 2 (some .int), Cond.methodLink RX1 74 yX1_dawn, Cond.static yX1_dawn]
def wsX1_manyOn_r2 : List Cond := [Cond.code yX1_dawn cX1_dawn 1 (some .int)]
def wsX1_manyOn : List Cond := .code yX1_manyOn cX1_manyOn 3 (some .int) :: ((wsX1_manyOn_r1 ++ wsX1_manyOn_r2) ++ wsX10)
def wsX1_ordersOn_r1 : List Cond := [Cond.fieldLink RX1 47 "CurfewDeskModel" "thrown" "I", Cond.methodLink RX1 138 yX1_manyOn, Cond.instanceMethod yX1_manyOn, Cond.selects RX1 yX1_manyOn yX1_manyOn, Cond.initialized RX1, Cond.code yX1_manyOn cX1_manyOn 3 (some .int), Cond.fieldLink RX1 58 "CurfewDeskModel" "orders" "I", Cond.fieldLink RX1 122 "CurfewDeskModel" "time" "I", Cond.methodLink RX1 81 yX1_onAt, Cond.instanceMethod yX1_onAt, Cond.selects RX1 yX1_onAt yX1_onAt, Cond.code yX1_onAt cX1_onAt 3 (some .boolean), Cond.fieldLink RX1 25 "CurfewDeskModel" "force" "[Z", Cond.methodLink RX1 77 yX1_isAt, Cond.instanceMethod yX1_isAt, Cond.selects RX1 yX1_isAt yX1_isAt, Cond.code yX1_isAt cX1_isAt 5 (some .boolean), Cond.fieldLink RX1 13 "CurfewDeskModel" "ahead" "[I", Cond.fieldLink RX1 16 "CurfewDeskModel" "behind" "[I", Cond.methodLink RX1 71 yX1_dusk, Cond.instanceMethod yX1_dusk, Cond.selects RX1 yX1_dusk yX1_dusk, Cond.code yX1_dusk cX1_dusk 2 (some .int), Cond.fieldLink RX1 68 "CurfewDeskModel" "shift" "I"]
def wsX1_ordersOn_r2 : List Cond := [Cond.methodLink RX1 64 yX1_tide, Cond.static yX1_tide, Cond.code yX1_tide cX1_tide 2 (some .int), Cond.methodLink RX1 74 yX1_dawn, Cond.static yX1_dawn, Cond.code yX1_dawn cX1_dawn 1 (some .int)]
def wsX1_ordersOn : List Cond := .code yX1_ordersOn cX1_ordersOn 1 (some .int) :: ((wsX1_ordersOn_r1 ++ wsX1_ordersOn_r2) ++ wsX10)
def wsX1_shift : List Cond := .code yX1_shift cX1_shift 1 (some .int) :: ([.fieldLink RX1 47 "CurfewDeskModel" "thrown" "I", .fieldLink RX1 68 "CurfewDeskModel" "shift" "I"] ++ wsX10)
def wsX1_all : List Cond := .code yX1_all cX1_all 3 (some .int) :: ([.fieldLink RX1 61 "CurfewDeskModel" "people" "I", .fieldLink RX1 35 "CurfewDeskModel" "debt" "[I"] ++ wsX10)
def wsX1_allOwe : List Cond := .code yX1_allOwe cX1_allOwe 1 (some .int) :: ([.fieldLink RX1 47 "CurfewDeskModel" "thrown" "I", .methodLink RX1 142 yX1_all, .instanceMethod yX1_all, .selects RX1 yX1_all yX1_all, .initialized RX1, .code yX1_all cX1_all 3 (some .int), .fieldLink RX1 61 "CurfewDeskModel" "people" "I", .fieldLink RX1 35 "CurfewDeskModel" "debt" "[I"] ++ wsX10)
def wsX1_stampsUsed : List Cond := .code yX1_stampsUsed cX1_stampsUsed 2 (some .int) :: ([.fieldLink RX1 47 "CurfewDeskModel" "thrown" "I", .fieldLink RX1 41 "CurfewDeskModel" "used" "[I", .methodLink RX1 98 yX1_isColour, .static yX1_isColour, .initialized RX1, .code yX1_isColour cX1_isColour 1 (some .boolean), .methodLink RX1 54 yX1_isIn, .static yX1_isIn, .code yX1_isIn cX1_isIn 3 (some .boolean), .methodLink RX1 88 yX1_fail, .instanceMethod yX1_fail, .selects RX1 yX1_fail yX1_fail, .code yX1_fail cX1_fail 2 (some .int)] ++ wsX10)
def wsX1_halfHoursUntilFree_r1 : List Cond := [Cond.fieldLink RX1 122 "CurfewDeskModel" "time" "I", Cond.methodLink RX1 119 yX1_isPair, Cond.instanceMethod yX1_isPair, Cond.selects RX1 yX1_isPair yX1_isPair, Cond.initialized RX1, Cond.code yX1_isPair cX1_isPair 3 (some .boolean), Cond.fieldLink RX1 47 "CurfewDeskModel" "thrown" "I", Cond.methodLink RX1 107 yX1_isPerson, Cond.instanceMethod yX1_isPerson, Cond.selects RX1 yX1_isPerson yX1_isPerson, Cond.code yX1_isPerson cX1_isPerson 2 (some .boolean), Cond.fieldLink RX1 61 "CurfewDeskModel" "people" "I", Cond.methodLink RX1 54 yX1_isIn, Cond.static yX1_isIn, Cond.code yX1_isIn cX1_isIn 3 (some .boolean), Cond.methodLink RX1 95 yX1_isQuarter, Cond.instanceMethod yX1_isQuarter, Cond.selects RX1 yX1_isQuarter yX1_isQuarter, Cond.code yX1_isQuarter cX1_isQuarter 2 (some .boolean), Cond.fieldLink RX1 51 "CurfewDeskModel" "quarters" "I", Cond.methodLink RX1 128 yX1_against, Cond.instanceMethod yX1_against, Cond.selects RX1 yX1_against yX1_against, Cond.code yX1_against cX1_against 6 (some .int)]
def wsX1_halfHoursUntilFree_r2 : List Cond := [Cond.fieldLink RX1 58 "CurfewDeskModel" "orders" "I", Cond.methodLink RX1 84 yX1_barsAt, Cond.instanceMethod yX1_barsAt, Cond.selects RX1 yX1_barsAt yX1_barsAt, Cond.code yX1_barsAt cX1_barsAt 5 (some .boolean), Cond.fieldLink RX1 9 "CurfewDeskModel" "quarter" "[I", Cond.fieldLink RX1 22 "CurfewDeskModel" "exempt" "[I", Cond.fieldLink RX1 29 "CurfewDeskModel" "trade" "[I", Cond.methodLink RX1 81 yX1_onAt, Cond.instanceMethod yX1_onAt, Cond.selects RX1 yX1_onAt yX1_onAt, Cond.code yX1_onAt cX1_onAt 3 (some .boolean), Cond.fieldLink RX1 25 "CurfewDeskModel" "force" "[Z", Cond.methodLink RX1 77 yX1_isAt, Cond.instanceMethod yX1_isAt, Cond.selects RX1 yX1_isAt yX1_isAt, Cond.code yX1_isAt cX1_isAt 5 (some .boolean), Cond.fieldLink RX1 13 "CurfewDeskModel" "ahead" "[I", Cond.fieldLink RX1 16 "CurfewDeskModel" "behind" "[I", Cond.methodLink RX1 71 yX1_dusk, Cond.instanceMethod yX1_dusk, Cond.selects RX1 yX1_dusk yX1_dusk, Cond.code yX1_dusk cX1_dusk 2 (some .int), Cond.fieldLink RX1 68 "CurfewDeskModel" "shift" "I"]
def wsX1_halfHoursUntilFree_r3 : List Cond := [Cond.methodLink RX1 64 yX1_tide, Cond.static yX1_tide, Cond.code yX1_tide cX1_tide 2 (some .int), Cond.methodLink RX1 74 yX1_dawn, Cond.static yX1_dawn, Cond.code yX1_dawn cX1_dawn 1 (some .int)]
def wsX1_halfHoursUntilFree : List Cond := .code yX1_halfHoursUntilFree cX1_halfHoursUntilFree 4 (some .int) :: ((wsX1_halfHoursUntilFree_r1 ++ (wsX1_halfHoursUntilFree_r2 ++ wsX1_halfHoursUntilFree_r3)) ++ wsX10)
def wsX1_halfHoursOn_r1 : List Cond := [Cond.fieldLink RX1 47 "CurfewDeskModel" "thrown" "I", Cond.fieldLink RX1 122 "CurfewDeskModel" "time" "I", Cond.methodLink RX1 101 yX1_isOrder, Cond.instanceMethod yX1_isOrder, Cond.selects RX1 yX1_isOrder yX1_isOrder, Cond.initialized RX1, Cond.code yX1_isOrder cX1_isOrder 2 (some .boolean), Cond.fieldLink RX1 58 "CurfewDeskModel" "orders" "I", Cond.methodLink RX1 54 yX1_isIn, Cond.static yX1_isIn, Cond.code yX1_isIn cX1_isIn 3 (some .boolean), Cond.methodLink RX1 88 yX1_fail, Cond.instanceMethod yX1_fail, Cond.selects RX1 yX1_fail yX1_fail, Cond.code yX1_fail cX1_fail 2 (some .int), Cond.methodLink RX1 77 yX1_isAt, Cond.instanceMethod yX1_isAt, Cond.selects RX1 yX1_isAt yX1_isAt, Cond.code yX1_isAt cX1_isAt 5 (some .boolean), Cond.fieldLink RX1 13 "CurfewDeskModel" "ahead" "[I", Cond.fieldLink RX1 16 "CurfewDeskModel" "behind" "[I", Cond.methodLink RX1 71 yX1_dusk, Cond.instanceMethod yX1_dusk, Cond.selects RX1 yX1_dusk yX1_dusk]
def wsX1_halfHoursOn_r2 : List Cond := [Cond.code yX1_dusk cX1_dusk 2 (some .int), Cond.fieldLink RX1 68 "CurfewDeskModel" "shift" "I", Cond.methodLink RX1 64 yX1_tide, Cond.static yX1_tide, Cond.code yX1_tide cX1_tide 2 (some .int), Cond.methodLink RX1 74 yX1_dawn, Cond.static yX1_dawn, Cond.code yX1_dawn cX1_dawn 1 (some .int)]
def wsX1_halfHoursOn : List Cond := .code yX1_halfHoursOn cX1_halfHoursOn 4 (some .int) :: ((wsX1_halfHoursOn_r1 ++ wsX1_halfHoursOn_r2) ++ wsX10)
def wsX1_pairs_r1 : List Cond := [Cond.fieldLink RX1 61 "CurfewDeskModel" "people" "I", Cond.fieldLink RX1 51 "CurfewDeskModel" "quarters" "I", Cond.methodLink RX1 135 yX1_missing, Cond.instanceMethod yX1_missing, Cond.selects RX1 yX1_missing yX1_missing, Cond.initialized RX1, Cond.code yX1_missing cX1_missing 5 (some .int), Cond.fieldLink RX1 44 "CurfewDeskModel" "wanted" "[I", Cond.fieldLink RX1 38 "CurfewDeskModel" "stamps" "[I", Cond.fieldLink RX1 58 "CurfewDeskModel" "orders" "I", Cond.fieldLink RX1 122 "CurfewDeskModel" "time" "I", Cond.fieldLink RX1 19 "CurfewDeskModel" "colour" "[I", Cond.methodLink RX1 132 Lib.Math.max.name, Cond.static Lib.Math.max.name, Cond.initialized "java/lang/Math", Cond.code Lib.Math.max.name Lib.Math.max.code 2 (some .int), Cond.methodLink RX1 84 yX1_barsAt, Cond.instanceMethod yX1_barsAt, Cond.selects RX1 yX1_barsAt yX1_barsAt, Cond.code yX1_barsAt cX1_barsAt 5 (some .boolean), Cond.fieldLink RX1 9 "CurfewDeskModel" "quarter" "[I", Cond.fieldLink RX1 22 "CurfewDeskModel" "exempt" "[I", Cond.fieldLink RX1 29 "CurfewDeskModel" "trade" "[I", Cond.methodLink RX1 81 yX1_onAt]
def wsX1_pairs_r2 : List Cond := [Cond.instanceMethod yX1_onAt, Cond.selects RX1 yX1_onAt yX1_onAt, Cond.code yX1_onAt cX1_onAt 3 (some .boolean), Cond.fieldLink RX1 25 "CurfewDeskModel" "force" "[Z", Cond.methodLink RX1 77 yX1_isAt, Cond.instanceMethod yX1_isAt, Cond.selects RX1 yX1_isAt yX1_isAt, Cond.code yX1_isAt cX1_isAt 5 (some .boolean), Cond.fieldLink RX1 13 "CurfewDeskModel" "ahead" "[I", Cond.fieldLink RX1 16 "CurfewDeskModel" "behind" "[I", Cond.methodLink RX1 71 yX1_dusk, Cond.instanceMethod yX1_dusk, Cond.selects RX1 yX1_dusk yX1_dusk, Cond.code yX1_dusk cX1_dusk 2 (some .int), Cond.fieldLink RX1 68 "CurfewDeskModel" "shift" "I", Cond.methodLink RX1 64 yX1_tide, Cond.static yX1_tide, Cond.code yX1_tide cX1_tide 2 (some .int), Cond.methodLink RX1 74 yX1_dawn, Cond.static yX1_dawn, Cond.code yX1_dawn cX1_dawn 1 (some .int)]
def wsX1_pairs : List Cond := .code yX1_pairs cX1_pairs 4 (some .int) :: ((wsX1_pairs_r1 ++ wsX1_pairs_r2) ++ wsX10)
def wsX1_bestLift_r1 : List Cond := [Cond.fieldLink RX1 47 "CurfewDeskModel" "thrown" "I", Cond.fieldLink RX1 58 "CurfewDeskModel" "orders" "I", Cond.fieldLink RX1 25 "CurfewDeskModel" "force" "[Z", Cond.methodLink RX1 145 yX1_pairs, Cond.instanceMethod yX1_pairs, Cond.selects RX1 yX1_pairs yX1_pairs, Cond.initialized RX1, Cond.code yX1_pairs cX1_pairs 4 (some .int), Cond.fieldLink RX1 61 "CurfewDeskModel" "people" "I", Cond.fieldLink RX1 51 "CurfewDeskModel" "quarters" "I", Cond.methodLink RX1 135 yX1_missing, Cond.instanceMethod yX1_missing, Cond.selects RX1 yX1_missing yX1_missing, Cond.code yX1_missing cX1_missing 5 (some .int), Cond.fieldLink RX1 44 "CurfewDeskModel" "wanted" "[I", Cond.fieldLink RX1 38 "CurfewDeskModel" "stamps" "[I", Cond.fieldLink RX1 122 "CurfewDeskModel" "time" "I", Cond.fieldLink RX1 19 "CurfewDeskModel" "colour" "[I", Cond.methodLink RX1 132 Lib.Math.max.name, Cond.static Lib.Math.max.name, Cond.initialized "java/lang/Math", Cond.code Lib.Math.max.name Lib.Math.max.code 2 (some .int), Cond.methodLink RX1 84 yX1_barsAt, Cond.instanceMethod yX1_barsAt]
def wsX1_bestLift_r2 : List Cond := [Cond.selects RX1 yX1_barsAt yX1_barsAt, Cond.code yX1_barsAt cX1_barsAt 5 (some .boolean), Cond.fieldLink RX1 9 "CurfewDeskModel" "quarter" "[I", Cond.fieldLink RX1 22 "CurfewDeskModel" "exempt" "[I", Cond.fieldLink RX1 29 "CurfewDeskModel" "trade" "[I", Cond.methodLink RX1 81 yX1_onAt, Cond.instanceMethod yX1_onAt, Cond.selects RX1 yX1_onAt yX1_onAt, Cond.code yX1_onAt cX1_onAt 3 (some .boolean), Cond.methodLink RX1 77 yX1_isAt, Cond.instanceMethod yX1_isAt, Cond.selects RX1 yX1_isAt yX1_isAt, Cond.code yX1_isAt cX1_isAt 5 (some .boolean), Cond.fieldLink RX1 13 "CurfewDeskModel" "ahead" "[I", Cond.fieldLink RX1 16 "CurfewDeskModel" "behind" "[I", Cond.methodLink RX1 71 yX1_dusk, Cond.instanceMethod yX1_dusk, Cond.selects RX1 yX1_dusk yX1_dusk, Cond.code yX1_dusk cX1_dusk 2 (some .int), Cond.fieldLink RX1 68 "CurfewDeskModel" "shift" "I", Cond.methodLink RX1 64 yX1_tide, Cond.static yX1_tide, Cond.code yX1_tide cX1_tide 2 (some .int), Cond.methodLink RX1 74 yX1_dawn]
def wsX1_bestLift_r3 : List Cond := [Cond.static yX1_dawn, Cond.code yX1_dawn cX1_dawn 1 (some .int)]
def wsX1_bestLift : List Cond := .code yX1_bestLift cX1_bestLift 5 (some .int) :: ((wsX1_bestLift_r1 ++ (wsX1_bestLift_r2 ++ wsX1_bestLift_r3)) ++ wsX10)
def wsX1_meanDebt : List Cond := .code yX1_meanDebt cX1_meanDebt 1 (some .double) :: ([.fieldLink RX1 47 "CurfewDeskModel" "thrown" "I", .fieldLink RX1 61 "CurfewDeskModel" "people" "I", .methodLink RX1 142 yX1_all, .instanceMethod yX1_all, .selects RX1 yX1_all yX1_all, .initialized RX1, .code yX1_all cX1_all 3 (some .int), .fieldLink RX1 35 "CurfewDeskModel" "debt" "[I"] ++ wsX10)
def wsX1_digest_r1 : List Cond := [Cond.fieldLink RX1 47 "CurfewDeskModel" "thrown" "I", Cond.fieldLink RX1 122 "CurfewDeskModel" "time" "I", Cond.arrayClass .int, Cond.fieldLink RX1 51 "CurfewDeskModel" "quarters" "I", Cond.fieldLink RX1 58 "CurfewDeskModel" "orders" "I", Cond.fieldLink RX1 61 "CurfewDeskModel" "people" "I", Cond.fieldLink RX1 68 "CurfewDeskModel" "shift" "I", Cond.constantLong RX1 148 (1879), Cond.constantLong RX1 150 (31), Cond.fieldLink RX1 41 "CurfewDeskModel" "used" "[I", Cond.fieldLink RX1 9 "CurfewDeskModel" "quarter" "[I", Cond.fieldLink RX1 19 "CurfewDeskModel" "colour" "[I", Cond.fieldLink RX1 25 "CurfewDeskModel" "force" "[Z", Cond.fieldLink RX1 22 "CurfewDeskModel" "exempt" "[I", Cond.fieldLink RX1 29 "CurfewDeskModel" "trade" "[I", Cond.fieldLink RX1 35 "CurfewDeskModel" "debt" "[I", Cond.fieldLink RX1 32 "CurfewDeskModel" "fined" "[I", Cond.fieldLink RX1 38 "CurfewDeskModel" "stamps" "[I", Cond.methodLink RX1 71 yX1_dusk, Cond.instanceMethod yX1_dusk, Cond.selects RX1 yX1_dusk yX1_dusk, Cond.initialized RX1, Cond.code yX1_dusk cX1_dusk 2 (some .int), Cond.methodLink RX1 64 yX1_tide]
def wsX1_digest_r2 : List Cond := [Cond.static yX1_tide, Cond.code yX1_tide cX1_tide 2 (some .int), Cond.methodLink RX1 74 yX1_dawn, Cond.static yX1_dawn, Cond.code yX1_dawn cX1_dawn 1 (some .int), Cond.methodLink RX1 138 yX1_manyOn, Cond.instanceMethod yX1_manyOn, Cond.selects RX1 yX1_manyOn yX1_manyOn, Cond.code yX1_manyOn cX1_manyOn 3 (some .int), Cond.methodLink RX1 81 yX1_onAt, Cond.instanceMethod yX1_onAt, Cond.selects RX1 yX1_onAt yX1_onAt, Cond.code yX1_onAt cX1_onAt 3 (some .boolean), Cond.methodLink RX1 77 yX1_isAt, Cond.instanceMethod yX1_isAt, Cond.selects RX1 yX1_isAt yX1_isAt, Cond.code yX1_isAt cX1_isAt 5 (some .boolean), Cond.fieldLink RX1 13 "CurfewDeskModel" "ahead" "[I", Cond.fieldLink RX1 16 "CurfewDeskModel" "behind" "[I", Cond.methodLink RX1 125 yX1_barred, Cond.instanceMethod yX1_barred, Cond.selects RX1 yX1_barred yX1_barred, Cond.code yX1_barred cX1_barred 4 (some .int), Cond.methodLink RX1 84 yX1_barsAt]
def wsX1_digest_r3 : List Cond := [Cond.instanceMethod yX1_barsAt, Cond.selects RX1 yX1_barsAt yX1_barsAt, Cond.code yX1_barsAt cX1_barsAt 5 (some .boolean), Cond.methodLink RX1 128 yX1_against, Cond.instanceMethod yX1_against, Cond.selects RX1 yX1_against yX1_against, Cond.code yX1_against cX1_against 6 (some .int)]
def wsX1_digest : List Cond := .code yX1_digest cX1_digest 9 (some .long) :: ((wsX1_digest_r1 ++ (wsX1_digest_r2 ++ wsX1_digest_r3)) ++ wsX10)
def wsJ9_max_7cf53 : List Cond := .code yJ9_max_7cf53 cJ9_max_7cf53 2 (some .int) :: ([])
def wsJ9_min_7cf53 : List Cond := .code yJ9_min_7cf53 cJ9_min_7cf53 2 (some .int) :: ([])
def wsL_addQuarter : List Cond := .codeWith yL_addQuarter cL_addQuarter 3 (some .int) [(0, 8, 11, 13)] :: ([.classLink RL 13 "java/lang/IllegalStateException", .methodLink RL 7 yX0_addQuarter, .instanceMethod yX0_addQuarter, .selects RX0 yX0_addQuarter yX0_addQuarter, .initialized RX0, .code yX0_addQuarter cX0_addQuarter 2 (some .int), .classLink RX0 48 "java/lang/IllegalStateException", .initialized "java/lang/IllegalStateException", .fieldLink RX0 44 "CurfewDesk" "quarterCount" "I"] ++ wsX00 ++ (vx_atS RX0 52 "java/lang/IllegalStateException" ["java/lang/RuntimeException", "java/lang/Exception"]).filter goodWord)
def wsL_addPerson : List Cond := .codeWith yL_addPerson cL_addPerson 4 (some .int) [(0, 9, 12, 19), (0, 9, 15, 13)] :: ([.classLink RL 19 "java/lang/IndexOutOfBoundsException", .classLink RL 13 "java/lang/IllegalStateException", .methodLink RL 15 yX0_addPerson, .instanceMethod yX0_addPerson, .selects RX0 yX0_addPerson yX0_addPerson, .initialized RX0, .code yX0_addPerson cX0_addPerson 3 (some .int), .classLink RX0 48 "java/lang/IllegalStateException", .initialized "java/lang/IllegalStateException", .fieldLink RX0 59 "CurfewDesk" "personCount" "I", .fieldLink RX0 29 "CurfewDesk" "personTrade" "[I", .methodLink RX0 55 yX0_requireTrade, .static yX0_requireTrade, .code yX0_requireTrade cX0_requireTrade 1 none, .classLink RX0 190 "java/lang/IndexOutOfBoundsException", .initialized "java/lang/IndexOutOfBoundsException"] ++ wsX00 ++ (vx_atS RX0 52 "java/lang/IllegalStateException" ["java/lang/RuntimeException", "java/lang/Exception"]).filter goodWord ++ (vx_atS RX0 194 "java/lang/IndexOutOfBoundsException" ["java/lang/RuntimeException", "java/lang/Exception"]).filter goodWord)
def wsL_addOrder_r1 : List Cond := [Cond.classLink RL 19 "java/lang/IndexOutOfBoundsException", Cond.classLink RL 25 "java/lang/IllegalArgumentException", Cond.classLink RL 13 "java/lang/IllegalStateException", Cond.methodLink RL 21 yX0_addOrder, Cond.instanceMethod yX0_addOrder, Cond.selects RX0 yX0_addOrder yX0_addOrder, Cond.initialized RX0, Cond.code yX0_addOrder cX0_addOrder 6 (some .int), Cond.classLink RX0 48 "java/lang/IllegalStateException", Cond.initialized "java/lang/IllegalStateException", Cond.fieldLink RX0 74 "CurfewDesk" "orderCount" "I", Cond.fieldLink RX0 9 "CurfewDesk" "orderQuarter" "[I", Cond.fieldLink RX0 13 "CurfewDesk" "orderAhead" "[I", Cond.fieldLink RX0 16 "CurfewDesk" "orderBehind" "[I", Cond.fieldLink RX0 19 "CurfewDesk" "orderColour" "[I", Cond.fieldLink RX0 22 "CurfewDesk" "orderInForce" "[Z", Cond.methodLink RX0 64 yX0_requireQuarter, Cond.instanceMethod yX0_requireQuarter, Cond.selects RX0 yX0_requireQuarter yX0_requireQuarter, Cond.code yX0_requireQuarter cX0_requireQuarter 2 none, Cond.classLink RX0 190 "java/lang/IndexOutOfBoundsException", Cond.initialized "java/lang/IndexOutOfBoundsException", Cond.fieldLink RX0 44 "CurfewDesk" "quarterCount" "I", Cond.methodLink RX0 67 yX0_requireColour]
def wsL_addOrder_r2 : List Cond := [Cond.static yX0_requireColour, Cond.code yX0_requireColour cX0_requireColour 1 none, Cond.methodLink RX0 70 yX0_requireWithin, Cond.static yX0_requireWithin, Cond.code yX0_requireWithin cX0_requireWithin 3 none, Cond.classLink RX0 203 "java/lang/IllegalArgumentException", Cond.initialized "java/lang/IllegalArgumentException"]
def wsL_addOrder : List Cond := .codeWith yL_addOrder cL_addOrder 7 (some .int) [(0, 14, 17, 19), (0, 14, 21, 25), (0, 14, 25, 13)] :: ((wsL_addOrder_r1 ++ wsL_addOrder_r2) ++ wsX00 ++ (vx_atS RX0 52 "java/lang/IllegalStateException" ["java/lang/RuntimeException", "java/lang/Exception"]).filter goodWord ++ (vx_atS RX0 194 "java/lang/IndexOutOfBoundsException" ["java/lang/RuntimeException", "java/lang/Exception"]).filter goodWord ++ (vx_atS RX0 207 "java/lang/IllegalArgumentException" ["java/lang/RuntimeException", "java/lang/Exception"]).filter goodWord)
def wsL_turnExempt : List Cond := .codeWith yL_turnExempt cL_turnExempt 5 (some .int) [(0, 17, 20, 19)] :: ([.classLink RL 19 "java/lang/IndexOutOfBoundsException", .methodLink RL 27 yX0_turnExempt, .instanceMethod yX0_turnExempt, .selects RX0 yX0_turnExempt yX0_turnExempt, .initialized RX0, .code yX0_turnExempt cX0_turnExempt 3 (some .boolean), .fieldLink RX0 26 "CurfewDesk" "orderExempt" "[I", .methodLink RX0 79 yX0_requireOrder, .instanceMethod yX0_requireOrder, .selects RX0 yX0_requireOrder yX0_requireOrder, .code yX0_requireOrder cX0_requireOrder 2 none, .classLink RX0 190 "java/lang/IndexOutOfBoundsException", .initialized "java/lang/IndexOutOfBoundsException", .fieldLink RX0 74 "CurfewDesk" "orderCount" "I", .methodLink RX0 55 yX0_requireTrade, .static yX0_requireTrade, .code yX0_requireTrade cX0_requireTrade 1 none, .methodLink RX0 82 yX0_exempts, .instanceMethod yX0_exempts, .selects RX0 yX0_exempts yX0_exempts, .code yX0_exempts cX0_exempts 3 (some .boolean)] ++ wsX00 ++ (vx_atS RX0 194 "java/lang/IndexOutOfBoundsException" ["java/lang/RuntimeException", "java/lang/Exception"]).filter goodWord)
def wsL_turnOrder : List Cond := .codeWith yL_turnOrder cL_turnOrder 4 (some .int) [(0, 16, 19, 19)] :: ([.classLink RL 19 "java/lang/IndexOutOfBoundsException", .methodLink RL 31 yX0_turnOrder, .instanceMethod yX0_turnOrder, .selects RX0 yX0_turnOrder yX0_turnOrder, .initialized RX0, .code yX0_turnOrder cX0_turnOrder 2 (some .boolean), .fieldLink RX0 22 "CurfewDesk" "orderInForce" "[Z", .methodLink RX0 79 yX0_requireOrder, .instanceMethod yX0_requireOrder, .selects RX0 yX0_requireOrder yX0_requireOrder, .code yX0_requireOrder cX0_requireOrder 2 none, .classLink RX0 190 "java/lang/IndexOutOfBoundsException", .initialized "java/lang/IndexOutOfBoundsException", .fieldLink RX0 74 "CurfewDesk" "orderCount" "I"] ++ wsX00 ++ (vx_atS RX0 194 "java/lang/IndexOutOfBoundsException" ["java/lang/RuntimeException", "java/lang/Exception"]).filter goodWord)
def wsL_setShift : List Cond := .codeWith yL_setShift cL_setShift 4 (some .int) [(0, 9, 12, 25)] :: ([.classLink RL 25 "java/lang/IllegalArgumentException", .methodLink RL 35 yX0_setShift, .instanceMethod yX0_setShift, .selects RX0 yX0_setShift yX0_setShift, .initialized RX0, .code yX0_setShift cX0_setShift 3 (some .int), .fieldLink RX0 86 "CurfewDesk" "duskShift" "I", .methodLink RX0 70 yX0_requireWithin, .static yX0_requireWithin, .code yX0_requireWithin cX0_requireWithin 3 none, .classLink RX0 203 "java/lang/IllegalArgumentException", .initialized "java/lang/IllegalArgumentException"] ++ wsX00 ++ (vx_atS RX0 207 "java/lang/IllegalArgumentException" ["java/lang/RuntimeException", "java/lang/Exception"]).filter goodWord)
def wsL_givePass_r1 : List Cond := [Cond.classLink RL 19 "java/lang/IndexOutOfBoundsException", Cond.classLink RL 25 "java/lang/IllegalArgumentException", Cond.methodLink RL 38 yX0_givePass, Cond.instanceMethod yX0_givePass, Cond.selects RX0 yX0_givePass yX0_givePass, Cond.initialized RX0, Cond.code yX0_givePass cX0_givePass 5 (some .int), Cond.fieldLink RX0 38 "CurfewDesk" "personStamps" "[I", Cond.methodLink RX0 96 Lib.Math.min.name, Cond.static Lib.Math.min.name, Cond.initialized "java/lang/Math", Cond.code Lib.Math.min.name Lib.Math.min.code 2 (some .int), Cond.methodLink RX0 89 yX0_requirePerson, Cond.instanceMethod yX0_requirePerson, Cond.selects RX0 yX0_requirePerson yX0_requirePerson, Cond.code yX0_requirePerson cX0_requirePerson 2 none, Cond.classLink RX0 190 "java/lang/IndexOutOfBoundsException", Cond.initialized "java/lang/IndexOutOfBoundsException", Cond.fieldLink RX0 59 "CurfewDesk" "personCount" "I", Cond.methodLink RX0 67 yX0_requireColour, Cond.static yX0_requireColour, Cond.code yX0_requireColour cX0_requireColour 1 none, Cond.methodLink RX0 70 yX0_requireWithin, Cond.static yX0_requireWithin]
def wsL_givePass_r2 : List Cond := [Cond.code yX0_requireWithin cX0_requireWithin 3 none, Cond.classLink RX0 203 "java/lang/IllegalArgumentException", Cond.initialized "java/lang/IllegalArgumentException", Cond.methodLink RX0 92 yX0_stampPlace, Cond.static yX0_stampPlace, Cond.code yX0_stampPlace cX0_stampPlace 2 (some .int)]
def wsL_givePass : List Cond := .codeWith yL_givePass cL_givePass 6 (some .int) [(0, 12, 15, 19), (0, 12, 19, 25)] :: ((wsL_givePass_r1 ++ wsL_givePass_r2) ++ wsX00 ++ (vx_atS RX0 194 "java/lang/IndexOutOfBoundsException" ["java/lang/RuntimeException", "java/lang/Exception"]).filter goodWord ++ (vx_atS RX0 207 "java/lang/IllegalArgumentException" ["java/lang/RuntimeException", "java/lang/Exception"]).filter goodWord)
def wsL_takePass : List Cond := .codeWith yL_takePass cL_takePass 5 (some .int) [(0, 10, 13, 19)] :: ([.classLink RL 19 "java/lang/IndexOutOfBoundsException", .methodLink RL 42 yX0_takePass, .instanceMethod yX0_takePass, .selects RX0 yX0_takePass yX0_takePass, .initialized RX0, .code yX0_takePass cX0_takePass 5 (some .int), .fieldLink RX0 38 "CurfewDesk" "personStamps" "[I", .methodLink RX0 89 yX0_requirePerson, .instanceMethod yX0_requirePerson, .selects RX0 yX0_requirePerson yX0_requirePerson, .code yX0_requirePerson cX0_requirePerson 2 none, .classLink RX0 190 "java/lang/IndexOutOfBoundsException", .initialized "java/lang/IndexOutOfBoundsException", .fieldLink RX0 59 "CurfewDesk" "personCount" "I", .methodLink RX0 67 yX0_requireColour, .static yX0_requireColour, .code yX0_requireColour cX0_requireColour 1 none, .methodLink RX0 92 yX0_stampPlace, .static yX0_stampPlace, .code yX0_stampPlace cX0_stampPlace 2 (some .int)] ++ wsX00 ++ (vx_atS RX0 194 "java/lang/IndexOutOfBoundsException" ["java/lang/RuntimeException", "java/lang/Exception"]).filter goodWord)
def wsL_goOut_r1 : List Cond := [Cond.classLink RL 19 "java/lang/IndexOutOfBoundsException", Cond.methodLink RL 46 yX0_goOut, Cond.instanceMethod yX0_goOut, Cond.selects RX0 yX0_goOut yX0_goOut, Cond.initialized RX0, Cond.code yX0_goOut cX0_goOut 5 (some .int), Cond.fieldLink RX0 74 "CurfewDesk" "orderCount" "I", Cond.fieldLink RX0 101 "CurfewDesk" "now" "I", Cond.fieldLink RX0 19 "CurfewDesk" "orderColour" "[I", Cond.methodLink RX0 89 yX0_requirePerson, Cond.instanceMethod yX0_requirePerson, Cond.selects RX0 yX0_requirePerson yX0_requirePerson, Cond.code yX0_requirePerson cX0_requirePerson 2 none, Cond.classLink RX0 190 "java/lang/IndexOutOfBoundsException", Cond.initialized "java/lang/IndexOutOfBoundsException", Cond.fieldLink RX0 59 "CurfewDesk" "personCount" "I", Cond.methodLink RX0 64 yX0_requireQuarter, Cond.instanceMethod yX0_requireQuarter, Cond.selects RX0 yX0_requireQuarter yX0_requireQuarter, Cond.code yX0_requireQuarter cX0_requireQuarter 2 none, Cond.fieldLink RX0 44 "CurfewDesk" "quarterCount" "I", Cond.methodLink RX0 104 yX0_bars, Cond.instanceMethod yX0_bars, Cond.selects RX0 yX0_bars yX0_bars]
def wsL_goOut_r2 : List Cond := [Cond.code yX0_bars cX0_bars 5 (some .boolean), Cond.fieldLink RX0 9 "CurfewDesk" "orderQuarter" "[I", Cond.fieldLink RX0 29 "CurfewDesk" "personTrade" "[I", Cond.fieldLink RX0 22 "CurfewDesk" "orderInForce" "[Z", Cond.methodLink RX0 82 yX0_exempts, Cond.instanceMethod yX0_exempts, Cond.selects RX0 yX0_exempts yX0_exempts, Cond.code yX0_exempts cX0_exempts 3 (some .boolean), Cond.fieldLink RX0 26 "CurfewDesk" "orderExempt" "[I", Cond.methodLink RX0 139 yX0_isInHours, Cond.instanceMethod yX0_isInHours, Cond.selects RX0 yX0_isInHours yX0_isInHours, Cond.code yX0_isInHours cX0_isInHours 5 (some .boolean), Cond.fieldLink RX0 13 "CurfewDesk" "orderAhead" "[I", Cond.fieldLink RX0 16 "CurfewDesk" "orderBehind" "[I", Cond.methodLink RX0 122 yX0_duskOf, Cond.instanceMethod yX0_duskOf, Cond.selects RX0 yX0_duskOf yX0_duskOf, Cond.code yX0_duskOf cX0_duskOf 2 (some .int), Cond.fieldLink RX0 86 "CurfewDesk" "duskShift" "I", Cond.methodLink RX0 184 yX0_tideOf, Cond.static yX0_tideOf, Cond.code yX0_tideOf cX0_tideOf 2 (some .int), Cond.methodLink RX0 125 yX0_dawnOf]
def wsL_goOut_r3 : List Cond := [Cond.static yX0_dawnOf, Cond.code yX0_dawnOf cX0_dawnOf 1 (some .int), Cond.methodLink RX0 108 yX0_useStamp, Cond.instanceMethod yX0_useStamp, Cond.selects RX0 yX0_useStamp yX0_useStamp, Cond.code yX0_useStamp cX0_useStamp 4 (some .boolean), Cond.fieldLink RX0 38 "CurfewDesk" "personStamps" "[I", Cond.fieldLink RX0 41 "CurfewDesk" "usedStamps" "[I", Cond.methodLink RX0 92 yX0_stampPlace, Cond.static yX0_stampPlace, Cond.code yX0_stampPlace cX0_stampPlace 2 (some .int), Cond.methodLink RX0 111 yX0_fineOnce, Cond.instanceMethod yX0_fineOnce, Cond.selects RX0 yX0_fineOnce yX0_fineOnce, Cond.code yX0_fineOnce cX0_fineOnce 3 (some .int), Cond.fieldLink RX0 32 "CurfewDesk" "personFined" "[I", Cond.fieldLink RX0 35 "CurfewDesk" "personOwes" "[I"]
def wsL_goOut : List Cond := .codeWith yL_goOut cL_goOut 5 (some .int) [(0, 10, 13, 19)] :: ((wsL_goOut_r1 ++ (wsL_goOut_r2 ++ wsL_goOut_r3)) ++ wsX00 ++ (vx_atS RX0 194 "java/lang/IndexOutOfBoundsException" ["java/lang/RuntimeException", "java/lang/Exception"]).filter goodWord)
def wsL_pass_r1 : List Cond := [Cond.classLink RL 25 "java/lang/IllegalArgumentException", Cond.methodLink RL 49 yX0_pass, Cond.instanceMethod yX0_pass, Cond.selects RX0 yX0_pass yX0_pass, Cond.initialized RX0, Cond.code yX0_pass cX0_pass 4 (some .int), Cond.fieldLink RX0 74 "CurfewDesk" "orderCount" "I", Cond.fieldLink RX0 101 "CurfewDesk" "now" "I", Cond.methodLink RX0 70 yX0_requireWithin, Cond.static yX0_requireWithin, Cond.code yX0_requireWithin cX0_requireWithin 3 none, Cond.classLink RX0 203 "java/lang/IllegalArgumentException", Cond.initialized "java/lang/IllegalArgumentException", Cond.methodLink RX0 115 yX0_timesBegun, Cond.instanceMethod yX0_timesBegun, Cond.selects RX0 yX0_timesBegun yX0_timesBegun, Cond.code yX0_timesBegun cX0_timesBegun 7 (some .int), Cond.methodLink RX0 128 yX0_isOnAt, Cond.instanceMethod yX0_isOnAt, Cond.selects RX0 yX0_isOnAt yX0_isOnAt, Cond.code yX0_isOnAt cX0_isOnAt 3 (some .boolean), Cond.fieldLink RX0 22 "CurfewDesk" "orderInForce" "[Z", Cond.methodLink RX0 139 yX0_isInHours, Cond.instanceMethod yX0_isInHours]
def wsL_pass_r2 : List Cond := [Cond.selects RX0 yX0_isInHours yX0_isInHours, Cond.code yX0_isInHours cX0_isInHours 5 (some .boolean), Cond.fieldLink RX0 13 "CurfewDesk" "orderAhead" "[I", Cond.fieldLink RX0 16 "CurfewDesk" "orderBehind" "[I", Cond.methodLink RX0 122 yX0_duskOf, Cond.instanceMethod yX0_duskOf, Cond.selects RX0 yX0_duskOf yX0_duskOf, Cond.code yX0_duskOf cX0_duskOf 2 (some .int), Cond.fieldLink RX0 86 "CurfewDesk" "duskShift" "I", Cond.methodLink RX0 184 yX0_tideOf, Cond.static yX0_tideOf, Cond.code yX0_tideOf cX0_tideOf 2 (some .int), Cond.methodLink RX0 125 yX0_dawnOf, Cond.static yX0_dawnOf, Cond.code yX0_dawnOf cX0_dawnOf 1 (some .int)]
def wsL_pass : List Cond := .codeWith yL_pass cL_pass 4 (some .int) [(0, 9, 12, 25)] :: ((wsL_pass_r1 ++ wsL_pass_r2) ++ wsX00 ++ (vx_atS RX0 207 "java/lang/IllegalArgumentException" ["java/lang/RuntimeException", "java/lang/Exception"]).filter goodWord)
def wsL_duskIn : List Cond := .codeWith yL_duskIn cL_duskIn 4 (some .int) [(0, 9, 12, 25)] :: ([.classLink RL 25 "java/lang/IllegalArgumentException", .methodLink RL 52 yX0_duskIn, .instanceMethod yX0_duskIn, .selects RX0 yX0_duskIn yX0_duskIn, .initialized RX0, .code yX0_duskIn cX0_duskIn 2 (some .int), .methodLink RX0 70 yX0_requireWithin, .static yX0_requireWithin, .code yX0_requireWithin cX0_requireWithin 3 none, .classLink RX0 203 "java/lang/IllegalArgumentException", .initialized "java/lang/IllegalArgumentException", .methodLink RX0 118 yX0_day, .instanceMethod yX0_day, .selects RX0 yX0_day yX0_day, .code yX0_day cX0_day 1 (some .int), .fieldLink RX0 101 "CurfewDesk" "now" "I", .methodLink RX0 122 yX0_duskOf, .instanceMethod yX0_duskOf, .selects RX0 yX0_duskOf yX0_duskOf, .code yX0_duskOf cX0_duskOf 2 (some .int), .fieldLink RX0 86 "CurfewDesk" "duskShift" "I", .methodLink RX0 184 yX0_tideOf, .static yX0_tideOf, .code yX0_tideOf cX0_tideOf 2 (some .int)] ++ wsX00 ++ (vx_atS RX0 207 "java/lang/IllegalArgumentException" ["java/lang/RuntimeException", "java/lang/Exception"]).filter goodWord)
def wsL_dawnIn : List Cond := .codeWith yL_dawnIn cL_dawnIn 4 (some .int) [(0, 9, 12, 25)] :: ([.classLink RL 25 "java/lang/IllegalArgumentException", .methodLink RL 55 yX0_dawnIn, .instanceMethod yX0_dawnIn, .selects RX0 yX0_dawnIn yX0_dawnIn, .initialized RX0, .code yX0_dawnIn cX0_dawnIn 2 (some .int), .methodLink RX0 70 yX0_requireWithin, .static yX0_requireWithin, .code yX0_requireWithin cX0_requireWithin 3 none, .classLink RX0 203 "java/lang/IllegalArgumentException", .initialized "java/lang/IllegalArgumentException", .methodLink RX0 118 yX0_day, .instanceMethod yX0_day, .selects RX0 yX0_day yX0_day, .code yX0_day cX0_day 1 (some .int), .fieldLink RX0 101 "CurfewDesk" "now" "I", .methodLink RX0 125 yX0_dawnOf, .static yX0_dawnOf, .code yX0_dawnOf cX0_dawnOf 1 (some .int), .methodLink RX0 184 yX0_tideOf, .static yX0_tideOf, .code yX0_tideOf cX0_tideOf 2 (some .int)] ++ wsX00 ++ (vx_atS RX0 207 "java/lang/IllegalArgumentException" ["java/lang/RuntimeException", "java/lang/Exception"]).filter goodWord)
def wsL_quarterOf : List Cond := .codeWith yL_quarterOf cL_quarterOf 4 (some .int) [(0, 9, 12, 19)] :: ([.classLink RL 19 "java/lang/IndexOutOfBoundsException", .methodLink RL 58 yX0_quarterOf, .instanceMethod yX0_quarterOf, .selects RX0 yX0_quarterOf yX0_quarterOf, .initialized RX0, .code yX0_quarterOf cX0_quarterOf 2 (some .int), .fieldLink RX0 9 "CurfewDesk" "orderQuarter" "[I", .methodLink RX0 79 yX0_requireOrder, .instanceMethod yX0_requireOrder, .selects RX0 yX0_requireOrder yX0_requireOrder, .code yX0_requireOrder cX0_requireOrder 2 none, .classLink RX0 190 "java/lang/IndexOutOfBoundsException", .initialized "java/lang/IndexOutOfBoundsException", .fieldLink RX0 74 "CurfewDesk" "orderCount" "I"] ++ wsX00 ++ (vx_atS RX0 194 "java/lang/IndexOutOfBoundsException" ["java/lang/RuntimeException", "java/lang/Exception"]).filter goodWord)
def wsL_colourOf : List Cond := .codeWith yL_colourOf cL_colourOf 4 (some .int) [(0, 9, 12, 19)] :: ([.classLink RL 19 "java/lang/IndexOutOfBoundsException", .methodLink RL 61 yX0_colourOf, .instanceMethod yX0_colourOf, .selects RX0 yX0_colourOf yX0_colourOf, .initialized RX0, .code yX0_colourOf cX0_colourOf 2 (some .int), .fieldLink RX0 19 "CurfewDesk" "orderColour" "[I", .methodLink RX0 79 yX0_requireOrder, .instanceMethod yX0_requireOrder, .selects RX0 yX0_requireOrder yX0_requireOrder, .code yX0_requireOrder cX0_requireOrder 2 none, .classLink RX0 190 "java/lang/IndexOutOfBoundsException", .initialized "java/lang/IndexOutOfBoundsException", .fieldLink RX0 74 "CurfewDesk" "orderCount" "I"] ++ wsX00 ++ (vx_atS RX0 194 "java/lang/IndexOutOfBoundsException" ["java/lang/RuntimeException", "java/lang/Exception"]).filter goodWord)
def wsL_isInForce : List Cond := .codeWith yL_isInForce cL_isInForce 4 (some .int) [(0, 16, 19, 19)] :: ([.classLink RL 19 "java/lang/IndexOutOfBoundsException", .methodLink RL 64 yX0_isInForce, .instanceMethod yX0_isInForce, .selects RX0 yX0_isInForce yX0_isInForce, .initialized RX0, .code yX0_isInForce cX0_isInForce 2 (some .boolean), .fieldLink RX0 22 "CurfewDesk" "orderInForce" "[Z", .methodLink RX0 79 yX0_requireOrder, .instanceMethod yX0_requireOrder, .selects RX0 yX0_requireOrder yX0_requireOrder, .code yX0_requireOrder cX0_requireOrder 2 none, .classLink RX0 190 "java/lang/IndexOutOfBoundsException", .initialized "java/lang/IndexOutOfBoundsException", .fieldLink RX0 74 "CurfewDesk" "orderCount" "I"] ++ wsX00 ++ (vx_atS RX0 194 "java/lang/IndexOutOfBoundsException" ["java/lang/RuntimeException", "java/lang/Exception"]).filter goodWord)
def wsL_isOn_r1 : List Cond := [Cond.classLink RL 19 "java/lang/IndexOutOfBoundsException", Cond.methodLink RL 67 yX0_isOn, Cond.instanceMethod yX0_isOn, Cond.selects RX0 yX0_isOn yX0_isOn, Cond.initialized RX0, Cond.code yX0_isOn cX0_isOn 2 (some .boolean), Cond.fieldLink RX0 101 "CurfewDesk" "now" "I", Cond.methodLink RX0 79 yX0_requireOrder, Cond.instanceMethod yX0_requireOrder, Cond.selects RX0 yX0_requireOrder yX0_requireOrder, Cond.code yX0_requireOrder cX0_requireOrder 2 none, Cond.classLink RX0 190 "java/lang/IndexOutOfBoundsException", Cond.initialized "java/lang/IndexOutOfBoundsException", Cond.fieldLink RX0 74 "CurfewDesk" "orderCount" "I", Cond.methodLink RX0 128 yX0_isOnAt, Cond.instanceMethod yX0_isOnAt, Cond.selects RX0 yX0_isOnAt yX0_isOnAt, Cond.code yX0_isOnAt cX0_isOnAt 3 (some .boolean), Cond.fieldLink RX0 22 "CurfewDesk" "orderInForce" "[Z", Cond.methodLink RX0 139 yX0_isInHours, Cond.instanceMethod yX0_isInHours, Cond.selects RX0 yX0_isInHours yX0_isInHours, Cond.code yX0_isInHours cX0_isInHours 5 (some .boolean), Cond.fieldLink RX0 13 "CurfewDesk" "orderAhead" "[I"]
def wsL_isOn_r2 : List Cond := [Cond.fieldLink RX0 16 "CurfewDesk" "orderBehind" "[I", Cond.methodLink RX0 122 yX0_duskOf, Cond.instanceMethod yX0_duskOf, Cond.selects RX0 yX0_duskOf yX0_duskOf, Cond.code yX0_duskOf cX0_duskOf 2 (some .int), Cond.fieldLink RX0 86 "CurfewDesk" "duskShift" "I", Cond.methodLink RX0 184 yX0_tideOf, Cond.static yX0_tideOf, Cond.code yX0_tideOf cX0_tideOf 2 (some .int), Cond.methodLink RX0 125 yX0_dawnOf, Cond.static yX0_dawnOf, Cond.code yX0_dawnOf cX0_dawnOf 1 (some .int)]
def wsL_isOn : List Cond := .codeWith yL_isOn cL_isOn 4 (some .int) [(0, 16, 19, 19)] :: ((wsL_isOn_r1 ++ wsL_isOn_r2) ++ wsX00 ++ (vx_atS RX0 194 "java/lang/IndexOutOfBoundsException" ["java/lang/RuntimeException", "java/lang/Exception"]).filter goodWord)
def wsL_isExempt : List Cond := .codeWith yL_isExempt cL_isExempt 5 (some .int) [(0, 17, 20, 19)] :: ([.classLink RL 19 "java/lang/IndexOutOfBoundsException", .methodLink RL 70 yX0_isExempt, .instanceMethod yX0_isExempt, .selects RX0 yX0_isExempt yX0_isExempt, .initialized RX0, .code yX0_isExempt cX0_isExempt 3 (some .boolean), .methodLink RX0 79 yX0_requireOrder, .instanceMethod yX0_requireOrder, .selects RX0 yX0_requireOrder yX0_requireOrder, .code yX0_requireOrder cX0_requireOrder 2 none, .classLink RX0 190 "java/lang/IndexOutOfBoundsException", .initialized "java/lang/IndexOutOfBoundsException", .fieldLink RX0 74 "CurfewDesk" "orderCount" "I", .methodLink RX0 55 yX0_requireTrade, .static yX0_requireTrade, .code yX0_requireTrade cX0_requireTrade 1 none, .methodLink RX0 82 yX0_exempts, .instanceMethod yX0_exempts, .selects RX0 yX0_exempts yX0_exempts, .code yX0_exempts cX0_exempts 3 (some .boolean), .fieldLink RX0 26 "CurfewDesk" "orderExempt" "[I"] ++ wsX00 ++ (vx_atS RX0 194 "java/lang/IndexOutOfBoundsException" ["java/lang/RuntimeException", "java/lang/Exception"]).filter goodWord)
def wsL_barredBy_r1 : List Cond := [Cond.classLink RL 19 "java/lang/IndexOutOfBoundsException", Cond.methodLink RL 73 yX0_barredBy, Cond.instanceMethod yX0_barredBy, Cond.selects RX0 yX0_barredBy yX0_barredBy, Cond.initialized RX0, Cond.code yX0_barredBy cX0_barredBy 4 (some .int), Cond.fieldLink RX0 59 "CurfewDesk" "personCount" "I", Cond.fieldLink RX0 9 "CurfewDesk" "orderQuarter" "[I", Cond.fieldLink RX0 101 "CurfewDesk" "now" "I", Cond.methodLink RX0 79 yX0_requireOrder, Cond.instanceMethod yX0_requireOrder, Cond.selects RX0 yX0_requireOrder yX0_requireOrder, Cond.code yX0_requireOrder cX0_requireOrder 2 none, Cond.classLink RX0 190 "java/lang/IndexOutOfBoundsException", Cond.initialized "java/lang/IndexOutOfBoundsException", Cond.fieldLink RX0 74 "CurfewDesk" "orderCount" "I", Cond.methodLink RX0 104 yX0_bars, Cond.instanceMethod yX0_bars, Cond.selects RX0 yX0_bars yX0_bars, Cond.code yX0_bars cX0_bars 5 (some .boolean), Cond.fieldLink RX0 29 "CurfewDesk" "personTrade" "[I", Cond.fieldLink RX0 22 "CurfewDesk" "orderInForce" "[Z", Cond.methodLink RX0 82 yX0_exempts, Cond.instanceMethod yX0_exempts]
def wsL_barredBy_r2 : List Cond := [Cond.selects RX0 yX0_exempts yX0_exempts, Cond.code yX0_exempts cX0_exempts 3 (some .boolean), Cond.fieldLink RX0 26 "CurfewDesk" "orderExempt" "[I", Cond.methodLink RX0 139 yX0_isInHours, Cond.instanceMethod yX0_isInHours, Cond.selects RX0 yX0_isInHours yX0_isInHours, Cond.code yX0_isInHours cX0_isInHours 5 (some .boolean), Cond.fieldLink RX0 13 "CurfewDesk" "orderAhead" "[I", Cond.fieldLink RX0 16 "CurfewDesk" "orderBehind" "[I", Cond.methodLink RX0 122 yX0_duskOf, Cond.instanceMethod yX0_duskOf, Cond.selects RX0 yX0_duskOf yX0_duskOf, Cond.code yX0_duskOf cX0_duskOf 2 (some .int), Cond.fieldLink RX0 86 "CurfewDesk" "duskShift" "I", Cond.methodLink RX0 184 yX0_tideOf, Cond.static yX0_tideOf, Cond.code yX0_tideOf cX0_tideOf 2 (some .int), Cond.methodLink RX0 125 yX0_dawnOf, Cond.static yX0_dawnOf, Cond.code yX0_dawnOf cX0_dawnOf 1 (some .int)]
def wsL_barredBy : List Cond := .codeWith yL_barredBy cL_barredBy 4 (some .int) [(0, 9, 12, 19)] :: ((wsL_barredBy_r1 ++ wsL_barredBy_r2) ++ wsX00 ++ (vx_atS RX0 194 "java/lang/IndexOutOfBoundsException" ["java/lang/RuntimeException", "java/lang/Exception"]).filter goodWord)
def wsL_tradeOf : List Cond := .codeWith yL_tradeOf cL_tradeOf 4 (some .int) [(0, 9, 12, 19)] :: ([.classLink RL 19 "java/lang/IndexOutOfBoundsException", .methodLink RL 76 yX0_tradeOf, .instanceMethod yX0_tradeOf, .selects RX0 yX0_tradeOf yX0_tradeOf, .initialized RX0, .code yX0_tradeOf cX0_tradeOf 2 (some .int), .fieldLink RX0 29 "CurfewDesk" "personTrade" "[I", .methodLink RX0 89 yX0_requirePerson, .instanceMethod yX0_requirePerson, .selects RX0 yX0_requirePerson yX0_requirePerson, .code yX0_requirePerson cX0_requirePerson 2 none, .classLink RX0 190 "java/lang/IndexOutOfBoundsException", .initialized "java/lang/IndexOutOfBoundsException", .fieldLink RX0 59 "CurfewDesk" "personCount" "I"] ++ wsX00 ++ (vx_atS RX0 194 "java/lang/IndexOutOfBoundsException" ["java/lang/RuntimeException", "java/lang/Exception"]).filter goodWord)
def wsL_stampsOf : List Cond := .codeWith yL_stampsOf cL_stampsOf 5 (some .int) [(0, 10, 13, 19)] :: ([.classLink RL 19 "java/lang/IndexOutOfBoundsException", .methodLink RL 79 yX0_stampsOf, .instanceMethod yX0_stampsOf, .selects RX0 yX0_stampsOf yX0_stampsOf, .initialized RX0, .code yX0_stampsOf cX0_stampsOf 3 (some .int), .fieldLink RX0 38 "CurfewDesk" "personStamps" "[I", .methodLink RX0 89 yX0_requirePerson, .instanceMethod yX0_requirePerson, .selects RX0 yX0_requirePerson yX0_requirePerson, .code yX0_requirePerson cX0_requirePerson 2 none, .classLink RX0 190 "java/lang/IndexOutOfBoundsException", .initialized "java/lang/IndexOutOfBoundsException", .fieldLink RX0 59 "CurfewDesk" "personCount" "I", .methodLink RX0 67 yX0_requireColour, .static yX0_requireColour, .code yX0_requireColour cX0_requireColour 1 none, .methodLink RX0 92 yX0_stampPlace, .static yX0_stampPlace, .code yX0_stampPlace cX0_stampPlace 2 (some .int)] ++ wsX00 ++ (vx_atS RX0 194 "java/lang/IndexOutOfBoundsException" ["java/lang/RuntimeException", "java/lang/Exception"]).filter goodWord)
def wsL_owes : List Cond := .codeWith yL_owes cL_owes 4 (some .int) [(0, 9, 12, 19)] :: ([.classLink RL 19 "java/lang/IndexOutOfBoundsException", .methodLink RL 82 yX0_owes, .instanceMethod yX0_owes, .selects RX0 yX0_owes yX0_owes, .initialized RX0, .code yX0_owes cX0_owes 2 (some .int), .fieldLink RX0 35 "CurfewDesk" "personOwes" "[I", .methodLink RX0 89 yX0_requirePerson, .instanceMethod yX0_requirePerson, .selects RX0 yX0_requirePerson yX0_requirePerson, .code yX0_requirePerson cX0_requirePerson 2 none, .classLink RX0 190 "java/lang/IndexOutOfBoundsException", .initialized "java/lang/IndexOutOfBoundsException", .fieldLink RX0 59 "CurfewDesk" "personCount" "I"] ++ wsX00 ++ (vx_atS RX0 194 "java/lang/IndexOutOfBoundsException" ["java/lang/RuntimeException", "java/lang/Exception"]).filter goodWord)
def wsL_timesFined : List Cond := .codeWith yL_timesFined cL_timesFined 4 (some .int) [(0, 9, 12, 19)] :: ([.classLink RL 19 "java/lang/IndexOutOfBoundsException", .methodLink RL 85 yX0_timesFined, .instanceMethod yX0_timesFined, .selects RX0 yX0_timesFined yX0_timesFined, .initialized RX0, .code yX0_timesFined cX0_timesFined 2 (some .int), .fieldLink RX0 32 "CurfewDesk" "personFined" "[I", .methodLink RX0 89 yX0_requirePerson, .instanceMethod yX0_requirePerson, .selects RX0 yX0_requirePerson yX0_requirePerson, .code yX0_requirePerson cX0_requirePerson 2 none, .classLink RX0 190 "java/lang/IndexOutOfBoundsException", .initialized "java/lang/IndexOutOfBoundsException", .fieldLink RX0 59 "CurfewDesk" "personCount" "I"] ++ wsX00 ++ (vx_atS RX0 194 "java/lang/IndexOutOfBoundsException" ["java/lang/RuntimeException", "java/lang/Exception"]).filter goodWord)
def wsL_ordersAgainst_r1 : List Cond := [Cond.classLink RL 19 "java/lang/IndexOutOfBoundsException", Cond.methodLink RL 88 yX0_ordersAgainst, Cond.instanceMethod yX0_ordersAgainst, Cond.selects RX0 yX0_ordersAgainst yX0_ordersAgainst, Cond.initialized RX0, Cond.code yX0_ordersAgainst cX0_ordersAgainst 5 (some .int), Cond.fieldLink RX0 74 "CurfewDesk" "orderCount" "I", Cond.fieldLink RX0 101 "CurfewDesk" "now" "I", Cond.methodLink RX0 89 yX0_requirePerson, Cond.instanceMethod yX0_requirePerson, Cond.selects RX0 yX0_requirePerson yX0_requirePerson, Cond.code yX0_requirePerson cX0_requirePerson 2 none, Cond.classLink RX0 190 "java/lang/IndexOutOfBoundsException", Cond.initialized "java/lang/IndexOutOfBoundsException", Cond.fieldLink RX0 59 "CurfewDesk" "personCount" "I", Cond.methodLink RX0 64 yX0_requireQuarter, Cond.instanceMethod yX0_requireQuarter, Cond.selects RX0 yX0_requireQuarter yX0_requireQuarter, Cond.code yX0_requireQuarter cX0_requireQuarter 2 none, Cond.fieldLink RX0 44 "CurfewDesk" "quarterCount" "I", Cond.methodLink RX0 104 yX0_bars, Cond.instanceMethod yX0_bars, Cond.selects RX0 yX0_bars yX0_bars, Cond.code yX0_bars cX0_bars 5 (some .boolean)]
def wsL_ordersAgainst_r2 : List Cond := [Cond.fieldLink RX0 9 "CurfewDesk" "orderQuarter" "[I", Cond.fieldLink RX0 29 "CurfewDesk" "personTrade" "[I", Cond.fieldLink RX0 22 "CurfewDesk" "orderInForce" "[Z", Cond.methodLink RX0 82 yX0_exempts, Cond.instanceMethod yX0_exempts, Cond.selects RX0 yX0_exempts yX0_exempts, Cond.code yX0_exempts cX0_exempts 3 (some .boolean), Cond.fieldLink RX0 26 "CurfewDesk" "orderExempt" "[I", Cond.methodLink RX0 139 yX0_isInHours, Cond.instanceMethod yX0_isInHours, Cond.selects RX0 yX0_isInHours yX0_isInHours, Cond.code yX0_isInHours cX0_isInHours 5 (some .boolean), Cond.fieldLink RX0 13 "CurfewDesk" "orderAhead" "[I", Cond.fieldLink RX0 16 "CurfewDesk" "orderBehind" "[I", Cond.methodLink RX0 122 yX0_duskOf, Cond.instanceMethod yX0_duskOf, Cond.selects RX0 yX0_duskOf yX0_duskOf, Cond.code yX0_duskOf cX0_duskOf 2 (some .int), Cond.fieldLink RX0 86 "CurfewDesk" "duskShift" "I", Cond.methodLink RX0 184 yX0_tideOf, Cond.static yX0_tideOf, Cond.code yX0_tideOf cX0_tideOf 2 (some .int), Cond.methodLink RX0 125 yX0_dawnOf, Cond.static yX0_dawnOf]
def wsL_ordersAgainst_r3 : List Cond := [Cond.code yX0_dawnOf cX0_dawnOf 1 (some .int)]
def wsL_ordersAgainst : List Cond := .codeWith yL_ordersAgainst cL_ordersAgainst 5 (some .int) [(0, 10, 13, 19)] :: ((wsL_ordersAgainst_r1 ++ (wsL_ordersAgainst_r2 ++ wsL_ordersAgainst_r3)) ++ wsX00 ++ (vx_atS RX0 194 "java/lang/IndexOutOfBoundsException" ["java/lang/RuntimeException", "java/lang/Exception"]).filter goodWord)
def wsL_mayGo_r1 : List Cond := [Cond.classLink RL 19 "java/lang/IndexOutOfBoundsException", Cond.methodLink RL 91 yX0_mayGo, Cond.instanceMethod yX0_mayGo, Cond.selects RX0 yX0_mayGo yX0_mayGo, Cond.initialized RX0, Cond.code yX0_mayGo cX0_mayGo 3 (some .boolean), Cond.methodLink RX0 89 yX0_requirePerson, Cond.instanceMethod yX0_requirePerson, Cond.selects RX0 yX0_requirePerson yX0_requirePerson, Cond.code yX0_requirePerson cX0_requirePerson 2 none, Cond.classLink RX0 190 "java/lang/IndexOutOfBoundsException", Cond.initialized "java/lang/IndexOutOfBoundsException", Cond.fieldLink RX0 59 "CurfewDesk" "personCount" "I", Cond.methodLink RX0 64 yX0_requireQuarter, Cond.instanceMethod yX0_requireQuarter, Cond.selects RX0 yX0_requireQuarter yX0_requireQuarter, Cond.code yX0_requireQuarter cX0_requireQuarter 2 none, Cond.fieldLink RX0 44 "CurfewDesk" "quarterCount" "I", Cond.methodLink RX0 131 yX0_missing, Cond.instanceMethod yX0_missing, Cond.selects RX0 yX0_missing yX0_missing, Cond.code yX0_missing cX0_missing 8 (some .int), Cond.fieldLink RX0 74 "CurfewDesk" "orderCount" "I", Cond.fieldLink RX0 19 "CurfewDesk" "orderColour" "[I"]
def wsL_mayGo_r2 : List Cond := [Cond.fieldLink RX0 101 "CurfewDesk" "now" "I", Cond.fieldLink RX0 38 "CurfewDesk" "personStamps" "[I", Cond.methodLink RX0 187 Lib.Math.max.name, Cond.static Lib.Math.max.name, Cond.initialized "java/lang/Math", Cond.code Lib.Math.max.name Lib.Math.max.code 2 (some .int), Cond.methodLink RX0 104 yX0_bars, Cond.instanceMethod yX0_bars, Cond.selects RX0 yX0_bars yX0_bars, Cond.code yX0_bars cX0_bars 5 (some .boolean), Cond.fieldLink RX0 9 "CurfewDesk" "orderQuarter" "[I", Cond.fieldLink RX0 29 "CurfewDesk" "personTrade" "[I", Cond.fieldLink RX0 22 "CurfewDesk" "orderInForce" "[Z", Cond.methodLink RX0 82 yX0_exempts, Cond.instanceMethod yX0_exempts, Cond.selects RX0 yX0_exempts yX0_exempts, Cond.code yX0_exempts cX0_exempts 3 (some .boolean), Cond.fieldLink RX0 26 "CurfewDesk" "orderExempt" "[I", Cond.methodLink RX0 139 yX0_isInHours, Cond.instanceMethod yX0_isInHours, Cond.selects RX0 yX0_isInHours yX0_isInHours, Cond.code yX0_isInHours cX0_isInHours 5 (some .boolean), Cond.fieldLink RX0 13 "CurfewDesk" "orderAhead" "[I", Cond.fieldLink RX0 16 "CurfewDesk" "orderBehind" "[I"]
def wsL_mayGo_r3 : List Cond := [Cond.methodLink RX0 122 yX0_duskOf, Cond.instanceMethod yX0_duskOf, Cond.selects RX0 yX0_duskOf yX0_duskOf, Cond.code yX0_duskOf cX0_duskOf 2 (some .int), Cond.fieldLink RX0 86 "CurfewDesk" "duskShift" "I", Cond.methodLink RX0 184 yX0_tideOf, Cond.static yX0_tideOf, Cond.code yX0_tideOf cX0_tideOf 2 (some .int), Cond.methodLink RX0 125 yX0_dawnOf, Cond.static yX0_dawnOf, Cond.code yX0_dawnOf cX0_dawnOf 1 (some .int), Cond.methodLink RX0 92 yX0_stampPlace, Cond.static yX0_stampPlace, Cond.code yX0_stampPlace cX0_stampPlace 2 (some .int)]
def wsL_mayGo : List Cond := .codeWith yL_mayGo cL_mayGo 5 (some .int) [(0, 17, 20, 19)] :: ((wsL_mayGo_r1 ++ (wsL_mayGo_r2 ++ wsL_mayGo_r3)) ++ wsX00 ++ (vx_atS RX0 194 "java/lang/IndexOutOfBoundsException" ["java/lang/RuntimeException", "java/lang/Exception"]).filter goodWord)
def wsL_stampsMissing_r1 : List Cond := [Cond.classLink RL 19 "java/lang/IndexOutOfBoundsException", Cond.methodLink RL 94 yX0_stampsMissing, Cond.instanceMethod yX0_stampsMissing, Cond.selects RX0 yX0_stampsMissing yX0_stampsMissing, Cond.initialized RX0, Cond.code yX0_stampsMissing cX0_stampsMissing 3 (some .int), Cond.methodLink RX0 89 yX0_requirePerson, Cond.instanceMethod yX0_requirePerson, Cond.selects RX0 yX0_requirePerson yX0_requirePerson, Cond.code yX0_requirePerson cX0_requirePerson 2 none, Cond.classLink RX0 190 "java/lang/IndexOutOfBoundsException", Cond.initialized "java/lang/IndexOutOfBoundsException", Cond.fieldLink RX0 59 "CurfewDesk" "personCount" "I", Cond.methodLink RX0 64 yX0_requireQuarter, Cond.instanceMethod yX0_requireQuarter, Cond.selects RX0 yX0_requireQuarter yX0_requireQuarter, Cond.code yX0_requireQuarter cX0_requireQuarter 2 none, Cond.fieldLink RX0 44 "CurfewDesk" "quarterCount" "I", Cond.methodLink RX0 131 yX0_missing, Cond.instanceMethod yX0_missing, Cond.selects RX0 yX0_missing yX0_missing, Cond.code yX0_missing cX0_missing 8 (some .int), Cond.fieldLink RX0 74 "CurfewDesk" "orderCount" "I", Cond.fieldLink RX0 19 "CurfewDesk" "orderColour" "[I"]
def wsL_stampsMissing_r2 : List Cond := [Cond.fieldLink RX0 101 "CurfewDesk" "now" "I", Cond.fieldLink RX0 38 "CurfewDesk" "personStamps" "[I", Cond.methodLink RX0 187 Lib.Math.max.name, Cond.static Lib.Math.max.name, Cond.initialized "java/lang/Math", Cond.code Lib.Math.max.name Lib.Math.max.code 2 (some .int), Cond.methodLink RX0 104 yX0_bars, Cond.instanceMethod yX0_bars, Cond.selects RX0 yX0_bars yX0_bars, Cond.code yX0_bars cX0_bars 5 (some .boolean), Cond.fieldLink RX0 9 "CurfewDesk" "orderQuarter" "[I", Cond.fieldLink RX0 29 "CurfewDesk" "personTrade" "[I", Cond.fieldLink RX0 22 "CurfewDesk" "orderInForce" "[Z", Cond.methodLink RX0 82 yX0_exempts, Cond.instanceMethod yX0_exempts, Cond.selects RX0 yX0_exempts yX0_exempts, Cond.code yX0_exempts cX0_exempts 3 (some .boolean), Cond.fieldLink RX0 26 "CurfewDesk" "orderExempt" "[I", Cond.methodLink RX0 139 yX0_isInHours, Cond.instanceMethod yX0_isInHours, Cond.selects RX0 yX0_isInHours yX0_isInHours, Cond.code yX0_isInHours cX0_isInHours 5 (some .boolean), Cond.fieldLink RX0 13 "CurfewDesk" "orderAhead" "[I", Cond.fieldLink RX0 16 "CurfewDesk" "orderBehind" "[I"]
def wsL_stampsMissing_r3 : List Cond := [Cond.methodLink RX0 122 yX0_duskOf, Cond.instanceMethod yX0_duskOf, Cond.selects RX0 yX0_duskOf yX0_duskOf, Cond.code yX0_duskOf cX0_duskOf 2 (some .int), Cond.fieldLink RX0 86 "CurfewDesk" "duskShift" "I", Cond.methodLink RX0 184 yX0_tideOf, Cond.static yX0_tideOf, Cond.code yX0_tideOf cX0_tideOf 2 (some .int), Cond.methodLink RX0 125 yX0_dawnOf, Cond.static yX0_dawnOf, Cond.code yX0_dawnOf cX0_dawnOf 1 (some .int), Cond.methodLink RX0 92 yX0_stampPlace, Cond.static yX0_stampPlace, Cond.code yX0_stampPlace cX0_stampPlace 2 (some .int)]
def wsL_stampsMissing : List Cond := .codeWith yL_stampsMissing cL_stampsMissing 5 (some .int) [(0, 10, 13, 19)] :: ((wsL_stampsMissing_r1 ++ (wsL_stampsMissing_r2 ++ wsL_stampsMissing_r3)) ++ wsX00 ++ (vx_atS RX0 194 "java/lang/IndexOutOfBoundsException" ["java/lang/RuntimeException", "java/lang/Exception"]).filter goodWord)
def wsL_stampsUsed : List Cond := .codeWith yL_stampsUsed cL_stampsUsed 4 (some .int) [(0, 9, 12, 19)] :: ([.classLink RL 19 "java/lang/IndexOutOfBoundsException", .methodLink RL 97 yX0_stampsUsed, .instanceMethod yX0_stampsUsed, .selects RX0 yX0_stampsUsed yX0_stampsUsed, .initialized RX0, .code yX0_stampsUsed cX0_stampsUsed 2 (some .int), .fieldLink RX0 41 "CurfewDesk" "usedStamps" "[I", .methodLink RX0 67 yX0_requireColour, .static yX0_requireColour, .code yX0_requireColour cX0_requireColour 1 none, .classLink RX0 190 "java/lang/IndexOutOfBoundsException", .initialized "java/lang/IndexOutOfBoundsException"] ++ wsX00 ++ (vx_atS RX0 194 "java/lang/IndexOutOfBoundsException" ["java/lang/RuntimeException", "java/lang/Exception"]).filter goodWord)
def wsL_halfHoursUntilFree_r1 : List Cond := [Cond.classLink RL 19 "java/lang/IndexOutOfBoundsException", Cond.methodLink RL 100 yX0_halfHoursUntilFree, Cond.instanceMethod yX0_halfHoursUntilFree, Cond.selects RX0 yX0_halfHoursUntilFree yX0_halfHoursUntilFree, Cond.initialized RX0, Cond.code yX0_halfHoursUntilFree cX0_halfHoursUntilFree 4 (some .int), Cond.fieldLink RX0 101 "CurfewDesk" "now" "I", Cond.methodLink RX0 89 yX0_requirePerson, Cond.instanceMethod yX0_requirePerson, Cond.selects RX0 yX0_requirePerson yX0_requirePerson, Cond.code yX0_requirePerson cX0_requirePerson 2 none, Cond.classLink RX0 190 "java/lang/IndexOutOfBoundsException", Cond.initialized "java/lang/IndexOutOfBoundsException", Cond.fieldLink RX0 59 "CurfewDesk" "personCount" "I", Cond.methodLink RX0 64 yX0_requireQuarter, Cond.instanceMethod yX0_requireQuarter, Cond.selects RX0 yX0_requireQuarter yX0_requireQuarter, Cond.code yX0_requireQuarter cX0_requireQuarter 2 none, Cond.fieldLink RX0 44 "CurfewDesk" "quarterCount" "I", Cond.methodLink RX0 135 yX0_isFreeAt, Cond.instanceMethod yX0_isFreeAt, Cond.selects RX0 yX0_isFreeAt yX0_isFreeAt, Cond.code yX0_isFreeAt cX0_isFreeAt 5 (some .boolean), Cond.fieldLink RX0 74 "CurfewDesk" "orderCount" "I"]
def wsL_halfHoursUntilFree_r2 : List Cond := [Cond.methodLink RX0 104 yX0_bars, Cond.instanceMethod yX0_bars, Cond.selects RX0 yX0_bars yX0_bars, Cond.code yX0_bars cX0_bars 5 (some .boolean), Cond.fieldLink RX0 9 "CurfewDesk" "orderQuarter" "[I", Cond.fieldLink RX0 29 "CurfewDesk" "personTrade" "[I", Cond.fieldLink RX0 22 "CurfewDesk" "orderInForce" "[Z", Cond.methodLink RX0 82 yX0_exempts, Cond.instanceMethod yX0_exempts, Cond.selects RX0 yX0_exempts yX0_exempts, Cond.code yX0_exempts cX0_exempts 3 (some .boolean), Cond.fieldLink RX0 26 "CurfewDesk" "orderExempt" "[I", Cond.methodLink RX0 139 yX0_isInHours, Cond.instanceMethod yX0_isInHours, Cond.selects RX0 yX0_isInHours yX0_isInHours, Cond.code yX0_isInHours cX0_isInHours 5 (some .boolean), Cond.fieldLink RX0 13 "CurfewDesk" "orderAhead" "[I", Cond.fieldLink RX0 16 "CurfewDesk" "orderBehind" "[I", Cond.methodLink RX0 122 yX0_duskOf, Cond.instanceMethod yX0_duskOf, Cond.selects RX0 yX0_duskOf yX0_duskOf, Cond.code yX0_duskOf cX0_duskOf 2 (some .int), Cond.fieldLink RX0 86 "CurfewDesk" "duskShift" "I", Cond.methodLink RX0 184 yX0_tideOf]
def wsL_halfHoursUntilFree_r3 : List Cond := [Cond.static yX0_tideOf, Cond.code yX0_tideOf cX0_tideOf 2 (some .int), Cond.methodLink RX0 125 yX0_dawnOf, Cond.static yX0_dawnOf, Cond.code yX0_dawnOf cX0_dawnOf 1 (some .int)]
def wsL_halfHoursUntilFree : List Cond := .codeWith yL_halfHoursUntilFree cL_halfHoursUntilFree 5 (some .int) [(0, 10, 13, 19)] :: ((wsL_halfHoursUntilFree_r1 ++ (wsL_halfHoursUntilFree_r2 ++ wsL_halfHoursUntilFree_r3)) ++ wsX00 ++ (vx_atS RX0 194 "java/lang/IndexOutOfBoundsException" ["java/lang/RuntimeException", "java/lang/Exception"]).filter goodWord)
def wsL_halfHoursOn_r1 : List Cond := [Cond.classLink RL 19 "java/lang/IndexOutOfBoundsException", Cond.methodLink RL 103 yX0_halfHoursOn, Cond.instanceMethod yX0_halfHoursOn, Cond.selects RX0 yX0_halfHoursOn yX0_halfHoursOn, Cond.initialized RX0, Cond.code yX0_halfHoursOn cX0_halfHoursOn 4 (some .int), Cond.fieldLink RX0 101 "CurfewDesk" "now" "I", Cond.methodLink RX0 79 yX0_requireOrder, Cond.instanceMethod yX0_requireOrder, Cond.selects RX0 yX0_requireOrder yX0_requireOrder, Cond.code yX0_requireOrder cX0_requireOrder 2 none, Cond.classLink RX0 190 "java/lang/IndexOutOfBoundsException", Cond.initialized "java/lang/IndexOutOfBoundsException", Cond.fieldLink RX0 74 "CurfewDesk" "orderCount" "I", Cond.methodLink RX0 139 yX0_isInHours, Cond.instanceMethod yX0_isInHours, Cond.selects RX0 yX0_isInHours yX0_isInHours, Cond.code yX0_isInHours cX0_isInHours 5 (some .boolean), Cond.fieldLink RX0 13 "CurfewDesk" "orderAhead" "[I", Cond.fieldLink RX0 16 "CurfewDesk" "orderBehind" "[I", Cond.methodLink RX0 122 yX0_duskOf, Cond.instanceMethod yX0_duskOf, Cond.selects RX0 yX0_duskOf yX0_duskOf, Cond.code yX0_duskOf cX0_duskOf 2 (some .int)]
def wsL_halfHoursOn_r2 : List Cond := [Cond.fieldLink RX0 86 "CurfewDesk" "duskShift" "I", Cond.methodLink RX0 184 yX0_tideOf, Cond.static yX0_tideOf, Cond.code yX0_tideOf cX0_tideOf 2 (some .int), Cond.methodLink RX0 125 yX0_dawnOf, Cond.static yX0_dawnOf, Cond.code yX0_dawnOf cX0_dawnOf 1 (some .int)]
def wsL_halfHoursOn : List Cond := .codeWith yL_halfHoursOn cL_halfHoursOn 4 (some .int) [(0, 9, 12, 19)] :: ((wsL_halfHoursOn_r1 ++ wsL_halfHoursOn_r2) ++ wsX00 ++ (vx_atS RX0 194 "java/lang/IndexOutOfBoundsException" ["java/lang/RuntimeException", "java/lang/Exception"]).filter goodWord)
def wsL_law0_r1 : List Cond := [Cond.classLink RL 8 RX0, Cond.instantiable RX0 16, Cond.initialized RX0, Cond.classLink RL 107 RX1, Cond.instantiable RX1 18, Cond.initialized RX1, Cond.arrayClass .long, Cond.methodLink RL 106 yX0_init, Cond.instanceMethod yX0_init, Cond.code yX0_init cX0_init 1 none, Cond.methodLink RX0 1 objectInit, Cond.instanceMethod objectInit, Cond.code objectInit ⟨#[0xb1]⟩ 1 none, Cond.arrayClass .int, Cond.fieldLink RX0 9 "CurfewDesk" "orderQuarter" "[I", Cond.fieldLink RX0 13 "CurfewDesk" "orderAhead" "[I", Cond.fieldLink RX0 16 "CurfewDesk" "orderBehind" "[I", Cond.fieldLink RX0 19 "CurfewDesk" "orderColour" "[I", Cond.arrayClass .boolean, Cond.fieldLink RX0 22 "CurfewDesk" "orderInForce" "[Z", Cond.fieldLink RX0 26 "CurfewDesk" "orderExempt" "[I", Cond.fieldLink RX0 29 "CurfewDesk" "personTrade" "[I", Cond.fieldLink RX0 32 "CurfewDesk" "personFined" "[I", Cond.fieldLink RX0 35 "CurfewDesk" "personOwes" "[I"]
def wsL_law0_r2 : List Cond := [Cond.fieldLink RX0 38 "CurfewDesk" "personStamps" "[I", Cond.fieldLink RX0 41 "CurfewDesk" "usedStamps" "[I", Cond.methodLink RL 109 yX1_init, Cond.instanceMethod yX1_init, Cond.code yX1_init cX1_init 1 none, Cond.methodLink RX1 1 objectInit, Cond.fieldLink RX1 9 "CurfewDeskModel" "quarter" "[I", Cond.fieldLink RX1 13 "CurfewDeskModel" "ahead" "[I", Cond.fieldLink RX1 16 "CurfewDeskModel" "behind" "[I", Cond.fieldLink RX1 19 "CurfewDeskModel" "colour" "[I", Cond.fieldLink RX1 22 "CurfewDeskModel" "exempt" "[I", Cond.fieldLink RX1 25 "CurfewDeskModel" "force" "[Z", Cond.fieldLink RX1 29 "CurfewDeskModel" "trade" "[I", Cond.fieldLink RX1 32 "CurfewDeskModel" "fined" "[I", Cond.fieldLink RX1 35 "CurfewDeskModel" "debt" "[I", Cond.fieldLink RX1 38 "CurfewDeskModel" "stamps" "[I", Cond.fieldLink RX1 41 "CurfewDeskModel" "used" "[I", Cond.fieldLink RX1 44 "CurfewDeskModel" "wanted" "[I", Cond.methodLink RL 110 yL_addQuarter, Cond.static yL_addQuarter, Cond.initialized RL, Cond.codeWith yL_addQuarter cL_addQuarter 3 (some .int) [(0, 8, 11, 13)], Cond.classLink RL 13 "java/lang/IllegalStateException", Cond.methodLink RL 7 yX0_addQuarter]
def wsL_law0_r3 : List Cond := [Cond.instanceMethod yX0_addQuarter, Cond.selects RX0 yX0_addQuarter yX0_addQuarter, Cond.code yX0_addQuarter cX0_addQuarter 2 (some .int), Cond.classLink RX0 48 "java/lang/IllegalStateException", Cond.initialized "java/lang/IllegalStateException", Cond.fieldLink RX0 44 "CurfewDesk" "quarterCount" "I", Cond.methodLink RL 115 yX1_addQuarter, Cond.instanceMethod yX1_addQuarter, Cond.selects RX1 yX1_addQuarter yX1_addQuarter, Cond.code yX1_addQuarter cX1_addQuarter 1 (some .int), Cond.fieldLink RX1 47 "CurfewDeskModel" "thrown" "I", Cond.fieldLink RX1 51 "CurfewDeskModel" "quarters" "I", Cond.methodLink RX1 88 yX1_fail, Cond.instanceMethod yX1_fail, Cond.selects RX1 yX1_fail yX1_fail, Cond.code yX1_fail cX1_fail 2 (some .int), Cond.methodLink RL 116 yX1_thrown, Cond.instanceMethod yX1_thrown, Cond.selects RX1 yX1_thrown yX1_thrown, Cond.code yX1_thrown cX1_thrown 1 (some .int), Cond.methodLink RL 119 yL_addPerson, Cond.static yL_addPerson, Cond.codeWith yL_addPerson cL_addPerson 4 (some .int) [(0, 9, 12, 19), (0, 9, 15, 13)], Cond.classLink RL 19 "java/lang/IndexOutOfBoundsException"]
def wsL_law0_r4 : List Cond := [Cond.methodLink RL 15 yX0_addPerson, Cond.instanceMethod yX0_addPerson, Cond.selects RX0 yX0_addPerson yX0_addPerson, Cond.code yX0_addPerson cX0_addPerson 3 (some .int), Cond.fieldLink RX0 59 "CurfewDesk" "personCount" "I", Cond.methodLink RX0 55 yX0_requireTrade, Cond.static yX0_requireTrade, Cond.code yX0_requireTrade cX0_requireTrade 1 none, Cond.classLink RX0 190 "java/lang/IndexOutOfBoundsException", Cond.initialized "java/lang/IndexOutOfBoundsException", Cond.methodLink RL 122 yX1_addPerson, Cond.instanceMethod yX1_addPerson, Cond.selects RX1 yX1_addPerson yX1_addPerson, Cond.code yX1_addPerson cX1_addPerson 2 (some .int), Cond.fieldLink RX1 61 "CurfewDeskModel" "people" "I", Cond.methodLink RX1 91 yX1_isTrade, Cond.static yX1_isTrade, Cond.code yX1_isTrade cX1_isTrade 1 (some .boolean), Cond.methodLink RX1 54 yX1_isIn, Cond.static yX1_isIn, Cond.code yX1_isIn cX1_isIn 3 (some .boolean), Cond.methodLink RL 123 yL_addOrder, Cond.static yL_addOrder, Cond.codeWith yL_addOrder cL_addOrder 7 (some .int) [(0, 14, 17, 19), (0, 14, 21, 25), (0, 14, 25, 13)]]
def wsL_law0_r5 : List Cond := [Cond.classLink RL 25 "java/lang/IllegalArgumentException", Cond.methodLink RL 21 yX0_addOrder, Cond.instanceMethod yX0_addOrder, Cond.selects RX0 yX0_addOrder yX0_addOrder, Cond.code yX0_addOrder cX0_addOrder 6 (some .int), Cond.fieldLink RX0 74 "CurfewDesk" "orderCount" "I", Cond.methodLink RX0 64 yX0_requireQuarter, Cond.instanceMethod yX0_requireQuarter, Cond.selects RX0 yX0_requireQuarter yX0_requireQuarter, Cond.code yX0_requireQuarter cX0_requireQuarter 2 none, Cond.methodLink RX0 67 yX0_requireColour, Cond.static yX0_requireColour, Cond.code yX0_requireColour cX0_requireColour 1 none, Cond.methodLink RX0 70 yX0_requireWithin, Cond.static yX0_requireWithin, Cond.code yX0_requireWithin cX0_requireWithin 3 none, Cond.classLink RX0 203 "java/lang/IllegalArgumentException", Cond.initialized "java/lang/IllegalArgumentException", Cond.methodLink RL 126 yX1_addOrder, Cond.instanceMethod yX1_addOrder, Cond.selects RX1 yX1_addOrder yX1_addOrder, Cond.code yX1_addOrder cX1_addOrder 5 (some .int), Cond.fieldLink RX1 58 "CurfewDeskModel" "orders" "I", Cond.methodLink RX1 95 yX1_isQuarter]
def wsL_law0_r6 : List Cond := [Cond.instanceMethod yX1_isQuarter, Cond.selects RX1 yX1_isQuarter yX1_isQuarter, Cond.code yX1_isQuarter cX1_isQuarter 2 (some .boolean), Cond.methodLink RX1 98 yX1_isColour, Cond.static yX1_isColour, Cond.code yX1_isColour cX1_isColour 1 (some .boolean), Cond.methodLink RL 127 yL_turnExempt, Cond.static yL_turnExempt, Cond.codeWith yL_turnExempt cL_turnExempt 5 (some .int) [(0, 17, 20, 19)], Cond.methodLink RL 27 yX0_turnExempt, Cond.instanceMethod yX0_turnExempt, Cond.selects RX0 yX0_turnExempt yX0_turnExempt, Cond.code yX0_turnExempt cX0_turnExempt 3 (some .boolean), Cond.methodLink RX0 79 yX0_requireOrder, Cond.instanceMethod yX0_requireOrder, Cond.selects RX0 yX0_requireOrder yX0_requireOrder, Cond.code yX0_requireOrder cX0_requireOrder 2 none, Cond.methodLink RX0 82 yX0_exempts, Cond.instanceMethod yX0_exempts, Cond.selects RX0 yX0_exempts yX0_exempts, Cond.code yX0_exempts cX0_exempts 3 (some .boolean), Cond.methodLink RL 130 yX1_turnExempt, Cond.instanceMethod yX1_turnExempt, Cond.selects RX1 yX1_turnExempt yX1_turnExempt]
def wsL_law0_r7 : List Cond := [Cond.code yX1_turnExempt cX1_turnExempt 3 (some .boolean), Cond.methodLink RX1 101 yX1_isOrder, Cond.instanceMethod yX1_isOrder, Cond.selects RX1 yX1_isOrder yX1_isOrder, Cond.code yX1_isOrder cX1_isOrder 2 (some .boolean), Cond.methodLink RX1 104 yX1_failed, Cond.instanceMethod yX1_failed, Cond.selects RX1 yX1_failed yX1_failed, Cond.code yX1_failed cX1_failed 2 (some .boolean), Cond.methodLink RL 131 yL_turnOrder, Cond.static yL_turnOrder, Cond.codeWith yL_turnOrder cL_turnOrder 4 (some .int) [(0, 16, 19, 19)], Cond.methodLink RL 31 yX0_turnOrder, Cond.instanceMethod yX0_turnOrder, Cond.selects RX0 yX0_turnOrder yX0_turnOrder, Cond.code yX0_turnOrder cX0_turnOrder 2 (some .boolean), Cond.methodLink RL 133 yX1_turnOrder, Cond.instanceMethod yX1_turnOrder, Cond.selects RX1 yX1_turnOrder yX1_turnOrder, Cond.code yX1_turnOrder cX1_turnOrder 2 (some .boolean), Cond.methodLink RL 134 yL_setShift, Cond.static yL_setShift, Cond.codeWith yL_setShift cL_setShift 4 (some .int) [(0, 9, 12, 25)], Cond.methodLink RL 35 yX0_setShift]
def wsL_law0_r8 : List Cond := [Cond.instanceMethod yX0_setShift, Cond.selects RX0 yX0_setShift yX0_setShift, Cond.code yX0_setShift cX0_setShift 3 (some .int), Cond.fieldLink RX0 86 "CurfewDesk" "duskShift" "I", Cond.methodLink RL 136 yX1_setShift, Cond.instanceMethod yX1_setShift, Cond.selects RX1 yX1_setShift yX1_setShift, Cond.code yX1_setShift cX1_setShift 3 (some .int), Cond.fieldLink RX1 68 "CurfewDeskModel" "shift" "I", Cond.methodLink RL 137 yL_givePass, Cond.static yL_givePass, Cond.codeWith yL_givePass cL_givePass 6 (some .int) [(0, 12, 15, 19), (0, 12, 19, 25)], Cond.methodLink RL 38 yX0_givePass, Cond.instanceMethod yX0_givePass, Cond.selects RX0 yX0_givePass yX0_givePass, Cond.code yX0_givePass cX0_givePass 5 (some .int), Cond.methodLink RX0 96 Lib.Math.min.name, Cond.static Lib.Math.min.name, Cond.initialized "java/lang/Math", Cond.code Lib.Math.min.name Lib.Math.min.code 2 (some .int), Cond.methodLink RX0 89 yX0_requirePerson, Cond.instanceMethod yX0_requirePerson, Cond.selects RX0 yX0_requirePerson yX0_requirePerson, Cond.code yX0_requirePerson cX0_requirePerson 2 none]
def wsL_law0_r9 : List Cond := [Cond.methodLink RX0 92 yX0_stampPlace, Cond.static yX0_stampPlace, Cond.code yX0_stampPlace cX0_stampPlace 2 (some .int), Cond.methodLink RL 140 yX1_givePass, Cond.instanceMethod yX1_givePass, Cond.selects RX1 yX1_givePass yX1_givePass, Cond.code yX1_givePass cX1_givePass 5 (some .int), Cond.methodLink RX1 113 Lib.Math.min.name, Cond.methodLink RX1 110 yX1_isPass, Cond.instanceMethod yX1_isPass, Cond.selects RX1 yX1_isPass yX1_isPass, Cond.code yX1_isPass cX1_isPass 3 (some .boolean), Cond.methodLink RX1 107 yX1_isPerson, Cond.instanceMethod yX1_isPerson, Cond.selects RX1 yX1_isPerson yX1_isPerson, Cond.code yX1_isPerson cX1_isPerson 2 (some .boolean), Cond.methodLink RL 141 yL_takePass, Cond.static yL_takePass, Cond.codeWith yL_takePass cL_takePass 5 (some .int) [(0, 10, 13, 19)], Cond.methodLink RL 42 yX0_takePass, Cond.instanceMethod yX0_takePass, Cond.selects RX0 yX0_takePass yX0_takePass, Cond.code yX0_takePass cX0_takePass 5 (some .int), Cond.methodLink RL 143 yX1_takePass]
def wsL_law0_r10 : List Cond := [Cond.instanceMethod yX1_takePass, Cond.selects RX1 yX1_takePass yX1_takePass, Cond.code yX1_takePass cX1_takePass 4 (some .int), Cond.methodLink RL 144 yL_goOut, Cond.static yL_goOut, Cond.codeWith yL_goOut cL_goOut 5 (some .int) [(0, 10, 13, 19)], Cond.methodLink RL 46 yX0_goOut, Cond.instanceMethod yX0_goOut, Cond.selects RX0 yX0_goOut yX0_goOut, Cond.code yX0_goOut cX0_goOut 5 (some .int), Cond.fieldLink RX0 101 "CurfewDesk" "now" "I", Cond.methodLink RX0 104 yX0_bars, Cond.instanceMethod yX0_bars, Cond.selects RX0 yX0_bars yX0_bars, Cond.code yX0_bars cX0_bars 5 (some .boolean), Cond.methodLink RX0 139 yX0_isInHours, Cond.instanceMethod yX0_isInHours, Cond.selects RX0 yX0_isInHours yX0_isInHours, Cond.code yX0_isInHours cX0_isInHours 5 (some .boolean), Cond.methodLink RX0 122 yX0_duskOf, Cond.instanceMethod yX0_duskOf, Cond.selects RX0 yX0_duskOf yX0_duskOf, Cond.code yX0_duskOf cX0_duskOf 2 (some .int), Cond.methodLink RX0 184 yX0_tideOf]
def wsL_law0_r11 : List Cond := [Cond.static yX0_tideOf, Cond.code yX0_tideOf cX0_tideOf 2 (some .int), Cond.methodLink RX0 125 yX0_dawnOf, Cond.static yX0_dawnOf, Cond.code yX0_dawnOf cX0_dawnOf 1 (some .int), Cond.methodLink RX0 108 yX0_useStamp, Cond.instanceMethod yX0_useStamp, Cond.selects RX0 yX0_useStamp yX0_useStamp, Cond.code yX0_useStamp cX0_useStamp 4 (some .boolean), Cond.methodLink RX0 111 yX0_fineOnce, Cond.instanceMethod yX0_fineOnce, Cond.selects RX0 yX0_fineOnce yX0_fineOnce, Cond.code yX0_fineOnce cX0_fineOnce 3 (some .int), Cond.methodLink RL 146 yX1_goOut, Cond.instanceMethod yX1_goOut, Cond.selects RX1 yX1_goOut yX1_goOut, Cond.code yX1_goOut cX1_goOut 6 (some .int), Cond.fieldLink RX1 122 "CurfewDeskModel" "time" "I", Cond.methodLink RX1 119 yX1_isPair, Cond.instanceMethod yX1_isPair, Cond.selects RX1 yX1_isPair yX1_isPair, Cond.code yX1_isPair cX1_isPair 3 (some .boolean), Cond.methodLink RX1 84 yX1_barsAt, Cond.instanceMethod yX1_barsAt]
def wsL_law0_r12 : List Cond := [Cond.selects RX1 yX1_barsAt yX1_barsAt, Cond.code yX1_barsAt cX1_barsAt 5 (some .boolean), Cond.methodLink RX1 81 yX1_onAt, Cond.instanceMethod yX1_onAt, Cond.selects RX1 yX1_onAt yX1_onAt, Cond.code yX1_onAt cX1_onAt 3 (some .boolean), Cond.methodLink RX1 77 yX1_isAt, Cond.instanceMethod yX1_isAt, Cond.selects RX1 yX1_isAt yX1_isAt, Cond.code yX1_isAt cX1_isAt 5 (some .boolean), Cond.methodLink RX1 71 yX1_dusk, Cond.instanceMethod yX1_dusk, Cond.selects RX1 yX1_dusk yX1_dusk, Cond.code yX1_dusk cX1_dusk 2 (some .int), Cond.methodLink RX1 64 yX1_tide, Cond.static yX1_tide, Cond.code yX1_tide cX1_tide 2 (some .int), Cond.methodLink RX1 74 yX1_dawn, Cond.static yX1_dawn, Cond.code yX1_dawn cX1_dawn 1 (some .int), Cond.methodLink RL 147 yL_pass, Cond.static yL_pass, Cond.codeWith yL_pass cL_pass 4 (some .int) [(0, 9, 12, 25)], Cond.methodLink RL 49 yX0_pass]
def wsL_law0_r13 : List Cond := [Cond.instanceMethod yX0_pass, Cond.selects RX0 yX0_pass yX0_pass, Cond.code yX0_pass cX0_pass 4 (some .int), Cond.methodLink RX0 115 yX0_timesBegun, Cond.instanceMethod yX0_timesBegun, Cond.selects RX0 yX0_timesBegun yX0_timesBegun, Cond.code yX0_timesBegun cX0_timesBegun 7 (some .int), Cond.methodLink RX0 128 yX0_isOnAt, Cond.instanceMethod yX0_isOnAt, Cond.selects RX0 yX0_isOnAt yX0_isOnAt, Cond.code yX0_isOnAt cX0_isOnAt 3 (some .boolean), Cond.methodLink RL 149 yX1_pass, Cond.instanceMethod yX1_pass, Cond.selects RX1 yX1_pass yX1_pass, Cond.code yX1_pass cX1_pass 5 (some .int), Cond.methodLink RL 150 yX0_day, Cond.instanceMethod yX0_day, Cond.selects RX0 yX0_day yX0_day, Cond.code yX0_day cX0_day 1 (some .int), Cond.methodLink RL 153 yX1_day, Cond.instanceMethod yX1_day, Cond.selects RX1 yX1_day yX1_day, Cond.code yX1_day cX1_day 1 (some .int), Cond.methodLink RL 154 yX0_halfHour]
def wsL_law0_r14 : List Cond := [Cond.instanceMethod yX0_halfHour, Cond.selects RX0 yX0_halfHour yX0_halfHour, Cond.code yX0_halfHour cX0_halfHour 1 (some .int), Cond.methodLink RL 157 yX1_halfHour, Cond.instanceMethod yX1_halfHour, Cond.selects RX1 yX1_halfHour yX1_halfHour, Cond.code yX1_halfHour cX1_halfHour 1 (some .int), Cond.methodLink RL 158 yL_duskIn, Cond.static yL_duskIn, Cond.codeWith yL_duskIn cL_duskIn 4 (some .int) [(0, 9, 12, 25)], Cond.methodLink RL 52 yX0_duskIn, Cond.instanceMethod yX0_duskIn, Cond.selects RX0 yX0_duskIn yX0_duskIn, Cond.code yX0_duskIn cX0_duskIn 2 (some .int), Cond.methodLink RX0 118 yX0_day, Cond.methodLink RL 160 yX1_duskIn, Cond.instanceMethod yX1_duskIn, Cond.selects RX1 yX1_duskIn yX1_duskIn, Cond.code yX1_duskIn cX1_duskIn 2 (some .int), Cond.methodLink RL 161 yL_dawnIn, Cond.static yL_dawnIn, Cond.codeWith yL_dawnIn cL_dawnIn 4 (some .int) [(0, 9, 12, 25)], Cond.methodLink RL 55 yX0_dawnIn, Cond.instanceMethod yX0_dawnIn]
def wsL_law0_r15 : List Cond := [Cond.selects RX0 yX0_dawnIn yX0_dawnIn, Cond.code yX0_dawnIn cX0_dawnIn 2 (some .int), Cond.methodLink RL 163 yX1_dawnIn, Cond.instanceMethod yX1_dawnIn, Cond.selects RX1 yX1_dawnIn yX1_dawnIn, Cond.code yX1_dawnIn cX1_dawnIn 2 (some .int), Cond.methodLink RL 164 yL_quarterOf, Cond.static yL_quarterOf, Cond.codeWith yL_quarterOf cL_quarterOf 4 (some .int) [(0, 9, 12, 19)], Cond.methodLink RL 58 yX0_quarterOf, Cond.instanceMethod yX0_quarterOf, Cond.selects RX0 yX0_quarterOf yX0_quarterOf, Cond.code yX0_quarterOf cX0_quarterOf 2 (some .int), Cond.methodLink RL 166 yX1_quarterOf, Cond.instanceMethod yX1_quarterOf, Cond.selects RX1 yX1_quarterOf yX1_quarterOf, Cond.code yX1_quarterOf cX1_quarterOf 2 (some .int), Cond.methodLink RL 167 yL_colourOf, Cond.static yL_colourOf, Cond.codeWith yL_colourOf cL_colourOf 4 (some .int) [(0, 9, 12, 19)], Cond.methodLink RL 61 yX0_colourOf, Cond.instanceMethod yX0_colourOf, Cond.selects RX0 yX0_colourOf yX0_colourOf, Cond.code yX0_colourOf cX0_colourOf 2 (some .int)]
def wsL_law0_r16 : List Cond := [Cond.methodLink RL 169 yX1_colourOf, Cond.instanceMethod yX1_colourOf, Cond.selects RX1 yX1_colourOf yX1_colourOf, Cond.code yX1_colourOf cX1_colourOf 2 (some .int), Cond.methodLink RL 170 yL_isInForce, Cond.static yL_isInForce, Cond.codeWith yL_isInForce cL_isInForce 4 (some .int) [(0, 16, 19, 19)], Cond.methodLink RL 64 yX0_isInForce, Cond.instanceMethod yX0_isInForce, Cond.selects RX0 yX0_isInForce yX0_isInForce, Cond.code yX0_isInForce cX0_isInForce 2 (some .boolean), Cond.methodLink RL 172 yX1_isInForce, Cond.instanceMethod yX1_isInForce, Cond.selects RX1 yX1_isInForce yX1_isInForce, Cond.code yX1_isInForce cX1_isInForce 2 (some .boolean), Cond.methodLink RL 173 yL_isOn, Cond.static yL_isOn, Cond.codeWith yL_isOn cL_isOn 4 (some .int) [(0, 16, 19, 19)], Cond.methodLink RL 67 yX0_isOn, Cond.instanceMethod yX0_isOn, Cond.selects RX0 yX0_isOn yX0_isOn, Cond.code yX0_isOn cX0_isOn 2 (some .boolean), Cond.methodLink RL 175 yX1_isOn, Cond.instanceMethod yX1_isOn]
def wsL_law0_r17 : List Cond := [Cond.selects RX1 yX1_isOn yX1_isOn, Cond.code yX1_isOn cX1_isOn 2 (some .boolean), Cond.methodLink RL 176 yL_isExempt, Cond.static yL_isExempt, Cond.codeWith yL_isExempt cL_isExempt 5 (some .int) [(0, 17, 20, 19)], Cond.methodLink RL 70 yX0_isExempt, Cond.instanceMethod yX0_isExempt, Cond.selects RX0 yX0_isExempt yX0_isExempt, Cond.code yX0_isExempt cX0_isExempt 3 (some .boolean), Cond.methodLink RL 178 yX1_isExempt, Cond.instanceMethod yX1_isExempt, Cond.selects RX1 yX1_isExempt yX1_isExempt, Cond.code yX1_isExempt cX1_isExempt 3 (some .boolean), Cond.methodLink RL 179 yL_barredBy, Cond.static yL_barredBy, Cond.codeWith yL_barredBy cL_barredBy 4 (some .int) [(0, 9, 12, 19)], Cond.methodLink RL 73 yX0_barredBy, Cond.instanceMethod yX0_barredBy, Cond.selects RX0 yX0_barredBy yX0_barredBy, Cond.code yX0_barredBy cX0_barredBy 4 (some .int), Cond.methodLink RL 181 yX1_barredBy, Cond.instanceMethod yX1_barredBy, Cond.selects RX1 yX1_barredBy yX1_barredBy, Cond.code yX1_barredBy cX1_barredBy 2 (some .int)]
def wsL_law0_r18 : List Cond := [Cond.methodLink RX1 125 yX1_barred, Cond.instanceMethod yX1_barred, Cond.selects RX1 yX1_barred yX1_barred, Cond.code yX1_barred cX1_barred 4 (some .int), Cond.methodLink RL 182 yL_tradeOf, Cond.static yL_tradeOf, Cond.codeWith yL_tradeOf cL_tradeOf 4 (some .int) [(0, 9, 12, 19)], Cond.methodLink RL 76 yX0_tradeOf, Cond.instanceMethod yX0_tradeOf, Cond.selects RX0 yX0_tradeOf yX0_tradeOf, Cond.code yX0_tradeOf cX0_tradeOf 2 (some .int), Cond.methodLink RL 184 yX1_tradeOf, Cond.instanceMethod yX1_tradeOf, Cond.selects RX1 yX1_tradeOf yX1_tradeOf, Cond.code yX1_tradeOf cX1_tradeOf 2 (some .int), Cond.methodLink RL 185 yL_stampsOf, Cond.static yL_stampsOf, Cond.codeWith yL_stampsOf cL_stampsOf 5 (some .int) [(0, 10, 13, 19)], Cond.methodLink RL 79 yX0_stampsOf, Cond.instanceMethod yX0_stampsOf, Cond.selects RX0 yX0_stampsOf yX0_stampsOf, Cond.code yX0_stampsOf cX0_stampsOf 3 (some .int), Cond.methodLink RL 187 yX1_stampsOf, Cond.instanceMethod yX1_stampsOf]
def wsL_law0_r19 : List Cond := [Cond.selects RX1 yX1_stampsOf yX1_stampsOf, Cond.code yX1_stampsOf cX1_stampsOf 3 (some .int), Cond.methodLink RL 188 yL_owes, Cond.static yL_owes, Cond.codeWith yL_owes cL_owes 4 (some .int) [(0, 9, 12, 19)], Cond.methodLink RL 82 yX0_owes, Cond.instanceMethod yX0_owes, Cond.selects RX0 yX0_owes yX0_owes, Cond.code yX0_owes cX0_owes 2 (some .int), Cond.methodLink RL 190 yX1_owes, Cond.instanceMethod yX1_owes, Cond.selects RX1 yX1_owes yX1_owes, Cond.code yX1_owes cX1_owes 2 (some .int), Cond.methodLink RL 191 yL_timesFined, Cond.static yL_timesFined, Cond.codeWith yL_timesFined cL_timesFined 4 (some .int) [(0, 9, 12, 19)], Cond.methodLink RL 85 yX0_timesFined, Cond.instanceMethod yX0_timesFined, Cond.selects RX0 yX0_timesFined yX0_timesFined, Cond.code yX0_timesFined cX0_timesFined 2 (some .int), Cond.methodLink RL 193 yX1_timesFined, Cond.instanceMethod yX1_timesFined, Cond.selects RX1 yX1_timesFined yX1_timesFined, Cond.code yX1_timesFined cX1_timesFined 2 (some .int)]
def wsL_law0_r20 : List Cond := [Cond.methodLink RL 194 yL_ordersAgainst, Cond.static yL_ordersAgainst, Cond.codeWith yL_ordersAgainst cL_ordersAgainst 5 (some .int) [(0, 10, 13, 19)], Cond.methodLink RL 88 yX0_ordersAgainst, Cond.instanceMethod yX0_ordersAgainst, Cond.selects RX0 yX0_ordersAgainst yX0_ordersAgainst, Cond.code yX0_ordersAgainst cX0_ordersAgainst 5 (some .int), Cond.methodLink RL 196 yX1_ordersAgainst, Cond.instanceMethod yX1_ordersAgainst, Cond.selects RX1 yX1_ordersAgainst yX1_ordersAgainst, Cond.code yX1_ordersAgainst cX1_ordersAgainst 3 (some .int), Cond.methodLink RX1 128 yX1_against, Cond.instanceMethod yX1_against, Cond.selects RX1 yX1_against yX1_against, Cond.code yX1_against cX1_against 6 (some .int), Cond.methodLink RL 197 yL_mayGo, Cond.static yL_mayGo, Cond.codeWith yL_mayGo cL_mayGo 5 (some .int) [(0, 17, 20, 19)], Cond.methodLink RL 91 yX0_mayGo, Cond.instanceMethod yX0_mayGo, Cond.selects RX0 yX0_mayGo yX0_mayGo, Cond.code yX0_mayGo cX0_mayGo 3 (some .boolean), Cond.methodLink RX0 131 yX0_missing, Cond.instanceMethod yX0_missing]
def wsL_law0_r21 : List Cond := [Cond.selects RX0 yX0_missing yX0_missing, Cond.code yX0_missing cX0_missing 8 (some .int), Cond.methodLink RX0 187 Lib.Math.max.name, Cond.static Lib.Math.max.name, Cond.code Lib.Math.max.name Lib.Math.max.code 2 (some .int), Cond.methodLink RL 199 yX1_mayGo, Cond.instanceMethod yX1_mayGo, Cond.selects RX1 yX1_mayGo yX1_mayGo, Cond.code yX1_mayGo cX1_mayGo 3 (some .boolean), Cond.methodLink RX1 135 yX1_missing, Cond.instanceMethod yX1_missing, Cond.selects RX1 yX1_missing yX1_missing, Cond.code yX1_missing cX1_missing 5 (some .int), Cond.methodLink RX1 132 Lib.Math.max.name, Cond.methodLink RL 200 yL_stampsMissing, Cond.static yL_stampsMissing, Cond.codeWith yL_stampsMissing cL_stampsMissing 5 (some .int) [(0, 10, 13, 19)], Cond.methodLink RL 94 yX0_stampsMissing, Cond.instanceMethod yX0_stampsMissing, Cond.selects RX0 yX0_stampsMissing yX0_stampsMissing, Cond.code yX0_stampsMissing cX0_stampsMissing 3 (some .int), Cond.methodLink RL 202 yX1_stampsMissing, Cond.instanceMethod yX1_stampsMissing, Cond.selects RX1 yX1_stampsMissing yX1_stampsMissing]
def wsL_law0_r22 : List Cond := [Cond.code yX1_stampsMissing cX1_stampsMissing 3 (some .int), Cond.methodLink RL 203 yX0_quarters, Cond.instanceMethod yX0_quarters, Cond.selects RX0 yX0_quarters yX0_quarters, Cond.code yX0_quarters cX0_quarters 1 (some .int), Cond.methodLink RL 206 yX1_quarters, Cond.instanceMethod yX1_quarters, Cond.selects RX1 yX1_quarters yX1_quarters, Cond.code yX1_quarters cX1_quarters 1 (some .int), Cond.methodLink RL 207 yX0_orders, Cond.instanceMethod yX0_orders, Cond.selects RX0 yX0_orders yX0_orders, Cond.code yX0_orders cX0_orders 1 (some .int), Cond.methodLink RL 210 yX1_orders, Cond.instanceMethod yX1_orders, Cond.selects RX1 yX1_orders yX1_orders, Cond.code yX1_orders cX1_orders 1 (some .int), Cond.methodLink RL 211 yX0_people, Cond.instanceMethod yX0_people, Cond.selects RX0 yX0_people yX0_people, Cond.code yX0_people cX0_people 1 (some .int), Cond.methodLink RL 214 yX1_people, Cond.instanceMethod yX1_people, Cond.selects RX1 yX1_people yX1_people]
def wsL_law0_r23 : List Cond := [Cond.code yX1_people cX1_people 1 (some .int), Cond.methodLink RL 215 yX0_ordersOn, Cond.instanceMethod yX0_ordersOn, Cond.selects RX0 yX0_ordersOn yX0_ordersOn, Cond.code yX0_ordersOn cX0_ordersOn 3 (some .int), Cond.methodLink RL 218 yX1_ordersOn, Cond.instanceMethod yX1_ordersOn, Cond.selects RX1 yX1_ordersOn yX1_ordersOn, Cond.code yX1_ordersOn cX1_ordersOn 1 (some .int), Cond.methodLink RX1 138 yX1_manyOn, Cond.instanceMethod yX1_manyOn, Cond.selects RX1 yX1_manyOn yX1_manyOn, Cond.code yX1_manyOn cX1_manyOn 3 (some .int), Cond.methodLink RL 219 yX0_shift, Cond.instanceMethod yX0_shift, Cond.selects RX0 yX0_shift yX0_shift, Cond.code yX0_shift cX0_shift 1 (some .int), Cond.methodLink RL 222 yX1_shift, Cond.instanceMethod yX1_shift, Cond.selects RX1 yX1_shift yX1_shift, Cond.code yX1_shift cX1_shift 1 (some .int), Cond.methodLink RL 223 yX0_allOwe, Cond.instanceMethod yX0_allOwe, Cond.selects RX0 yX0_allOwe yX0_allOwe]
def wsL_law0_r24 : List Cond := [Cond.code yX0_allOwe cX0_allOwe 3 (some .int), Cond.methodLink RL 226 yX1_allOwe, Cond.instanceMethod yX1_allOwe, Cond.selects RX1 yX1_allOwe yX1_allOwe, Cond.code yX1_allOwe cX1_allOwe 1 (some .int), Cond.methodLink RX1 142 yX1_all, Cond.instanceMethod yX1_all, Cond.selects RX1 yX1_all yX1_all, Cond.code yX1_all cX1_all 3 (some .int), Cond.methodLink RL 227 yL_stampsUsed, Cond.static yL_stampsUsed, Cond.codeWith yL_stampsUsed cL_stampsUsed 4 (some .int) [(0, 9, 12, 19)], Cond.methodLink RL 97 yX0_stampsUsed, Cond.instanceMethod yX0_stampsUsed, Cond.selects RX0 yX0_stampsUsed yX0_stampsUsed, Cond.code yX0_stampsUsed cX0_stampsUsed 2 (some .int), Cond.methodLink RL 229 yX1_stampsUsed, Cond.instanceMethod yX1_stampsUsed, Cond.selects RX1 yX1_stampsUsed yX1_stampsUsed, Cond.code yX1_stampsUsed cX1_stampsUsed 2 (some .int), Cond.methodLink RL 230 yL_halfHoursUntilFree, Cond.static yL_halfHoursUntilFree, Cond.codeWith yL_halfHoursUntilFree cL_halfHoursUntilFree 5 (some .int) [(0, 10, 13, 19)], Cond.methodLink RL 100 yX0_halfHoursUntilFree]
def wsL_law0_r25 : List Cond := [Cond.instanceMethod yX0_halfHoursUntilFree, Cond.selects RX0 yX0_halfHoursUntilFree yX0_halfHoursUntilFree, Cond.code yX0_halfHoursUntilFree cX0_halfHoursUntilFree 4 (some .int), Cond.methodLink RX0 135 yX0_isFreeAt, Cond.instanceMethod yX0_isFreeAt, Cond.selects RX0 yX0_isFreeAt yX0_isFreeAt, Cond.code yX0_isFreeAt cX0_isFreeAt 5 (some .boolean), Cond.methodLink RL 232 yX1_halfHoursUntilFree, Cond.instanceMethod yX1_halfHoursUntilFree, Cond.selects RX1 yX1_halfHoursUntilFree yX1_halfHoursUntilFree, Cond.code yX1_halfHoursUntilFree cX1_halfHoursUntilFree 4 (some .int), Cond.methodLink RL 233 yL_halfHoursOn, Cond.static yL_halfHoursOn, Cond.codeWith yL_halfHoursOn cL_halfHoursOn 4 (some .int) [(0, 9, 12, 19)], Cond.methodLink RL 103 yX0_halfHoursOn, Cond.instanceMethod yX0_halfHoursOn, Cond.selects RX0 yX0_halfHoursOn yX0_halfHoursOn, Cond.code yX0_halfHoursOn cX0_halfHoursOn 4 (some .int), Cond.methodLink RL 235 yX1_halfHoursOn, Cond.instanceMethod yX1_halfHoursOn, Cond.selects RX1 yX1_halfHoursOn yX1_halfHoursOn, Cond.code yX1_halfHoursOn cX1_halfHoursOn 4 (some .int), Cond.methodLink RL 236 yX0_bestLift, Cond.instanceMethod yX0_bestLift]
def wsL_law0_r26 : List Cond := [Cond.selects RX0 yX0_bestLift yX0_bestLift, Cond.code yX0_bestLift cX0_bestLift 5 (some .int), Cond.methodLink RX0 142 yX0_pairsFreedBy, Cond.instanceMethod yX0_pairsFreedBy, Cond.selects RX0 yX0_pairsFreedBy yX0_pairsFreedBy, Cond.code yX0_pairsFreedBy cX0_pairsFreedBy 5 (some .int), Cond.methodLink RL 239 yX1_bestLift, Cond.instanceMethod yX1_bestLift, Cond.selects RX1 yX1_bestLift yX1_bestLift, Cond.code yX1_bestLift cX1_bestLift 5 (some .int), Cond.methodLink RX1 145 yX1_pairs, Cond.instanceMethod yX1_pairs, Cond.selects RX1 yX1_pairs yX1_pairs, Cond.code yX1_pairs cX1_pairs 4 (some .int), Cond.methodLink RL 240 yX0_meanDebt, Cond.instanceMethod yX0_meanDebt, Cond.selects RX0 yX0_meanDebt yX0_meanDebt, Cond.code yX0_meanDebt cX0_meanDebt 1 (some .double), Cond.methodLink RX0 145 yX0_allOwe, Cond.methodLink RL 244 yX1_meanDebt, Cond.instanceMethod yX1_meanDebt, Cond.selects RX1 yX1_meanDebt yX1_meanDebt, Cond.code yX1_meanDebt cX1_meanDebt 1 (some .double), Cond.methodLink RL 245 yX0_digest]
def wsL_law0_r27 : List Cond := [Cond.instanceMethod yX0_digest, Cond.selects RX0 yX0_digest yX0_digest, Cond.code yX0_digest cX0_digest 4 (some .long), Cond.constantLong RX0 148 (1879), Cond.methodLink RX0 150 yX0_fold, Cond.static yX0_fold, Cond.code yX0_fold cX0_fold 3 (some .long), Cond.constantLong RX0 182 (31), Cond.methodLink RX0 154 yX0_halfHour, Cond.methodLink RX0 157 yX0_duskIn, Cond.methodLink RX0 160 yX0_dawnIn, Cond.methodLink RX0 163 yX0_ordersOn, Cond.methodLink RX0 166 yX0_foldOrder, Cond.instanceMethod yX0_foldOrder, Cond.selects RX0 yX0_foldOrder yX0_foldOrder, Cond.code yX0_foldOrder cX0_foldOrder 7 (some .long), Cond.methodLink RX0 172 yX0_oneIf, Cond.static yX0_oneIf, Cond.code yX0_oneIf cX0_oneIf 1 (some .int), Cond.methodLink RX0 176 yX0_barredBy, Cond.methodLink RX0 169 yX0_foldPerson, Cond.instanceMethod yX0_foldPerson, Cond.selects RX0 yX0_foldPerson yX0_foldPerson, Cond.code yX0_foldPerson cX0_foldPerson 7 (some .long)]
def wsL_law0_r28 : List Cond := [Cond.methodLink RX0 179 yX0_ordersAgainst, Cond.methodLink RL 249 yX1_digest, Cond.instanceMethod yX1_digest, Cond.selects RX1 yX1_digest yX1_digest, Cond.code yX1_digest cX1_digest 9 (some .long), Cond.constantLong RX1 148 (1879), Cond.constantLong RX1 150 (31)]
def wsL_law0 : List Cond := (wsL_law0_r1 ++ (wsL_law0_r2 ++ (wsL_law0_r3 ++ (wsL_law0_r4 ++ (wsL_law0_r5 ++ (wsL_law0_r6 ++ (wsL_law0_r7 ++ (wsL_law0_r8 ++ (wsL_law0_r9 ++ (wsL_law0_r10 ++ (wsL_law0_r11 ++ (wsL_law0_r12 ++ (wsL_law0_r13 ++ (wsL_law0_r14 ++ (wsL_law0_r15 ++ (wsL_law0_r16 ++ (wsL_law0_r17 ++ (wsL_law0_r18 ++ (wsL_law0_r19 ++ (wsL_law0_r20 ++ (wsL_law0_r21 ++ (wsL_law0_r22 ++ (wsL_law0_r23 ++ (wsL_law0_r24 ++ (wsL_law0_r25 ++ (wsL_law0_r26 ++ (wsL_law0_r27 ++ wsL_law0_r28))))))))))))))))))))))))))) ++ wsX00 ++ wsX10 ++ ([] : List Cond)
def wsL_law : List Cond := wsL_law0 ++ (vx_atS RX0 52 "java/lang/IllegalStateException" ["java/lang/RuntimeException", "java/lang/Exception"]).filter goodWord ++ (vx_atS RX0 194 "java/lang/IndexOutOfBoundsException" ["java/lang/RuntimeException", "java/lang/Exception"]).filter goodWord ++ (vx_atS RX0 207 "java/lang/IllegalArgumentException" ["java/lang/RuntimeException", "java/lang/Exception"]).filter goodWord
abbrev vwCl : List vw_C := [(RX0, TX0, 16), (RX1, TX1, 18)]
end
section
section STA
/-- the desk's cells: its object h, its arrays a 0 .. a 10 with contents F 0 .. F 10 -/
def Dk (cI cZ : ClassId) (h : Nat) (a : Nat → Nat) (F : Nat → Nat → Int32) (nq no np sh nw : Int32) : va_W := [
  (h, .inr (0, [.ref (a 0), .ref (a 1), .ref (a 2), .ref (a 3), .ref (a 4), .ref (a 5), .ref (a 6), .ref (a 7), .ref (a 8), .ref (a 9), .ref (a 10), .int nq, .int no, .int np, .int sh, .int nw])),
  (a 0, .inl (cI, 10, .inl (F 0))), (a 1, .inl (cI, 10, .inl (F 1))), (a 2, .inl (cI, 10, .inl (F 2))), (a 3, .inl (cI, 10, .inl (F 3))), (a 4, .inl (cZ, 10, .inl (F 4))), (a 5, .inl (cI, 10, .inl (F 5))),
  (a 6, .inl (cI, 20, .inl (F 6))), (a 7, .inl (cI, 20, .inl (F 7))), (a 8, .inl (cI, 20, .inl (F 8))), (a 9, .inl (cI, 80, .inl (F 9))), (a 10, .inl (cI, 4, .inl (F 10)))]
/-- the reference's cells: the same contents in its own order, and two things of its own: thrown, wanted -/
def Mk (cI cZ : ClassId) (h : Nat) (a : Nat → Nat) (F : Nat → Nat → Int32) (nq no np sh nw th : Int32) (wt : Nat → Int32) : va_W := [
  (h, .inr (1, [.int th, .int nw, .int sh, .int nq, .int no, .int np, .ref (a 0), .ref (a 1), .ref (a 2), .ref (a 3), .ref (a 5), .ref (a 4), .ref (a 6), .ref (a 7), .ref (a 8), .ref (a 9), .ref (a 10), .ref (a 11)])),
  (a 0, .inl (cI, 10, .inl (F 0))), (a 1, .inl (cI, 10, .inl (F 1))), (a 2, .inl (cI, 10, .inl (F 2))), (a 3, .inl (cI, 10, .inl (F 3))), (a 4, .inl (cZ, 10, .inl (F 4))), (a 5, .inl (cI, 10, .inl (F 5))),
  (a 6, .inl (cI, 20, .inl (F 6))), (a 7, .inl (cI, 20, .inl (F 7))), (a 8, .inl (cI, 20, .inl (F 8))), (a 9, .inl (cI, 80, .inl (F 9))), (a 10, .inl (cI, 4, .inl (F 10))), (a 11, .inl (cI, 4, .inl wt))]
abbrev ty2 (cI cZ : ClassId) : List (ClassId × FieldType) := [(cI, .int), (cZ, .boolean)]
/-- a world at a state -/
def wP (G : va_G) (tys : List (ClassId × FieldType)) (ww : va_W) (A : Nat → Prop) (t : State) : Prop := va_P G vwCl ww t.heap ∧ va_K G vwCl tys t ∧ va_D A ww
/-- a method's start over a world -/
def wPre (G : va_G) (tys : List (ClassId × FieldType)) (ww : va_W) (sz : Nat) (U : State) : Prop := U.heap.size = sz ∧ va_P G vwCl ww U.heap ∧ va_K G vwCl tys U ∧ va_D (fun _ => True) ww
theorem wPre_blind {G : va_G} {tys : List (ClassId × FieldType)} {ww : va_W} {sz : Nat} {vs : List Value} : FrameBlind (va_Pc vs (wPre G tys ww sz)) := by
  intro a U g mk q
  obtain ⟨q0, q1, qP, qK, qD⟩ := q
  exact ⟨q0, q1, qP, va_K.moved (u := U) (U := U.calling g mk a) (Vm.Alike.refl U.vm) qK, qD⟩
theorem w_pre {s : State} {H : Heap} {G : va_G} {tys : List (ClassId × FieldType)} {ww : va_W} {A : Nat → Prop} {vs : List Value} (hK : va_K G vwCl tys s) (hP : va_P G vwCl ww H) (hD : va_D A ww) : ∀ U : State, U.heap = H → s.WarmedH U.vm → va_Pc vs (wPre G tys ww H.size) vs.toArray U :=
  fun U hU hW => ⟨rfl, by rw [hU], by rw [hU]; exact hP, va_K.moved hW.alike hK, hD.weaken (fun _ _ _ _ => trivial)⟩
/-- the start of a method's walk -/
theorem w_met {l : Launch} {y : MethodName} {ws ws' : List Cond} {rm : Room} {Qc : Array Value → State → Outcome → State → Prop} {mc ms : Nat} {cc : ByteArray} {maxL : Nat} {ret : Option FieldType} {G : va_G} {tys : List (ClassId × FieldType)} {ww : va_W} {sz : Nat} {vs : List Value}
    (hy : plainName y.cls = true) (hw : ws = Cond.code y cc maxL ret :: ws') (hn : (lg_sl vs).length ≤ maxL)
    (body : ∀ (p : Program) (e : Env) (s : State) (m : MethodId) (below : List Frame) (meth : Method) (c : Code), p.tables.exec = Jvm.exec → c.code = cc → c.maxLocals = maxL → meth.sig.returnType = ret → (∀ w ∈ ws, w.before vs.toArray s = true) → s.vm.findClass y.cls = some m.cls → meth.locks = false → meth.name = y.name →
      va_K G vwCl tys s → s.heap.size = sz → va_P G vwCl ww s.heap → va_D (va_A ww sz) ww → (∀ q : Nat, s.heap.size ≤ q → va_A ww sz q) → va_S (va_A ww sz) s.heap s.heap [] → ∀ ls : Array Slot, lv_has ls maxL (lv_args 0 vs) →
      W p l e rm s m vs.toArray below meth c s.heap [] 0 0 (MQ below Qc vs.toArray s mc ms (va_A ww sz)) (F0 m 0 ls [])) :
    Met l y ws rm (va_Pc vs (wPre G tys ww sz)) Qc mc ms (va_A ww sz) := by
  refine Met.ofW (cc := cc) (maxL := maxL) (ret := ret) hy hw ?_
  intro p e s m args below meth c s₁ B hml hv
  obtain ⟨rfl, hsz, hP, hK, hD0⟩ := hv
  have hts := atoms_spec (ws := ws) B.pre
  have hl := lv_entry vs (n := maxL) hn
  rw [lg_entry_eq]
  generalize (lg_sl vs ++ List.replicate (maxL - (lg_sl vs).length) Slot.unset).toArray = ls at hl ⊢
  exact body p e s m below meth c B.exec B.bytes hml B.returns hts (findClass_of_methodNamed B.named) B.notSynchronized (name_of_methodNamed B.named B.method).1 hK hsz hP (hD0.self (sz := sz)) (fun q h => Or.inr (by rw [← hsz]; exact h)) va_S.rf ls hl
section WK
variable {p : Program} {l : Launch} {e : Env} {R : Room} {s : State} {m : MethodId} {args : Array Value} {below : List Frame} {meth : Method} {c : Code} {H : Heap} {locs : List Loc} {cells slots : Nat} {Q : State → Prop}
variable {cc : ByteArray} {pc : Nat} {ls : Array Slot} {rest st0 : List Value} {G : va_G} {tys tysC : List (ClassId × FieldType)} {ww wc wr : va_W} {A : Nat → Prop} {H0 : Heap} {mc ms : Nat} {aa : Array Value}
theorem w_free (hD : va_D A ww) (hS : va_S A H0 H locs) (hA : ∀ q : Nat, H0.size ≤ q → A q) : ∀ q, va_A ww H.size q → A q := fun q h => by
  rcases h with ⟨k, e, hk⟩ | h
  · exact hD.2 k _ hk
  · exact hA q (Nat.le_trans hS.1 h)
/-! ends -/
theorem w_iret {S : Type} {post : Int32 → S → Prop} {w1 : S → va_W} {v : Int32} (u : S) (hx : p.tables.exec = Jvm.exec) (hb : c.code = cc) (hr : meth.sig.returnType = some .int) (hlocks : meth.locks = false)
    (hK : va_K G vwCl tys s) (hP : va_P G vwCl (w1 u) H) (hD : va_D A (w1 u)) (hS : va_S A s.heap H locs) (hc : cells ≤ mc) (hs : slots ≤ ms) (hdg : decode cc pc = .ok (.ireturn, 1)) (hq : post v u) :
    W p l e R s m args below meth c H locs cells slots (MQ below (va_Qi post (fun u => wP G tys (w1 u) A) A) args s mc ms A) (F0 m pc ls [.int v]) :=
  W.widen hc hs (W.iret hx hb hr (fun t ht hW => ⟨⟨v, u, rfl, hq, by rw [ht]; exact hP, va_K.moved hW.alike hK, hD⟩, hS.F ht⟩) hS.2.2 hdg hlocks)
theorem w_zret {S : Type} {post : Int32 → S → Prop} {w1 : S → va_W} {v : Int32} (u : S) (hx : p.tables.exec = Jvm.exec) (hb : c.code = cc) (hr : meth.sig.returnType = some .boolean) (hlocks : meth.locks = false)
    (hK : va_K G vwCl tys s) (hP : va_P G vwCl (w1 u) H) (hD : va_D A (w1 u)) (hS : va_S A s.heap H locs) (hc : cells ≤ mc) (hs : slots ≤ ms) (hdg : decode cc pc = .ok (.ireturn, 1)) (hn : narrow .boolean (.int v) = .int v) (hq : post v u) :
    W p l e R s m args below meth c H locs cells slots (MQ below (va_Qi post (fun u => wP G tys (w1 u) A) A) args s mc ms A) (F0 m pc ls [.int v]) :=
  W.widen hc hs (W.zret hx hb hr hn (fun t ht hW => ⟨⟨v, u, rfl, hq, by rw [ht]; exact hP, va_K.moved hW.alike hK, hD⟩, hS.F ht⟩) hS.2.2 hdg hlocks)
theorem w_lret {S : Type} {post : Int64 → S → Prop} {w1 : S → va_W} {v : Int64} (u : S) (hx : p.tables.exec = Jvm.exec) (hb : c.code = cc) (hr : meth.sig.returnType = some .long) (hlocks : meth.locks = false)
    (hK : va_K G vwCl tys s) (hP : va_P G vwCl (w1 u) H) (hD : va_D A (w1 u)) (hS : va_S A s.heap H locs) (hc : cells ≤ mc) (hs : slots ≤ ms) (hdg : decode cc pc = .ok (.lreturn, 1)) (hq : post v u) :
    W p l e R s m args below meth c H locs cells slots (MQ below (va_Ql post (fun u => wP G tys (w1 u) A) A) args s mc ms A) (F0 m pc ls [.long v]) :=
  W.widen hc hs (W.lret hx hb hr (fun t ht hW => ⟨⟨v, u, rfl, hq, by rw [ht]; exact hP, va_K.moved hW.alike hK, hD⟩, hS.F ht⟩) hS.2.2 hdg hlocks)
theorem w_dret {S : Type} {post : UInt64 → S → Prop} {w1 : S → va_W} {v : UInt64} (u : S) (hx : p.tables.exec = Jvm.exec) (hb : c.code = cc) (hr : meth.sig.returnType = some .double) (hlocks : meth.locks = false)
    (hK : va_K G vwCl tys s) (hP : va_P G vwCl (w1 u) H) (hD : va_D A (w1 u)) (hS : va_S A s.heap H locs) (hc : cells ≤ mc) (hs : slots ≤ ms) (hdg : decode cc pc = .ok (.dreturn, 1)) (hq : post v u) :
    W p l e R s m args below meth c H locs cells slots (MQ below (va_Qd post (fun u => wP G tys (w1 u) A) A) args s mc ms A) (F0 m pc ls [.double v]) :=
  W.widen hc hs (W.dret hx hb hr (fun t ht hW => ⟨⟨v, u, rfl, hq, by rw [ht]; exact hP, va_K.moved hW.alike hK, hD⟩, hS.F ht⟩) hS.2.2 hdg hlocks)
theorem w_vret {S : Type} {post : S → Prop} {w1 : S → va_W} (u : S) (hx : p.tables.exec = Jvm.exec) (hb : c.code = cc) (hr : meth.sig.returnType = none) (hlocks : meth.locks = false)
    (hK : va_K G vwCl tys s) (hP : va_P G vwCl (w1 u) H) (hD : va_D A (w1 u)) (hS : va_S A s.heap H locs) (hc : cells ≤ mc) (hs : slots ≤ ms) (hdg : decode cc pc = .ok (.return_, 1)) (hq : post u) :
    W p l e R s m args below meth c H locs cells slots (MQ below (va_Qv post (fun u => wP G tys (w1 u) A) A) args s mc ms A) (F0 m pc ls []) :=
  W.widen hc hs (W.vret hx hb hr (fun t ht hW => ⟨⟨u, rfl, hq, by rw [ht]; exact hP, va_K.moved hW.alike hK, hD⟩, hS.F ht⟩) hS.2.2 hdg hlocks)
/-! calls over the whole world -/
theorem w_in_i {S : Type} {post : Int32 → S → Prop} {w1 : S → va_W} (hr : va_Run p l e R s m args below meth c H locs cells slots mc ms (F0 m pc ls st0) rest (va_Qi post (fun u => wP G tys (w1 u) (va_A ww H.size)) (va_A ww H.size) aa) (va_A ww H.size))
    (hD : va_D A ww) (hS : va_S A H0 H locs) (hA : ∀ q : Nat, H0.size ≤ q → A q)
    (kk : ∀ (r : Int32) (u : S) (H1 : Heap) (locs1 : List Loc), post r u → va_P G vwCl (w1 u) H1 → va_D A (w1 u) → va_S A H0 H1 locs1 → W p l e R s m args below meth c H1 locs1 (cells + mc) (slots + ms) Q (F0 m (pc + 3) ls (.int r :: rest))) : W p l e R s m args below meth c H locs cells slots Q (F0 m pc ls st0) := by
  have hF := w_free hD hS hA
  refine va_calli hr hS (fun q _ h => hF q h) hF (fun r u t H1 locs1 ht hvm hw hB hz hk hS1 => ?_)
  obtain ⟨hP1, hK1, hD1⟩ := hB
  rw [ht] at hP1
  exact kk r u H1 locs1 hw hP1 (hD1.weaken (fun _ _ _ h => hF _ h)) hS1
theorem w_in_l {S : Type} {post : Int64 → S → Prop} {w1 : S → va_W} (hr : va_Run p l e R s m args below meth c H locs cells slots mc ms (F0 m pc ls st0) rest (va_Ql post (fun u => wP G tys (w1 u) (va_A ww H.size)) (va_A ww H.size) aa) (va_A ww H.size))
    (hD : va_D A ww) (hS : va_S A H0 H locs) (hA : ∀ q : Nat, H0.size ≤ q → A q)
    (kk : ∀ (r : Int64) (u : S) (H1 : Heap) (locs1 : List Loc), post r u → va_P G vwCl (w1 u) H1 → va_D A (w1 u) → va_S A H0 H1 locs1 → W p l e R s m args below meth c H1 locs1 (cells + mc) (slots + ms) Q (F0 m (pc + 3) ls (.long r :: rest))) : W p l e R s m args below meth c H locs cells slots Q (F0 m pc ls st0) := by
  have hF := w_free hD hS hA
  refine va_calll hr hS (fun q _ h => hF q h) hF (fun r u t H1 locs1 ht hvm hw hB hz hk hS1 => ?_)
  obtain ⟨hP1, hK1, hD1⟩ := hB
  rw [ht] at hP1
  exact kk r u H1 locs1 hw hP1 (hD1.weaken (fun _ _ _ h => hF _ h)) hS1
theorem w_in_v {S : Type} {post : S → Prop} {w1 : S → va_W} (hr : va_Run p l e R s m args below meth c H locs cells slots mc ms (F0 m pc ls st0) rest (va_Qv post (fun u => wP G tys (w1 u) (va_A ww H.size)) (va_A ww H.size) aa) (va_A ww H.size))
    (hD : va_D A ww) (hS : va_S A H0 H locs) (hA : ∀ q : Nat, H0.size ≤ q → A q)
    (kk : ∀ (u : S) (H1 : Heap) (locs1 : List Loc), post u → va_P G vwCl (w1 u) H1 → va_D A (w1 u) → va_S A H0 H1 locs1 → W p l e R s m args below meth c H1 locs1 (cells + mc) (slots + ms) Q (F0 m (pc + 3) ls rest)) : W p l e R s m args below meth c H locs cells slots Q (F0 m pc ls st0) := by
  have hF := w_free hD hS hA
  refine va_callv hr hS (fun q _ h => hF q h) hF (fun u t H1 locs1 ht hvm hw hB hz hk hS1 => ?_)
  obtain ⟨hP1, hK1, hD1⟩ := hB
  rw [ht] at hP1
  exact kk u H1 locs1 hw hP1 (hD1.weaken (fun _ _ _ h => hF _ h)) hS1
/-! calls of static methods without a world -/
theorem w_keep0 (hP : va_P G vwCl ww H) {H1 : Heap} (hk : ∀ q : Nat, q < H.size → ¬ va_A [] H.size q → H1[q]? = H[q]?) : va_P G vwCl ww H1 := hP.kept (fun k q hq => hk q.1 ((hP k q hq).lt) (fun h => by
  rcases h with ⟨k, e, hk⟩ | h
  · simp at hk
  · exact absurd ((hP _ q hq).lt) (Nat.not_lt.mpr h)))
theorem w_free0 (hS : va_S A H0 H locs) (hA : ∀ q : Nat, H0.size ≤ q → A q) : ∀ q, va_A [] H.size q → A q := fun q h => by
  rcases h with ⟨k, e, hk⟩ | h
  · simp at hk
  · exact hA q (Nat.le_trans hS.1 h)
theorem w_st_i {S : Type} {post : Int32 → S → Prop} {B : S → State → Prop} (hr : va_Run p l e R s m args below meth c H locs cells slots mc ms (F0 m pc ls st0) rest (va_Qi post B (va_A [] H.size) aa) (va_A [] H.size))
    (hP : va_P G vwCl ww H) (hS : va_S A H0 H locs) (hA : ∀ q : Nat, H0.size ≤ q → A q)
    (kk : ∀ (r : Int32) (u : S) (H1 : Heap) (locs1 : List Loc), post r u → va_P G vwCl ww H1 → va_S A H0 H1 locs1 → W p l e R s m args below meth c H1 locs1 (cells + mc) (slots + ms) Q (F0 m (pc + 3) ls (.int r :: rest))) : W p l e R s m args below meth c H locs cells slots Q (F0 m pc ls st0) := by
  have hF := w_free0 hS hA
  exact va_calli hr hS (fun q _ h => hF q h) hF (fun r u t H1 locs1 ht hvm hw hB hz hk hS1 => kk r u H1 locs1 hw (w_keep0 hP hk) hS1)
theorem w_st_l {S : Type} {post : Int64 → S → Prop} {B : S → State → Prop} (hr : va_Run p l e R s m args below meth c H locs cells slots mc ms (F0 m pc ls st0) rest (va_Ql post B (va_A [] H.size) aa) (va_A [] H.size))
    (hP : va_P G vwCl ww H) (hS : va_S A H0 H locs) (hA : ∀ q : Nat, H0.size ≤ q → A q)
    (kk : ∀ (r : Int64) (u : S) (H1 : Heap) (locs1 : List Loc), post r u → va_P G vwCl ww H1 → va_S A H0 H1 locs1 → W p l e R s m args below meth c H1 locs1 (cells + mc) (slots + ms) Q (F0 m (pc + 3) ls (.long r :: rest))) : W p l e R s m args below meth c H locs cells slots Q (F0 m pc ls st0) := by
  have hF := w_free0 hS hA
  exact va_calll hr hS (fun q _ h => hF q h) hF (fun r u t H1 locs1 ht hvm hw hB hz hk hS1 => kk r u H1 locs1 hw (w_keep0 hP hk) hS1)
theorem w_st_v {S : Type} {post : S → Prop} {B : S → State → Prop} (hr : va_Run p l e R s m args below meth c H locs cells slots mc ms (F0 m pc ls st0) rest (va_Qv post B (va_A [] H.size) aa) (va_A [] H.size))
    (hP : va_P G vwCl ww H) (hS : va_S A H0 H locs) (hA : ∀ q : Nat, H0.size ≤ q → A q)
    (kk : ∀ (u : S) (H1 : Heap) (locs1 : List Loc), post u → va_P G vwCl ww H1 → va_S A H0 H1 locs1 → W p l e R s m args below meth c H1 locs1 (cells + mc) (slots + ms) Q (F0 m (pc + 3) ls rest)) : W p l e R s m args below meth c H locs cells slots Q (F0 m pc ls st0) := by
  have hF := w_free0 hS hA
  exact va_callv hr hS (fun q _ h => hF q h) hF (fun u t H1 locs1 ht hvm hw hB hz hk hS1 => kk u H1 locs1 hw (w_keep0 hP hk) hS1)
/-- x ? a : b over two int constants -/
theorem w_selE {x v1 v2 : Int32} {off off3 n1 n2 : Int} (hx : p.tables.exec = Jvm.exec) (hb : c.code = cc) (d0 : decode cc pc = .ok (.ifCond .eq off, 3)) (t0 : (pc : Int) + off = ((pc + 7 : Nat) : Int)) (d1 : decode cc (pc + 3) = .ok (.iconst n1, 1)) (e1 : Int32.ofInt n1 = v1) (d2 : decode cc (pc + 4) = .ok (.goto off3, 3)) (t2 : ((pc + 4 : Nat) : Int) + off3 = ((pc + 8 : Nat) : Int)) (d3 : decode cc (pc + 7) = .ok (.iconst n2, 1)) (e2 : Int32.ofInt n2 = v2)
    (kk : W p l e R s m args below meth c H locs cells slots Q (F0 m (pc + 8) ls (.int (if x = 0 then v2 else v1) :: rest))) : W p l e R s m args below meth c H locs cells slots Q (F0 m pc ls (.int x :: rest)) := by
  refine lv_if_eq hx hb d0 t0 (fun h => ?_) (fun h => ?_)
  · rw [if_pos h] at kk
    exact lv_iconst hx hb d3 e2 kk
  · rw [if_neg h] at kk
    exact lv_iconst hx hb d1 e1 (lv_goto hx hb d2 t2 kk)
end WK
end STA
end
