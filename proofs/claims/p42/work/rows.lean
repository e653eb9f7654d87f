section
-- ===== PART A: goes FIRST, ahead of the names: the tables' words, and 'selects' of the private methods out of them =====
/-- a private method of a class that the tables say can be made, by its rows of tables_1 -/
def lw_okq (q : MethodName × Nat) : Prop := (q.1.cls ≠ "java/lang/invoke/MethodHandle" ∧ q.1.cls ≠ "java/lang/invoke/VarHandle") ∧ Cond.instantiable q.1.cls q.2 ∈ tables_1 ∧ Cond.privateMethod q.1 ∈ tables_1 ∧ Cond.instanceMethod q.1 ∈ tables_1
theorem lw_p0 : lw_okq (⟨"java/lang/Throwable", "fillInStackTrace", "(I)Ljava/lang/Throwable;"⟩, 6) := ⟨⟨by decide +kernel, by decide +kernel⟩, List.mem_of_getElem? (i := 119) (by decide +kernel), List.mem_of_getElem? (i := 117) (by decide +kernel), List.mem_of_getElem? (i := 118) (by decide +kernel)⟩
theorem lw_p1 : lw_okq (⟨"CurfewDesk", "duskOf", "(I)I"⟩, 16) := ⟨⟨by decide +kernel, by decide +kernel⟩, List.mem_of_getElem? (i := 11) (by decide +kernel), List.mem_of_getElem? (i := 153) (by decide +kernel), List.mem_of_getElem? (i := 154) (by decide +kernel)⟩
theorem lw_p2 : lw_okq (⟨"CurfewDesk", "requireOrder", "(I)V"⟩, 16) := ⟨⟨by decide +kernel, by decide +kernel⟩, List.mem_of_getElem? (i := 11) (by decide +kernel), List.mem_of_getElem? (i := 171) (by decide +kernel), List.mem_of_getElem? (i := 172) (by decide +kernel)⟩
theorem lw_p3 : lw_okq (⟨"CurfewDesk", "isOnAt", "(II)Z"⟩, 16) := ⟨⟨by decide +kernel, by decide +kernel⟩, List.mem_of_getElem? (i := 11) (by decide +kernel), List.mem_of_getElem? (i := 195) (by decide +kernel), List.mem_of_getElem? (i := 196) (by decide +kernel)⟩
theorem lw_p4 : lw_okq (⟨"CurfewDesk", "isInHours", "(II)Z"⟩, 16) := ⟨⟨by decide +kernel, by decide +kernel⟩, List.mem_of_getElem? (i := 11) (by decide +kernel), List.mem_of_getElem? (i := 199) (by decide +kernel), List.mem_of_getElem? (i := 200) (by decide +kernel)⟩
theorem lw_p5 : lw_okq (⟨"CurfewDesk", "exempts", "(II)Z"⟩, 16) := ⟨⟨by decide +kernel, by decide +kernel⟩, List.mem_of_getElem? (i := 11) (by decide +kernel), List.mem_of_getElem? (i := 211) (by decide +kernel), List.mem_of_getElem? (i := 212) (by decide +kernel)⟩
theorem lw_p6 : lw_okq (⟨"CurfewDesk", "bars", "(IIII)Z"⟩, 16) := ⟨⟨by decide +kernel, by decide +kernel⟩, List.mem_of_getElem? (i := 11) (by decide +kernel), List.mem_of_getElem? (i := 219) (by decide +kernel), List.mem_of_getElem? (i := 220) (by decide +kernel)⟩
theorem lw_p7 : lw_okq (⟨"CurfewDesk", "requirePerson", "(I)V"⟩, 16) := ⟨⟨by decide +kernel, by decide +kernel⟩, List.mem_of_getElem? (i := 11) (by decide +kernel), List.mem_of_getElem? (i := 227) (by decide +kernel), List.mem_of_getElem? (i := 228) (by decide +kernel)⟩
theorem lw_p8 : lw_okq (⟨"CurfewDesk", "requireQuarter", "(I)V"⟩, 16) := ⟨⟨by decide +kernel, by decide +kernel⟩, List.mem_of_getElem? (i := 11) (by decide +kernel), List.mem_of_getElem? (i := 255) (by decide +kernel), List.mem_of_getElem? (i := 256) (by decide +kernel)⟩
theorem lw_p9 : lw_okq (⟨"CurfewDesk", "missing", "(III)I"⟩, 16) := ⟨⟨by decide +kernel, by decide +kernel⟩, List.mem_of_getElem? (i := 11) (by decide +kernel), List.mem_of_getElem? (i := 264) (by decide +kernel), List.mem_of_getElem? (i := 265) (by decide +kernel)⟩
theorem lw_p10 : lw_okq (⟨"CurfewDesk", "isFreeAt", "(III)Z"⟩, 16) := ⟨⟨by decide +kernel, by decide +kernel⟩, List.mem_of_getElem? (i := 11) (by decide +kernel), List.mem_of_getElem? (i := 303) (by decide +kernel), List.mem_of_getElem? (i := 304) (by decide +kernel)⟩
theorem lw_p11 : lw_okq (⟨"CurfewDesk", "useStamp", "(II)Z"⟩, 16) := ⟨⟨by decide +kernel, by decide +kernel⟩, List.mem_of_getElem? (i := 11) (by decide +kernel), List.mem_of_getElem? (i := 451) (by decide +kernel), List.mem_of_getElem? (i := 452) (by decide +kernel)⟩
theorem lw_p12 : lw_okq (⟨"CurfewDesk", "fineOnce", "(I)I"⟩, 16) := ⟨⟨by decide +kernel, by decide +kernel⟩, List.mem_of_getElem? (i := 11) (by decide +kernel), List.mem_of_getElem? (i := 455) (by decide +kernel), List.mem_of_getElem? (i := 456) (by decide +kernel)⟩
theorem lw_p13 : lw_okq (⟨"CurfewDesk", "timesBegun", "(II)I"⟩, 16) := ⟨⟨by decide +kernel, by decide +kernel⟩, List.mem_of_getElem? (i := 11) (by decide +kernel), List.mem_of_getElem? (i := 467) (by decide +kernel), List.mem_of_getElem? (i := 468) (by decide +kernel)⟩
def lw_privs_1 : List (MethodName × Nat) := [(⟨"java/lang/Throwable", "fillInStackTrace", "(I)Ljava/lang/Throwable;"⟩, 6), (⟨"CurfewDesk", "duskOf", "(I)I"⟩, 16), (⟨"CurfewDesk", "requireOrder", "(I)V"⟩, 16), (⟨"CurfewDesk", "isOnAt", "(II)Z"⟩, 16), (⟨"CurfewDesk", "isInHours", "(II)Z"⟩, 16), (⟨"CurfewDesk", "exempts", "(II)Z"⟩, 16), (⟨"CurfewDesk", "bars", "(IIII)Z"⟩, 16), (⟨"CurfewDesk", "requirePerson", "(I)V"⟩, 16), (⟨"CurfewDesk", "requireQuarter", "(I)V"⟩, 16), (⟨"CurfewDesk", "missing", "(III)I"⟩, 16), (⟨"CurfewDesk", "isFreeAt", "(III)Z"⟩, 16), (⟨"CurfewDesk", "useStamp", "(II)Z"⟩, 16), (⟨"CurfewDesk", "fineOnce", "(I)I"⟩, 16), (⟨"CurfewDesk", "timesBegun", "(II)I"⟩, 16)]
theorem lw_r1 : ∀ q ∈ lw_privs_1, lw_okq q := List.forall_mem_cons.mpr ⟨lw_p0, List.forall_mem_cons.mpr ⟨lw_p1, List.forall_mem_cons.mpr ⟨lw_p2, List.forall_mem_cons.mpr ⟨lw_p3, List.forall_mem_cons.mpr ⟨lw_p4, List.forall_mem_cons.mpr ⟨lw_p5, List.forall_mem_cons.mpr ⟨lw_p6, List.forall_mem_cons.mpr ⟨lw_p7, List.forall_mem_cons.mpr ⟨lw_p8, List.forall_mem_cons.mpr ⟨lw_p9, List.forall_mem_cons.mpr ⟨lw_p10, List.forall_mem_cons.mpr ⟨lw_p11, List.forall_mem_cons.mpr ⟨lw_p12, List.forall_mem_cons.mpr ⟨lw_p13, fun _ h => absurd h List.not_mem_nil⟩⟩⟩⟩⟩⟩⟩⟩⟩⟩⟩⟩⟩⟩
def lw_privs : List (MethodName × Nat) := lw_privs_1
def lw_tbl : List Cond := k2_sels lw_privs ++ tables_1
theorem lw_privs_ok : ∀ q ∈ lw_privs, lw_okq q := lw_r1
/-- the streams that the claim lets the run draw from -/
abbrev lw_cs : List Choice := [Jvm.Choice.named "NaN.bits"]
theorem lw_bits : nanBits ∈ lw_cs := by first | decide | exact List.mem_cons_self | simp [lw_cs, nanBits]
-- ===== end of PART A; then your names; then what follows =====
end
section
/-! a word that the printed names use and no file of the kit defines: an array class over arrays is there -/
def va_AOA (t : FieldType) (U : State) : Prop := (Cond.arrayOver (.array t)).before #[] U = true
theorem va_AOA.use {t : FieldType} {A : Array Value} {U : State} (h : va_AOA t U) : (Cond.arrayOver (.array t)).before A U = true := h
theorem va_AOA.of {t : FieldType} {A : Array Value} {U : State} (h : (Cond.arrayOver (.array t)).before A U = true) : va_AOA t U := h
end
section
/-! ===== BEGIN words of one list among another's, by their places ===== -/
theorem goodIn_r {big : List Cond} (ws : List Cond) (ps : List Nat) (hp : ws = ps.filterMap (fun i => big[i]?)) (h : ws.all goodWord = true) : GoodIn big ws := by
  intro w hw
  have h1 := List.all_eq_true.mp h w hw
  rw [hp] at hw
  obtain ⟨i, -, hi⟩ := List.mem_filterMap.mp hw
  have hm : w ∈ big := by first | exact List.mem_of_getElem? hi | exact List.getElem?_mem hi
  exact ⟨hm, good_of_word h1⟩
theorem goodIn_app {big a b : List Cond} (ha : GoodIn big a) (hb : GoodIn big b) : GoodIn big (a ++ b) := fun w h => (List.mem_append.mp h).elim (ha w) (hb w)
theorem goodIn_ca {big a b : List Cond} {c : Cond} (ha : GoodIn big (c :: a)) (hb : GoodIn big b) : GoodIn big (c :: (a ++ b)) := fun w h => (List.mem_cons.mp h).elim (fun e => ha w (List.mem_cons.mpr (Or.inl e))) (fun h => (List.mem_append.mp h).elim (fun h => ha w (List.mem_cons.mpr (Or.inr h))) (hb w))
theorem goodIn_sub {big ws : List Cond} (hm : ∀ w ∈ ws, w ∈ big) (h : ws.all goodWord = true) : GoodIn big ws := fun w hw => ⟨hm w hw, good_of_word (List.all_eq_true.mp h w hw)⟩
/-! ===== END ===== -/

/-! ===== BEGIN new T[n][m]: the outer array a place, the inner ones among the pooled ===== -/
/-- f, but v at every address of l -/
def vr_up {α : Type} (f : Nat → α) (l : List Nat) (v : α) : Nat → α := fun a => if a ∈ l then v else f a
theorem vr_up_in {α : Type} {f : Nat → α} {l : List Nat} {v : α} {a : Nat} (h : a ∈ l) : vr_up f l v a = v := if_pos h
theorem vr_up_ne {α : Type} {f : Nat → α} {l : List Nat} {v : α} {a : Nat} (h : a ∉ l) : vr_up f l v a = f a := if_neg h
theorem vr_rows {L l : List Nat} {f : Nat → va_E} {e : va_E} (h : ∀ a, a ∈ l → a ∉ L) : va_pl L f ++ l.map (fun a => (a, e)) = va_pl (L ++ l) (vr_up f l e) := by
  unfold va_pl
  rw [List.map_append]
  congr 1
  · apply List.map_congr_left
    intro a ha
    rw [vr_up_ne (fun q => h a q ha)]
  · apply List.map_congr_left
    intro a ha
    rw [vr_up_in ha]
theorem vr_lay {X rows : va_W} {x : Nat × va_E} {pl : va_W} {D : va_G} {cl : List vw_C} {H : Heap} (hP : va_P D cl (((X ++ pl) ++ [x]) ++ rows) H) : va_P D cl ((X ++ [x]) ++ (pl ++ rows)) H := by
  rw [List.append_assoc (X ++ pl)] at hP
  have h := va_P.swap hP
  rw [← List.append_assoc X] at h
  have h2 := va_P.swap h
  rw [List.append_assoc (X ++ [x])] at h2
  exact h2
theorem vr_layD {X rows : va_W} {x : Nat × va_E} {pl : va_W} {A : Nat → Prop} (hD : va_D A (((X ++ pl) ++ [x]) ++ rows)) : va_D A ((X ++ [x]) ++ (pl ++ rows)) := by
  rw [List.append_assoc (X ++ pl)] at hD
  have h := va_D.swap hD
  rw [← List.append_assoc X] at h
  have h2 := va_D.swap h
  rw [List.append_assoc (X ++ [x])] at h2
  exact h2
theorem vr_outer (c : ClassId) (N h0 : Nat) : ∀ i : Nat, Jvm.Free.Multi.outerC c N h0 i = arrV c N (fun j => va_rf (if j < i then some (h0 + 1 + j) else none))
  | 0 => by
    show ({ cls := c, slots := Array.replicate N .null, vm := .none } : Cell) = _
    rw [arrV_new]
    refine congrArg (arrV c N) (funext fun j => ?_)
    simp [va_rf]
  | i + 1 => by
    show (Jvm.Free.Multi.outerC c N h0 i).setSlot i (.ref (h0 + 1 + i)) = _
    rw [vr_outer c N h0 i, arrV_store]
    refine congrArg (arrV c N) (funext fun j => ?_)
    by_cases e : j = i
    · subst e
      simp [updV, va_rf]
    · by_cases h : j < i
      · simp [updV, e, h, Nat.lt_succ_of_lt h]
      · simp [updV, e, h, show ¬ j < i + 1 by omega]
section VGM
variable {p : Program} {l : Launch} {e : Env} {R : Room} {s : State} {m : MethodId} {args : Array Value} {below : List Frame} {meth : Method} {c : Code} {H : Heap} {locs : List Loc} {cells slots : Nat} {Q : State → Prop}
variable {cc : ByteArray} {pc : Nat} {ls : Array Slot} {rest : List Value} {D : va_G} {cl : List vw_C} {A : Nat → Prop} {a : Nat} {tys : List (ClassId × FieldType)} {ws : va_W} {H0 : Heap}
theorem va_mna {X : va_W} {L : List Nat} {f : Nat → va_E} {cc : ByteArray} (hexec : p.tables.exec = Jvm.exec) (hb : c.code = cc) {own : String} {index : Nat} {ty : FieldType} {cy : ClassId} (hown : s.vm.findClass own = some m.cls) (hclink : (Cond.classLink own index ("[" ++ (FieldType.array ty).toString)).before args s = true) (hover : va_AOA ty s) (harr : (Cond.arrayClass ty).before args s = true) (hcy : s.vm.findClass (FieldType.array ty).toString = some cy)
    (hK : va_K D cl tys s) (hP : va_P D cl (X ++ va_pl L f) H) (hD : va_D A (X ++ va_pl L f)) (hS : va_S A H0 H locs) (hA : ∀ q, H0.size ≤ q → A q) {n k : Int32} {N' K' : Nat} {z : vp_A} (hn : ¬ n < 0) (hk : ¬ k < 0) (hN : n.toNatClampNeg = N') (hM : k.toNatClampNeg = K')
    (hb1 : N' * 4 ≤ 536870912) (hb2 : K' * componentBytes ty ≤ 536870912) (hb3 : K' ≤ 536870912) (hdf : fits ty (defaultValue ty) = true) (hdd : (defaultValue ty).isDefault = true) (hcells : cells + (1 + N') ≤ R.cells) (hslots : slots + (N' + N' * K') ≤ R.slots) (hz : ∀ c : ClassId, Jvm.Free.Multi.innerC c K' (defaultValue ty) = vp_cell c z) (hdg : decode cc pc = .ok (.multianewarray index 2, 4))
    (kk : ∀ (q : Nat) (r : Nat → Nat) (cA : ClassId) (H1 : Heap), (∀ i j : Nat, i < N' → j < N' → r i = r j → i = j) → (∀ i : Nat, i < N' → r i ∉ L) → va_K D cl (tys ++ [(cA, .array ty)]) s →
      va_P D cl ((X ++ [(q, .inl (cA, N', .inr (.inr (.inr (.inr (fun i => if i < N' then some (r i) else none))))))]) ++ va_pl (L ++ (List.range N').map r) (vr_up f ((List.range N').map r) (.inl (cy, z)))) H1 → va_D A ((X ++ [(q, .inl (cA, N', .inr (.inr (.inr (.inr (fun i => if i < N' then some (r i) else none))))))]) ++ va_pl (L ++ (List.range N').map r) (vr_up f ((List.range N').map r) (.inl (cy, z)))) → va_S A H0 H1 locs →
      W p l e R s m args below meth c H1 locs (cells + 1 + N') (slots + N' + N' * K') Q (F0 m (pc + 4) ls (.ref q :: rest))) : W p l e R s m args below meth c H locs cells slots Q (F0 m pc ls (.int k :: .int n :: rest)) := by
  subst hN
  subst hM
  intro T hT Xs
  obtain ⟨vm₁, cA, comp, -, fA, fC, hO, -, X', step⟩ := Xs.multianewarray2F hexec hown hclink (va_AOA.use hover) harr (g := F0 m pc ls (.int k :: .int n :: rest)) rfl (by rw [hb]; exact hdg) rfl hn hk hb1 hb2 hb3 hdf hdd hcells hslots
  have ec : some cy = some comp := hcy.symm.trans fC
  cases ec
  generalize hF : Jvm.Free.Multi.fill (T.setVm vm₁) cA cy n.toNatClampNeg k.toNatClampNeg (defaultValue ty) n.toNatClampNeg = F at X' step
  have hTh : (T.setVm vm₁).heap = H := hT
  obtain ⟨f1, f2, -, -⟩ := Jvm.Free.Multi.fill_facts (T.setVm vm₁) cA cy n.toNatClampNeg k.toNatClampNeg (defaultValue ty) n.toNatClampNeg
  rw [hF, hTh] at f1 f2
  have hold : ∀ x : Nat, x < H.size → F.heap[x]? = H[x]? := fun x hx => by
    have := Jvm.Free.Multi.fill_old (T.setVm vm₁) cA cy n.toNatClampNeg k.toNatClampNeg (defaultValue ty) (a := x) (by rw [hTh]; exact hx) n.toNatClampNeg
    rw [hF, hTh] at this
    exact this
  have hrow : ∀ j : Nat, j < n.toNatClampNeg → F.heap[H.size + 1 + j]? = some (vp_cell cy z) := fun j hj => by
    have := Jvm.Free.Multi.fill_inner (T.setVm vm₁) cA cy n.toNatClampNeg k.toNatClampNeg (defaultValue ty) n.toNatClampNeg j hj
    rw [hF, hTh, hz] at this
    exact this
  have hout : Jvm.Free.Multi.outerC cA n.toNatClampNeg H.size n.toNatClampNeg = vp_cell cA (n.toNatClampNeg, .inr (.inr (.inr (.inr (fun i => if i < n.toNatClampNeg then some (H.size + 1 + i) else none))))) := by
    rw [vp_cell_q]
    exact vr_outer cA n.toNatClampNeg H.size n.toNatClampNeg
  rw [hout] at f2
  have hlt : ∀ a, a ∈ L → a < H.size := fun a ha => by
    obtain ⟨k9, hk9⟩ := va_pl_get (X := X) (f := f) ha
    exact (hP k9 _ hk9).lt
  have hnl : ∀ i : Nat, i < n.toNatClampNeg → H.size + 1 + i ∉ L := fun i _ h => by
    have := hlt _ h
    omega
  have hnm : ∀ a, a ∈ (List.range n.toNatClampNeg).map (fun i => H.size + 1 + i) → a ∉ L := fun a ha h => by
    obtain ⟨i, -, rfl⟩ := List.mem_map.mp ha
    have := hlt _ h
    omega
  have hP0 : va_P D cl (X ++ va_pl L f) F.heap := hP.kept (fun k9 x hx => hold x.1 ((hP k9 x hx).lt))
  have hP1 : va_P D cl ((X ++ va_pl L f) ++ [(H.size, .inl (cA, n.toNatClampNeg, .inr (.inr (.inr (.inr (fun i => if i < n.toNatClampNeg then some (H.size + 1 + i) else none))))))]) F.heap := hP0.app (fun k9 x hx => by
    have h0 : k9 < 1 := (List.getElem?_eq_some_iff.mp hx).1
    rw [show k9 = 0 by omega] at hx
    cases hx
    exact f2)
  have hP2 : va_P D cl (((X ++ va_pl L f) ++ [(H.size, .inl (cA, n.toNatClampNeg, .inr (.inr (.inr (.inr (fun i => if i < n.toNatClampNeg then some (H.size + 1 + i) else none))))))]) ++ ((List.range n.toNatClampNeg).map (fun i => H.size + 1 + i)).map (fun a => (a, .inl (cy, z)))) F.heap := hP1.app (fun k9 x hx => by
    obtain ⟨a, ha, rfl⟩ := List.mem_map.mp (List.mem_of_getElem? hx)
    obtain ⟨i, hi, rfl⟩ := List.mem_map.mp ha
    exact hrow i (List.mem_range.mp hi))
  have hD2 : va_D A (((X ++ va_pl L f) ++ [(H.size, .inl (cA, n.toNatClampNeg, .inr (.inr (.inr (.inr (fun i => if i < n.toNatClampNeg then some (H.size + 1 + i) else none))))))]) ++ ((List.range n.toNatClampNeg).map (fun i => H.size + 1 + i)).map (fun a => (a, .inl (cy, z)))) := by
    have hD1 := hD.push (e := .inl (cA, n.toNatClampNeg, .inr (.inr (.inr (.inr (fun i => if i < n.toNatClampNeg then some (H.size + 1 + i) else none)))))) hP rfl (hA _ hS.1)
    generalize hW1 : (X ++ va_pl L f) ++ [(H.size, .inl (cA, n.toNatClampNeg, .inr (.inr (.inr (.inr (fun i => if i < n.toNatClampNeg then some (H.size + 1 + i) else none))))))] = W1 at hD1 hP1 ⊢
    have hle : ∀ (k9 : Nat) (x : Nat × va_E), W1[k9]? = some x → x.1 ≤ H.size := fun k9 x hx => by
      rw [← hW1] at hx
      by_cases hl : k9 < (X ++ va_pl L f).length
      · rw [List.getElem?_append_left hl] at hx
        exact Nat.le_of_lt ((hP k9 x hx).lt)
      · rw [List.getElem?_append_right (by omega)] at hx
        have h0 : k9 - (X ++ va_pl L f).length < 1 := (List.getElem?_eq_some_iff.mp hx).1
        rw [show k9 - (X ++ va_pl L f).length = 0 by omega] at hx
        cases hx
        exact Nat.le_refl _
    have hr : ∀ (k9 : Nat) (x : Nat × va_E), (((List.range n.toNatClampNeg).map (fun i => H.size + 1 + i)).map (fun a => ((a, .inl (cy, z)) : Nat × va_E)))[k9]? = some x → x.1 = H.size + 1 + k9 := fun k9 x hx => by
      rw [List.getElem?_map, List.getElem?_map] at hx
      by_cases h9 : k9 < n.toNatClampNeg
      · rw [List.getElem?_range h9] at hx
        cases hx
        rfl
      · have hn0 : (List.range n.toNatClampNeg)[k9]? = none := List.getElem?_eq_none (by rw [List.length_range]; omega)
        rw [hn0] at hx
        cases hx
    refine ⟨fun i j x y hi hj hxy => ?_, fun k9 x hx => ?_⟩
    · by_cases h1 : i < W1.length <;> by_cases h2 : j < W1.length
      · rw [List.getElem?_append_left h1] at hi
        rw [List.getElem?_append_left h2] at hj
        exact hD1.1 i j x y hi hj hxy
      · rw [List.getElem?_append_left h1] at hi
        rw [List.getElem?_append_right (by omega)] at hj
        have := hle _ _ hi
        have := hr _ _ hj
        omega
      · rw [List.getElem?_append_right (by omega)] at hi
        rw [List.getElem?_append_left h2] at hj
        have := hle _ _ hj
        have := hr _ _ hi
        omega
      · rw [List.getElem?_append_right (by omega)] at hi hj
        have := hr _ _ hi
        have := hr _ _ hj
        omega
    · by_cases h1 : k9 < W1.length
      · rw [List.getElem?_append_left h1] at hx
        exact hD1.2 k9 x hx
      · rw [List.getElem?_append_right (by omega)] at hx
        have := hr _ _ hx
        exact hA _ (by have := hS.1; omega)
  have hAr : ArrOfT s cA (.array ty) := fun N9 z9 => by
    obtain ⟨-, k9, hk9, cm9, hkk9⟩ := (hO 0 0 0).1
    exact ⟨(fun q hq => by cases hq), k9, hk9, cm9, hkk9⟩
  have hK2 : va_K D cl (tys ++ [(cA, .array ty)]) s := ⟨hK.1, fun k9 x hx => by
    by_cases hl : k9 < tys.length
    · rw [List.getElem?_append_left hl] at hx
      exact hK.2 k9 x hx
    · rw [List.getElem?_append_right (by omega)] at hx
      have h0 : k9 - tys.length < 1 := (List.getElem?_eq_some_iff.mp hx).1
      rw [show k9 - tys.length = 0 by omega] at hx
      cases hx
      exact ⟨hAr, fA⟩⟩
  obtain ⟨t, a1, b1⟩ := kk H.size (fun i => H.size + 1 + i) cA F.heap (fun i j _ _ h => by have h9 : H.size + 1 + i = H.size + 1 + j := h; omega) hnl hK2 (by rw [← vr_rows hnm]; exact vr_lay hP2) (by rw [← vr_rows hnm]; exact vr_layD hD2) ⟨by rw [f1]; have := hS.1; omega, fun x h1 h2 => (hold x (Nat.lt_of_lt_of_le h1 hS.1)).trans (hS.2.1 x h1 h2), hS.2.2⟩ F rfl X'
  refine ⟨t, step t ?_, b1⟩
  have e : T.heap.size = H.size := by rw [hT]
  rw [e]
  exact a1
end VGM
/-! ===== END ===== -/

/-! ===== BEGIN exceptions that leave a method, and their catching by the caller (launches without stack traces) ===== -/
section VXA
/-! The laws vx_back, vx_callV, vx_callS, vx_callSW, vx_throw0, vx_throwS follow proofs of the library, with one case more: JvmDerived/Free/Laws.lean (Back.of_free), Shelf42/LK1.lean (callV, callS), Shelf/KitTraced.lean (throwNew0V, throwNewS). -/
/-- where a method has thrown q: the class by its name, the cell, what was written, the world -/
def vx_T (XC : String → State → State → Prop) (st : State) (q : Addr) (t : State) (mc ms : Nat) (free : Addr → Prop) : Prop :=
  ∃ (E : String) (ce : Cell) (L : List Loc), XC E st t ∧ t.heap[q]? = some ce ∧ ce.vm = .none ∧ st.vm.findClass E = some ce.cls ∧ st.WarmedH t.vm ∧ st.sameButNew ({ t with vm := st.vm } : State) L mc ms ∧ ∀ z ∈ L, free z.base
def vx_Q (Qc : Array Value → State → Outcome → State → Prop) (XC : String → State → State → Prop) (mc ms : Nat) (free : Addr → Prop) : Array Value → State → Outcome → State → Prop := fun a st o t =>
  (Qc a st o t ∧ ∃ L, FrameEnd st o t L mc ms ∧ ∀ q ∈ L, free q.base) ∨ ∃ q, o = .threw q ∧ vx_T XC st q t mc ms free
/-- a callee that returns or throws -/
def vx_Met (l : Launch) (y : MethodName) (ws : List Cond) (rm : Room) (Pc : Array Value → State → Prop) (Qc : Array Value → State → Outcome → State → Prop) (XC : String → State → State → Prop) (mc ms : Nat) (free : Addr → Prop) : Prop :=
  MetFree l y (headSpec ws rm) Pc (fun _ _ _ _ _ => True) (vx_Q Qc XC mc ms free)
def vx_Post (XC : String → State → State → Prop) (mc ms : Nat) (free : Addr → Prop) : Pt → Array Value → Addr → Pt → Prop := fun A a q B =>
  ∃ (g : JFrame) (mk : MethodId) (t : State) (L : List Loc) (E : String) (ce : Cell), B.U.heap = t.heap ∧ B.U.vm = t.vm ∧ XC E (A.U.calling g mk a) t ∧ t.heap[q]? = some ce ∧ ce.vm = .none ∧ A.U.vm.findClass E = some ce.cls ∧ B.locs = A.locs ++ L ∧ (∀ z ∈ L, free z.base) ∧ B.cells = A.cells + mc ∧ B.slots = A.slots + ms
def vx_Back (l : Launch) (R : Room) (p : Program) (e : Env) (below : List Frame) (s : State) (sargs : Array Value) (y : MethodName) (len W9 : Nat)
    (Pre : Pt → Array Value → Prop) (Post : Pt → Array Value → Option Value → Pt → Prop) (PostX : Pt → Array Value → Addr → Pt → Prop) : Prop :=
  ∀ (m : MethodId) (meth : Method) (c : Code) (A : Pt) (g : JFrame) (ig : Instr) (mk : MethodId) (a : Array Value),
    Stand p l e R s m sargs below meth c A.U A.locs A.cells A.slots → g.method = m → g.locals.size = c.maxLocals → decode c.code g.pc = .ok (ig, len) →
    2 * g.monitorRoom + (g.stack.map fun v => v.category).sum ≤ W9 → A.U.methodNamed? y = some mk → Pre A a →
    (∃ (v : Option Value) (B : Pt), Stand p l e R s m sargs below meth c B.U B.locs B.cells B.slots ∧ Post A a v B ∧
      Steps p.tables e below (doInvoke e (A.U.setTop g) [] mk a).1 (B.U.setTop { g with pc := g.pc + len, stack := v.toList ++ g.stack })) ∨
    (∃ (q : Addr) (B : Pt), Stand p l e R s m sargs below meth c B.U B.locs B.cells B.slots ∧ PostX A a q B ∧
      Steps p.tables e below (doInvoke e (A.U.setTop g) [] mk a).1 ((B.U.setTop g).pushFrame (.throwing q)))
section Payer
variable {l : Launch} {R : Room} {p : Program} {e : Env} {below : List Frame} {s : State} {sargs : Array Value} {y : MethodName} {len W9 : Nat}
theorem vx_back {ws : List Cond} {rm : Room} {Pc : Array Value → State → Prop} {Qc : Array Value → State → Outcome → State → Prop} {XC : String → State → State → Prop} {mc ms : Nat} {free : Addr → Prop} {bytes : ByteArray} {maxL : Nat} {ret : Option FieldType}
    (hM : vx_Met l y ws rm Pc Qc XC mc ms free) (hblind : FrameBlind Pc) (hrc : rm.cells = mc) (hrs : rm.slots = ms)
    (hframes : rm.frames + 1 ≤ R.frames) (hlocals : W9 + (maxL + 11) + rm.locals ≤ R.locals)
    (hws : ∀ w ∈ ws, ∀ a' U, s.WarmedH U.vm → w.before a' U = true) (hcode : Cond.code y bytes maxL ret ∈ ws) (hinit : ∀ a' U, s.WarmedH U.vm → (Cond.initialized y.cls).before a' U = true) :
    vx_Back l R p e below s sargs y len W9 (PreOf R mc ms Pc) (PostOf Qc mc ms free) (vx_Post XC mc ms free) := by
  intro m meth c A g ig mk a X hg hsize hdg hW hn hp
  have h1 : (headSpec ws rm).pre.before a A.U = true := atoms_intro fun w hw => hws w hw _ _ X.warmed
  have h2 : (Cond.code y bytes maxL ret).before a A.U = true := hws _ hcode _ _ X.warmed
  have h3 : (Cond.initialized y.cls).before a A.U = true := hinit _ _ X.warmed
  have h4 : A.cells + (headSpec ws rm).room.cells ≤ R.cells := by rw [show (headSpec ws rm).room.cells = mc from hrc]; exact hp.1
  have h5 : A.slots + (headSpec ws rm).room.slots ≤ R.slots := by rw [show (headSpec ws rm).room.slots = ms from hrs]; exact hp.2.1
  have hPc : Pc a (A.U.calling g mk a) := hblind _ _ _ _ hp.2.2
  obtain ⟨U, Ls, c0, s0⟩ := A
  dsimp only [Pt.U, Pt.locs, Pt.cells, Pt.slots] at h1 h2 h3 h4 h5 X hn hPc ⊢
  obtain ⟨methY, cY, hmY, hcY, -, hlY, -, -, -, -⟩ := Cond.code_spec hn h2
  obtain ⟨kY, hkY, -⟩ := className_of_methodNamed hn
  have hinitY : kY.init = .initialized := Cond.initialized_spec (findClass_of_methodNamed hn) hkY h3
  have h : At U g.method c below := by rw [hg]; exact X.here
  have hlocals9 : W9 + (maxL + 11) + (headSpec ws rm).room.locals ≤ R.locals := hlocals
  have happ : (headSpec ws rm).appliesLoose y e.platform (U.calling g mk a) = true :=
    Spec.appliesLoose_calling (g := g) h hdg hn hkY hinitY
      (X.room_calling (g := g) (R' := (headSpec ws rm).room) hsize hmY hcY hframes (by rw [hlY]; omega) h4 h5) h1
  obtain ⟨mid, hmid⟩ := h.above
  have hfr : (U.setTop g).frames = (.java g :: mid) ++ below := by rw [State.frames_setTop' g h.top, hmid]; rfl
  obtain ⟨o, s₂, hsteps, -, hend, hq⟩ := Steps.callFree hM p X.admits X.cas X.clock (acts := []) hfr happ hPc trivial
  have hq' : vx_Q Qc XC mc ms free a (U.calling g mk a) o s₂ := hq
  rw [State.frames_setTop' g h.top] at hend
  obtain ⟨g₀, hg0⟩ := Option.isSome_iff_exists.mp h.top
  obtain ⟨r, hr⟩ := State.topJava?_eq_some.mp hg0
  have hr' : (({ U with heap := s₂.heap, slotsUsed := s₂.slotsUsed } : State).setVm s₂.vm).frames = .java g₀ :: r := hr
  rcases hq' with ⟨hqc, L, hfe, hL⟩ | ⟨q, rfl, E, ce, L, hx, hce, hcv, hcl, hW₂, hsm, hL⟩
  · obtain ⟨⟨v, rfl⟩, hW₂, e2, q2, q3, q4, q5, q6⟩ := id hfe
    have e3 : s₂ = ({ (U.calling g mk a).setFrames s₂.frames with heap := s₂.heap, slotsUsed := s₂.slotsUsed } : State).setVm s₂.vm := by
      have : s₂ = ({ s₂ with vm := (U.calling g mk a).vm } : State).setVm s₂.vm := rfl
      rw [e2] at this
      exact this
    obtain ⟨c₂, i₂, len₂, hc₂, hd₂, hf₂⟩ := hend
    have hW' : U.WarmedH s₂.vm := hW₂
    have hcc : c₂ = c := by
      have h1 : s₂.code? g.method = U.code? g.method := by
        rw [State.code?_eq, State.code?_eq, hW'.alike.method?]
      exact Option.some.inj (hc₂.symm.trans (h1.trans h.code))
    subst hcc
    have hlen : len₂ = len := by rw [hdg] at hd₂; cases hd₂; rfl
    subst hlen
    have hs₂ : s₂ = (({ U with heap := s₂.heap, slotsUsed := s₂.slotsUsed } : State).setVm s₂.vm).setTop { g with pc := g.pc + len₂, stack := v.toList ++ g.stack } := by
      refine e3.trans ?_
      rw [hf₂, State.calling_eq h.top, State.setFrames_setFrames, State.setTop_of_frames _ hr', hr]
      rfl
    have hsame : U.sameButNew ({ U with heap := s₂.heap, slotsUsed := s₂.slotsUsed } : State) L mc ms := by
      refine ⟨?_, q2, q3, q4, q5, q6⟩
      obtain ⟨t, ht, -⟩ := State.frames_cons hr
      show ({ U with heap := s₂.heap, slotsUsed := s₂.slotsUsed } : State) = { U.setFrames U.frames with heap := s₂.heap, slotsUsed := s₂.slotsUsed }
      rw [State.setFrames_self ht]
    subst hg
    refine Or.inl ⟨v, ⟨(({ U with heap := s₂.heap, slotsUsed := s₂.slotsUsed } : State).setVm s₂.vm), Ls ++ L, c0 + mc, s0 + ms⟩,
      ⟨X.admits, X.cas, X.clock, X.frames, X.room, X.hears, X.method, X.code, (X.here.setHeapUsed s₂.heap s₂.slotsUsed).setVm hW'.alike, X.tail, State.WarmedH.trans X.warmed hW', X.limits, X.bytes, X.same.trans (hsame.setVm s.vm)⟩,
      ⟨g, mk, s₂, L, rfl, rfl, hqc, rfl, hL, rfl, rfl⟩, ?_⟩
    show Steps p.tables e below _ ((({ U with heap := s₂.heap, slotsUsed := s₂.slotsUsed } : State).setVm s₂.vm).setTop { g with pc := g.pc + len₂, stack := v.toList ++ g.stack })
    rw [← hs₂]
    exact hsteps
  · obtain ⟨e2, q2, q3, q4, q5, q6⟩ := id hsm
    have e3 : s₂ = ({ (U.calling g mk a).setFrames s₂.frames with heap := s₂.heap, slotsUsed := s₂.slotsUsed } : State).setVm s₂.vm := by
      have : s₂ = ({ s₂ with vm := (U.calling g mk a).vm } : State).setVm s₂.vm := rfl
      rw [e2] at this
      exact this
    have hf₂ : s₂.frames = .throwing q :: .java g :: U.frames.tail := hend
    have hW' : U.WarmedH s₂.vm := hW₂
    have hs₂ : s₂ = ((({ U with heap := s₂.heap, slotsUsed := s₂.slotsUsed } : State).setVm s₂.vm).setTop g).pushFrame (.throwing q) := by
      refine e3.trans ?_
      rw [hf₂, State.calling_eq h.top, State.setFrames_setFrames, State.pushFrame, State.frames_setTop _ hr', State.setTop_of_frames _ hr', State.setFrames_setFrames, hr]
      rfl
    have hsame : U.sameButNew ({ U with heap := s₂.heap, slotsUsed := s₂.slotsUsed } : State) L mc ms := by
      refine ⟨?_, q2, q3, q4, q5, q6⟩
      obtain ⟨t, ht, -⟩ := State.frames_cons hr
      show ({ U with heap := s₂.heap, slotsUsed := s₂.slotsUsed } : State) = { U.setFrames U.frames with heap := s₂.heap, slotsUsed := s₂.slotsUsed }
      rw [State.setFrames_self ht]
    subst hg
    refine Or.inr ⟨q, ⟨(({ U with heap := s₂.heap, slotsUsed := s₂.slotsUsed } : State).setVm s₂.vm), Ls ++ L, c0 + mc, s0 + ms⟩,
      ⟨X.admits, X.cas, X.clock, X.frames, X.room, X.hears, X.method, X.code, (X.here.setHeapUsed s₂.heap s₂.slotsUsed).setVm hW'.alike, X.tail, State.WarmedH.trans X.warmed hW', X.limits, X.bytes, X.same.trans (hsame.setVm s.vm)⟩,
      ⟨g, mk, s₂, L, E, ce, rfl, rfl, hx, hce, hcv, hcl, rfl, hL, rfl, rfl⟩, ?_⟩
    show Steps p.tables e below _ (((({ U with heap := s₂.heap, slotsUsed := s₂.slotsUsed } : State).setVm s₂.vm).setTop g).pushFrame (.throwing q))
    rw [← hs₂]
    exact hsteps
end Payer
section Calls
variable {p : Program} {l : Launch} {e : Env} {R : Room} {s : State} {m : MethodId} {args : Array Value} {below : List Frame} {meth : Method} {c : Code} {T : State} {locs : List Loc} {cells slots : Nat}
theorem vx_callV (X : Stand p l e R s m args below meth c T locs cells slots) (hexec : p.tables.exec = Jvm.exec) {own C : String} {index : Nat} {y : MethodName} {bytes : ByteArray} {maxL : Nat} {ret : Option FieldType}
    (hown : s.vm.findClass own = some m.cls) (hlink : (Cond.methodLink own index y).before args s = true) (hinst : (Cond.instanceMethod y).before args s = true) (hsel : (Cond.selects C y y).before args s = true)
    (hcode : (Cond.code y bytes maxL ret).before args s = true) (hy : y.cls ≠ "java/lang/invoke/MethodHandle" ∧ y.cls ≠ "java/lang/invoke/VarHandle")
    {W9 : Nat} {Pre : Pt → Array Value → Prop} {Post : Pt → Array Value → Option Value → Pt → Prop} {PostX : Pt → Array Value → Addr → Pt → Prop} (hK : vx_Back l R p e below s args y 3 W9 Pre Post PostX)
    {b : Addr} {cellB : Cell} (hcell : T.heap[b]? = some cellB) (hobj : cellB.vm.isStatics = false) (hcls : s.vm.findClass C = some cellB.cls)
    {g : JFrame} (hg : g.method = m) (hsize : g.locals.size = c.maxLocals) {argsL rest : List Value} (hlen : ∀ sig, parseMethodDescriptor y.desc = some sig → argsL.length = sig.parameters.length)
    (hstack : g.stack = argsL.reverse ++ .ref b :: rest) (hW : 2 * g.monitorRoom + (rest.map fun v => v.category).sum ≤ W9) (hdg : decode c.code g.pc = .ok (.invokevirtual index, 3))
    (hpre : ∀ vm₁, s.WarmedH vm₁ → Pre ⟨T.setVm vm₁, locs, cells, slots⟩ (Value.ref b :: argsL).toArray) :
    (∃ (v : Option Value) (vm₁ : Vm) (B : Pt), s.WarmedH vm₁ ∧ Stand p l e R s m args below meth c B.U B.locs B.cells B.slots ∧ Post ⟨T.setVm vm₁, locs, cells, slots⟩ (Value.ref b :: argsL).toArray v B ∧
      ∀ target, Steps p.tables e below (B.U.setTop { g with pc := g.pc + 3, stack := v.toList ++ rest }) target → Steps p.tables e below (T.setTop g) target) ∨
    (∃ (q : Addr) (vm₁ : Vm) (B : Pt), s.WarmedH vm₁ ∧ Stand p l e R s m args below meth c B.U B.locs B.cells B.slots ∧ PostX ⟨T.setVm vm₁, locs, cells, slots⟩ (Value.ref b :: argsL).toArray q B ∧
      Steps p.tables e below (T.setTop g) ((B.U.setTop { g with stack := rest }).pushFrame (.throwing q))) := by
  obtain ⟨mk, methM, hnamed, hmethM, hstM, habM⟩ := Cond.instanceMethod_spec hinst
  obtain ⟨methM', cM, hmethM', -, -, -, -, -, -, hsigM⟩ := Cond.code_spec hnamed hcode
  cases hmethM.symm.trans hmethM'
  obtain ⟨c2, r2, m2, q1, q2, q3, q4, kP, hkP, hkPi⟩ := Cond.selects_spec hsel
  cases hcls.symm.trans q1
  cases (State.methodFound?_of_named hnamed hy).symm.trans q2
  cases hnamed.symm.trans q3
  have hselP : selectMethod e.platform s.vm cellB.cls mk = .method mk := by rw [Launch.admits_selectMethod X.admits]; exact q4
  obtain ⟨vm₁, X₁, hstep₁⟩ := X.invokevirtual hexec hown hlink hnamed hmethM hstM hkP hkPi hy (a := b) (cell := cellB) hcell
    (fun z h => by rw [h] at hobj; cases hobj) hselP hmethM habM hkP hkPi (g := g) hg (argsL := argsL) (rest := rest) (hlen _ hsigM) hstack hdg
  rcases hK m meth c ⟨T.setVm vm₁, locs, cells, slots⟩ { g with stack := rest } (.invokevirtual index) mk (Value.ref b :: argsL).toArray X₁ hg hsize hdg hW (X₁.named hnamed) (hpre vm₁ X₁.warmed) with ⟨v, B, X', hpost, hsteps⟩ | ⟨q, B, X', hpost, hsteps⟩
  · exact Or.inl ⟨v, vm₁, B, X₁.warmed, X', hpost, fun target h => hstep₁ _ fun acts => by rw [doInvoke_state]; exact hsteps.trans h⟩
  · exact Or.inr ⟨q, vm₁, B, X₁.warmed, X', hpost, hstep₁ _ fun acts => by rw [doInvoke_state]; exact hsteps⟩
theorem vx_callS (X : Stand p l e R s m args below meth c T locs cells slots) (hexec : p.tables.exec = Jvm.exec) {own : String} {index : Nat} {y : MethodName} {bytes : ByteArray} {maxL : Nat} {ret : Option FieldType}
    (hown : s.vm.findClass own = some m.cls) (hlink : (Cond.methodLink own index y).before args s = true) (hstat : (Cond.static y).before args s = true) (hinit : (Cond.initialized y.cls).before args s = true)
    (hcode : (Cond.code y bytes maxL ret).before args s = true) (hy : y.cls ≠ "java/lang/invoke/MethodHandle" ∧ y.cls ≠ "java/lang/invoke/VarHandle")
    {W9 : Nat} {Pre : Pt → Array Value → Prop} {Post : Pt → Array Value → Option Value → Pt → Prop} {PostX : Pt → Array Value → Addr → Pt → Prop} (hK : vx_Back l R p e below s args y 3 W9 Pre Post PostX)
    {g : JFrame} (hg : g.method = m) (hsize : g.locals.size = c.maxLocals) {argsL rest : List Value} (hlen : ∀ sig, parseMethodDescriptor y.desc = some sig → argsL.length = sig.parameters.length)
    (hstack : g.stack = argsL.reverse ++ rest) (hW : 2 * g.monitorRoom + (rest.map fun v => v.category).sum ≤ W9) (hdg : decode c.code g.pc = .ok (.invokestatic index, 3))
    (hpre : ∀ vm₁, s.WarmedH vm₁ → Pre ⟨T.setVm vm₁, locs, cells, slots⟩ argsL.toArray) :
    (∃ (v : Option Value) (vm₁ : Vm) (B : Pt), s.WarmedH vm₁ ∧ Stand p l e R s m args below meth c B.U B.locs B.cells B.slots ∧ Post ⟨T.setVm vm₁, locs, cells, slots⟩ argsL.toArray v B ∧
      ∀ target, Steps p.tables e below (B.U.setTop { g with pc := g.pc + 3, stack := v.toList ++ rest }) target → Steps p.tables e below (T.setTop g) target) ∨
    (∃ (q : Addr) (vm₁ : Vm) (B : Pt), s.WarmedH vm₁ ∧ Stand p l e R s m args below meth c B.U B.locs B.cells B.slots ∧ PostX ⟨T.setVm vm₁, locs, cells, slots⟩ argsL.toArray q B ∧
      Steps p.tables e below (T.setTop g) ((B.U.setTop { g with stack := rest }).pushFrame (.throwing q))) := by
  obtain ⟨mk, hnamed⟩ := Cond.code_named hcode
  obtain ⟨methM, cM, hmethM, -, -, -, -, -, -, hsigM⟩ := Cond.code_spec hnamed hcode
  have hstatic : methM.isStatic = true := Cond.static_spec hnamed hmethM hstat
  obtain ⟨kP, hkP, -⟩ := className_of_methodNamed hnamed
  have hinitP : kP.init = .initialized := Cond.initialized_spec (findClass_of_methodNamed hnamed) hkP hinit
  obtain ⟨vm₁, X₁, hstep₁⟩ := X.invokestatic hexec hown hlink hnamed hmethM hstatic hkP hinitP hy (g := g) hg (argsL := argsL) (rest := rest) (hlen _ hsigM) hstack hdg
  rcases hK m meth c ⟨T.setVm vm₁, locs, cells, slots⟩ { g with stack := rest } (.invokestatic index) mk argsL.toArray X₁ hg hsize hdg hW (X₁.named hnamed) (hpre vm₁ X₁.warmed) with ⟨v, B, X', hpost, hsteps⟩ | ⟨q, B, X', hpost, hsteps⟩
  · exact Or.inl ⟨v, vm₁, B, X₁.warmed, X', hpost, fun target h => hstep₁ _ fun acts => by rw [doInvoke_state]; exact hsteps.trans h⟩
  · exact Or.inr ⟨q, vm₁, B, X₁.warmed, X', hpost, hstep₁ _ fun acts => by rw [doInvoke_state]; exact hsteps⟩
end Calls
theorem vx_cls {s : State} {T : State} {vm₁ : Vm} {E : String} {k : ClassId} (hW : s.WarmedH vm₁) (h : (T.setVm vm₁).vm.findClass E = some k) : s.vm.findClass E = some k := by
  have h1 : vm₁.findClass E = some k := h
  rw [hW.alike.findClass] at h1
  exact h1
/-- the method's frame g, with q thrown over it -/
def vx_W (p : Program) (l : Launch) (e : Env) (R : Room) (s : State) (m : MethodId) (args : Array Value) (below : List Frame) (meth : Method) (c : Code) (H : Heap) (locs : List Loc) (cells slots : Nat) (Q : State → Prop) (g : JFrame) (q : Addr) : Prop :=
  ∀ T : State, T.heap = H → Stand p l e R s m args below meth c T locs cells slots → ∃ t, Steps p.tables e below ((T.setTop g).pushFrame (.throwing q)) t ∧ Q t
def vx_Run (p : Program) (l : Launch) (e : Env) (R : Room) (s : State) (m : MethodId) (args : Array Value) (below : List Frame) (meth : Method) (c : Code) (H : Heap) (locs : List Loc) (cells slots mc ms : Nat) (g : JFrame) (rest : List Value) (Qa : State → Outcome → State → Prop) (XC : String → State → State → Prop) (free : Addr → Prop) : Prop :=
  ∀ T : State, T.heap = H → Stand p l e R s m args below meth c T locs cells slots →
    (∃ (v : Option Value) (st₀ t T' : State) (L : List Loc), st₀.heap = H ∧ Stand p l e R s m args below meth c T' (locs ++ L) (cells + mc) (slots + ms) ∧ (∀ q ∈ L, free q.base) ∧ T'.heap = t.heap ∧ T'.vm = t.vm ∧ Qa st₀ (.returned v) t ∧
      Goes p e below T g T' { g with pc := g.pc + 3, stack := v.toList ++ rest }) ∨
    (∃ (q : Addr) (st₀ t T' : State) (L : List Loc) (E : String) (ce : Cell), st₀.heap = H ∧ Stand p l e R s m args below meth c T' (locs ++ L) (cells + mc) (slots + ms) ∧ (∀ z ∈ L, free z.base) ∧ T'.heap = t.heap ∧ T'.vm = t.vm ∧ XC E st₀ t ∧ t.heap[q]? = some ce ∧ ce.vm = .none ∧ s.vm.findClass E = some ce.cls ∧
      Steps p.tables e below (T.setTop g) ((T'.setTop { g with stack := rest }).pushFrame (.throwing q)))
def vx_X {S : Type} (px : S → Prop) (B : String → S → State → Prop) (A : Nat → Prop) : String → State → State → Prop := fun E st t => ∃ u : S, px u ∧ B E u t ∧ va_F A st t
section Runs
variable {p : Program} {l : Launch} {e : Env} {R : Room} {s : State} {m : MethodId} {args : Array Value} {below : List Frame} {meth : Method} {c : Code} {H : Heap} {locs : List Loc} {cells slots : Nat}
variable {y : MethodName} {bytes cc : ByteArray} {maxL nL mc ms n index : Nat} {ret : Option FieldType} {ws : List Cond} {rm : Room} {Pc : Array Value → State → Prop} {Qc : Array Value → State → Outcome → State → Prop} {XC : String → State → State → Prop} {free : Addr → Prop} {Ts : List Cond} {own C : String} {b : Addr} {As rest : List Value} {g : JFrame}
theorem vx_callBack (cb : CallB R s args own index y bytes maxL ret ws rm mc ms n) (hM : vx_Met l y ws rm Pc Qc XC mc ms free) (hbl : FrameBlind Pc) : vx_Back l R p e below s args y 3 8 (PreOf R mc ms Pc) (PostOf Qc mc ms free) (vx_Post XC mc ms free) := by
  obtain ⟨hrc, hrs, hfr, hlo, hws, hcw, -, hini, -⟩ := cb
  exact vx_back (bytes := bytes) (maxL := maxL) (ret := ret) hM hbl hrc hrs hfr hlo hws hcw (fun a' U hW => word_at hW (Or.inl (by first | rfl | simp [Cond.onTables, Cond.keeps, Cond.steady])) hini)
theorem vx_runV (S : CallFix p m c cc nL s args Ts own) (hM : vx_Met l y ws rm Pc Qc XC mc ms free) (cw : CallW R s args own C index y bytes maxL ret ws rm mc ms n) (hp : PreV s H C b Pc As)
    (hg : g.method = m) (hn : As.length = n) (hsize : g.locals.size = nL) (hstack : g.stack = As.reverse ++ .ref b :: rest) (hW : 2 * g.monitorRoom + (rest.map fun v => v.category).sum ≤ 8) (hdg : decode cc g.pc = .ok (.invokevirtual index, 3)) (hf : cells + mc ≤ R.cells ∧ slots + ms ≤ R.slots) :
    vx_Run p l e R s m args below meth c H locs cells slots mc ms g rest (Qc (Value.ref b :: As).toArray) XC free := by
  have hK : vx_Back l R p e below s args y 3 8 (PreOf R mc ms Pc) (PostOf Qc mc ms free) (vx_Post XC mc ms free) := vx_callBack cw.1 hM hp.1
  obtain ⟨⟨-, -, -, -, -, -, hcode, -, hy, hlen, hl⟩, hin, hse⟩ := cw
  obtain ⟨hx, hb, hml, ho, -⟩ := S
  obtain ⟨-, ⟨cellB, hcB, hoB, hclB⟩, hPc⟩ := hp
  intro T hT X
  rcases vx_callV X hx (C := C) (bytes := bytes) (maxL := maxL) (ret := ret) ho hl hin hse hcode hy hK (by rw [hT]; exact hcB) hoB hclB hg (hsize.trans hml.symm) (argsL := As) (rest := rest) (fun sig h => hn.trans (hlen sig h)) hstack hW (by rw [hb]; exact hdg)
    (fun vm₁ hW₁ => ⟨hf.1, hf.2, hPc (T.setVm vm₁) hT hW₁⟩) with ⟨v, vm₁, ⟨U', l2, c2, s2⟩, hW₁, X', ⟨g', mk, t, L, e1, e2, hq, h1, hL, h2, h3⟩, st⟩ | ⟨q, vm₁, ⟨U', l2, c2, s2⟩, hW₁, X', ⟨g', mk, t, L, E, ce, e1, e2, hq, hce, hcv, hcl, h1, hL, h2, h3⟩, st⟩
  · dsimp only [Pt.U, Pt.locs, Pt.cells, Pt.slots] at X' e1 e2 h1 h2 h3 st
    subst h1; subst h2; subst h3
    exact Or.inl ⟨v, (T.setVm vm₁).calling g' mk (Value.ref b :: As).toArray, t, U', L, hT, X', hL, e1, e2, hq, st⟩
  · dsimp only [Pt.U, Pt.locs, Pt.cells, Pt.slots] at X' e1 e2 h1 h2 h3 st hcl
    subst h1; subst h2; subst h3
    exact Or.inr ⟨q, (T.setVm vm₁).calling g' mk (Value.ref b :: As).toArray, t, U', L, E, ce, hT, X', hL, e1, e2, hq, hce, hcv, vx_cls hW₁ hcl, st⟩
theorem vx_runS (S : CallFix p m c cc nL s args Ts own) (hM : vx_Met l y ws rm Pc Qc XC mc ms free) (cw : CallB R s args own index y bytes maxL ret ws rm mc ms n ∧ (Cond.static y).before args s = true) (hp : PreS s H Pc As)
    (hg : g.method = m) (hn : As.length = n) (hsize : g.locals.size = nL) (hstack : g.stack = As.reverse ++ rest) (hW : 2 * g.monitorRoom + (rest.map fun v => v.category).sum ≤ 8) (hdg : decode cc g.pc = .ok (.invokestatic index, 3)) (hf : cells + mc ≤ R.cells ∧ slots + ms ≤ R.slots) :
    vx_Run p l e R s m args below meth c H locs cells slots mc ms g rest (Qc As.toArray) XC free := by
  have hK : vx_Back l R p e below s args y 3 8 (PreOf R mc ms Pc) (PostOf Qc mc ms free) (vx_Post XC mc ms free) := vx_callBack cw.1 hM hp.1
  obtain ⟨⟨-, -, -, -, -, -, hcode, hini, hy, hlen, hl⟩, hstt⟩ := cw
  obtain ⟨hx, hb, hml, ho, -⟩ := S
  intro T hT X
  rcases vx_callS X hx (bytes := bytes) (maxL := maxL) (ret := ret) ho hl hstt hini hcode hy hK hg (hsize.trans hml.symm) (argsL := As) (rest := rest) (fun sig h => hn.trans (hlen sig h)) hstack hW (by rw [hb]; exact hdg)
    (fun vm₁ hW₁ => ⟨hf.1, hf.2, hp.2 (T.setVm vm₁) hT hW₁⟩) with ⟨v, vm₁, ⟨U', l2, c2, s2⟩, hW₁, X', ⟨g', mk, t, L, e1, e2, hq, h1, hL, h2, h3⟩, st⟩ | ⟨q, vm₁, ⟨U', l2, c2, s2⟩, hW₁, X', ⟨g', mk, t, L, E, ce, e1, e2, hq, hce, hcv, hcl, h1, hL, h2, h3⟩, st⟩
  · dsimp only [Pt.U, Pt.locs, Pt.cells, Pt.slots] at X' e1 e2 h1 h2 h3 st
    subst h1; subst h2; subst h3
    exact Or.inl ⟨v, (T.setVm vm₁).calling g' mk As.toArray, t, U', L, hT, X', hL, e1, e2, hq, st⟩
  · dsimp only [Pt.U, Pt.locs, Pt.cells, Pt.slots] at X' e1 e2 h1 h2 h3 st hcl
    subst h1; subst h2; subst h3
    exact Or.inr ⟨q, (T.setVm vm₁).calling g' mk As.toArray, t, U', L, E, ce, hT, X', hL, e1, e2, hq, hce, hcv, vx_cls hW₁ hcl, st⟩
end Runs
section Rows
variable {p : Program} {l : Launch} {e : Env} {R : Room} {s : State} {m : MethodId} {args : Array Value} {below : List Frame} {meth : Method} {c : Code} {H : Heap} {locs : List Loc} {cells slots : Nat} {Q : State → Prop}
variable {mc ms : Nat} {free : Addr → Prop} {A0 A1 : Nat → Prop} {H0 : Heap} {a : Array Value} {pc : Nat} {ls : Array Slot} {st0 rest : List Value}
theorem vx_keep {st₀ t T' : State} {L : List Loc} (h0 : st₀.heap = H) (e1 : T'.heap = t.heap) (hS : va_S A0 H0 H locs) (hA : ∀ q, q < H.size → A1 q → A0 q) (hf : ∀ q, free q → A0 q) (hL : ∀ q ∈ L, free q.base) (hF : va_F A1 st₀ t) :
    H.size ≤ T'.heap.size ∧ (∀ q : Nat, q < H.size → ¬ A1 q → T'.heap[q]? = H[q]?) ∧ va_S A0 H0 T'.heap (locs ++ L) := by
  obtain ⟨hz, hk⟩ := hF
  rw [h0] at hz hk
  exact ⟨by rw [e1]; exact hz, fun q h1 h2 => by rw [e1]; exact hk q h1 h2,
    ⟨Nat.le_trans hS.1 (by rw [e1]; exact hz), fun q h1 h2 => by rw [e1, hk q (Nat.lt_of_lt_of_le h1 hS.1) (fun z => h2 (hA q (Nat.lt_of_lt_of_le h1 hS.1) z))]; exact hS.2.1 q h1 h2, fun q hq => by
      rcases List.mem_append.mp hq with h | h
      · exact hS.2.2 q h
      · exact hf _ (hL q h)⟩⟩
theorem vx_calli {S SX : Type} {post : Int32 → S → Prop} {px : SX → Prop} {B : S → State → Prop} {BX : String → SX → State → Prop} {AX : Nat → Prop} (hr : vx_Run p l e R s m args below meth c H locs cells slots mc ms (F0 m pc ls st0) rest (va_Qi post B A1 a) (vx_X px BX AX) free) (hS : va_S A0 H0 H locs) (hA : ∀ q, q < H.size → A1 q → A0 q) (hf : ∀ q, free q → A0 q) (hAX : ∀ q, q < H.size → AX q → A0 q)
    (kx : ∀ (E : String) (ce : Cell) (q9 : Addr) (u : SX) (t : State) (H1 : Heap) (locs1 : List Loc), t.heap = H1 → s.vm.Alike t.vm → px u → BX E u t → H.size ≤ H1.size → (∀ q : Nat, q < H.size → ¬ AX q → H1[q]? = H[q]?) → va_S A0 H0 H1 locs1 → H1[q9]? = some ce → ce.vm = .none → s.vm.findClass E = some ce.cls → vx_W p l e R s m args below meth c H1 locs1 (cells + mc) (slots + ms) Q (F0 m pc ls rest) q9)
    (kk : ∀ (r : Int32) (u : S) (t : State) (H1 : Heap) (locs1 : List Loc), t.heap = H1 → s.vm.Alike t.vm → post r u → B u t → H.size ≤ H1.size → (∀ q : Nat, q < H.size → ¬ A1 q → H1[q]? = H[q]?) → va_S A0 H0 H1 locs1 → W p l e R s m args below meth c H1 locs1 (cells + mc) (slots + ms) Q (F0 m (pc + 3) ls (.int r :: rest))) : W p l e R s m args below meth c H locs cells slots Q (F0 m pc ls st0) := by
  intro T hT X
  rcases hr T hT X with ⟨v, st₀, t, T', L, h0, X', hL, e1, e2, ⟨⟨r, u, hv, hp, hb⟩, hF⟩, st⟩ | ⟨q, st₀, t, T', L, E, ce, h0, X', hL, e1, e2, ⟨u, hp, hb, hF⟩, hce, hcv, hcl, st⟩
  · cases hv
    obtain ⟨k1, k2, k3⟩ := vx_keep h0 e1 hS hA hf hL hF
    obtain ⟨t2, a1, b1⟩ := kk r u t T'.heap (locs ++ L) e1.symm (by rw [← e2]; exact X'.warmed.alike) hp hb k1 k2 k3 T' rfl X'
    exact ⟨t2, st t2 a1, b1⟩
  · obtain ⟨k1, k2, k3⟩ := vx_keep h0 e1 hS hAX hf hL hF
    obtain ⟨t2, a1, b1⟩ := kx E ce q u t T'.heap (locs ++ L) e1.symm (by rw [← e2]; exact X'.warmed.alike) hp hb k1 k2 k3 (by rw [e1]; exact hce) hcv hcl T' rfl X'
    exact ⟨t2, st.trans a1, b1⟩
theorem vx_calll {S SX : Type} {post : Int64 → S → Prop} {px : SX → Prop} {B : S → State → Prop} {BX : String → SX → State → Prop} {AX : Nat → Prop} (hr : vx_Run p l e R s m args below meth c H locs cells slots mc ms (F0 m pc ls st0) rest (va_Ql post B A1 a) (vx_X px BX AX) free) (hS : va_S A0 H0 H locs) (hA : ∀ q, q < H.size → A1 q → A0 q) (hf : ∀ q, free q → A0 q) (hAX : ∀ q, q < H.size → AX q → A0 q)
    (kx : ∀ (E : String) (ce : Cell) (q9 : Addr) (u : SX) (t : State) (H1 : Heap) (locs1 : List Loc), t.heap = H1 → s.vm.Alike t.vm → px u → BX E u t → H.size ≤ H1.size → (∀ q : Nat, q < H.size → ¬ AX q → H1[q]? = H[q]?) → va_S A0 H0 H1 locs1 → H1[q9]? = some ce → ce.vm = .none → s.vm.findClass E = some ce.cls → vx_W p l e R s m args below meth c H1 locs1 (cells + mc) (slots + ms) Q (F0 m pc ls rest) q9)
    (kk : ∀ (r : Int64) (u : S) (t : State) (H1 : Heap) (locs1 : List Loc), t.heap = H1 → s.vm.Alike t.vm → post r u → B u t → H.size ≤ H1.size → (∀ q : Nat, q < H.size → ¬ A1 q → H1[q]? = H[q]?) → va_S A0 H0 H1 locs1 → W p l e R s m args below meth c H1 locs1 (cells + mc) (slots + ms) Q (F0 m (pc + 3) ls (.long r :: rest))) : W p l e R s m args below meth c H locs cells slots Q (F0 m pc ls st0) := by
  intro T hT X
  rcases hr T hT X with ⟨v, st₀, t, T', L, h0, X', hL, e1, e2, ⟨⟨r, u, hv, hp, hb⟩, hF⟩, st⟩ | ⟨q, st₀, t, T', L, E, ce, h0, X', hL, e1, e2, ⟨u, hp, hb, hF⟩, hce, hcv, hcl, st⟩
  · cases hv
    obtain ⟨k1, k2, k3⟩ := vx_keep h0 e1 hS hA hf hL hF
    obtain ⟨t2, a1, b1⟩ := kk r u t T'.heap (locs ++ L) e1.symm (by rw [← e2]; exact X'.warmed.alike) hp hb k1 k2 k3 T' rfl X'
    exact ⟨t2, st t2 a1, b1⟩
  · obtain ⟨k1, k2, k3⟩ := vx_keep h0 e1 hS hAX hf hL hF
    obtain ⟨t2, a1, b1⟩ := kx E ce q u t T'.heap (locs ++ L) e1.symm (by rw [← e2]; exact X'.warmed.alike) hp hb k1 k2 k3 (by rw [e1]; exact hce) hcv hcl T' rfl X'
    exact ⟨t2, st.trans a1, b1⟩
theorem vx_callf {S SX : Type} {post : UInt32 → S → Prop} {px : SX → Prop} {B : S → State → Prop} {BX : String → SX → State → Prop} {AX : Nat → Prop} (hr : vx_Run p l e R s m args below meth c H locs cells slots mc ms (F0 m pc ls st0) rest (va_Qf post B A1 a) (vx_X px BX AX) free) (hS : va_S A0 H0 H locs) (hA : ∀ q, q < H.size → A1 q → A0 q) (hf : ∀ q, free q → A0 q) (hAX : ∀ q, q < H.size → AX q → A0 q)
    (kx : ∀ (E : String) (ce : Cell) (q9 : Addr) (u : SX) (t : State) (H1 : Heap) (locs1 : List Loc), t.heap = H1 → s.vm.Alike t.vm → px u → BX E u t → H.size ≤ H1.size → (∀ q : Nat, q < H.size → ¬ AX q → H1[q]? = H[q]?) → va_S A0 H0 H1 locs1 → H1[q9]? = some ce → ce.vm = .none → s.vm.findClass E = some ce.cls → vx_W p l e R s m args below meth c H1 locs1 (cells + mc) (slots + ms) Q (F0 m pc ls rest) q9)
    (kk : ∀ (r : UInt32) (u : S) (t : State) (H1 : Heap) (locs1 : List Loc), t.heap = H1 → s.vm.Alike t.vm → post r u → B u t → H.size ≤ H1.size → (∀ q : Nat, q < H.size → ¬ A1 q → H1[q]? = H[q]?) → va_S A0 H0 H1 locs1 → W p l e R s m args below meth c H1 locs1 (cells + mc) (slots + ms) Q (F0 m (pc + 3) ls (.float r :: rest))) : W p l e R s m args below meth c H locs cells slots Q (F0 m pc ls st0) := by
  intro T hT X
  rcases hr T hT X with ⟨v, st₀, t, T', L, h0, X', hL, e1, e2, ⟨⟨r, u, hv, hp, hb⟩, hF⟩, st⟩ | ⟨q, st₀, t, T', L, E, ce, h0, X', hL, e1, e2, ⟨u, hp, hb, hF⟩, hce, hcv, hcl, st⟩
  · cases hv
    obtain ⟨k1, k2, k3⟩ := vx_keep h0 e1 hS hA hf hL hF
    obtain ⟨t2, a1, b1⟩ := kk r u t T'.heap (locs ++ L) e1.symm (by rw [← e2]; exact X'.warmed.alike) hp hb k1 k2 k3 T' rfl X'
    exact ⟨t2, st t2 a1, b1⟩
  · obtain ⟨k1, k2, k3⟩ := vx_keep h0 e1 hS hAX hf hL hF
    obtain ⟨t2, a1, b1⟩ := kx E ce q u t T'.heap (locs ++ L) e1.symm (by rw [← e2]; exact X'.warmed.alike) hp hb k1 k2 k3 (by rw [e1]; exact hce) hcv hcl T' rfl X'
    exact ⟨t2, st.trans a1, b1⟩
theorem vx_calld {S SX : Type} {post : UInt64 → S → Prop} {px : SX → Prop} {B : S → State → Prop} {BX : String → SX → State → Prop} {AX : Nat → Prop} (hr : vx_Run p l e R s m args below meth c H locs cells slots mc ms (F0 m pc ls st0) rest (va_Qd post B A1 a) (vx_X px BX AX) free) (hS : va_S A0 H0 H locs) (hA : ∀ q, q < H.size → A1 q → A0 q) (hf : ∀ q, free q → A0 q) (hAX : ∀ q, q < H.size → AX q → A0 q)
    (kx : ∀ (E : String) (ce : Cell) (q9 : Addr) (u : SX) (t : State) (H1 : Heap) (locs1 : List Loc), t.heap = H1 → s.vm.Alike t.vm → px u → BX E u t → H.size ≤ H1.size → (∀ q : Nat, q < H.size → ¬ AX q → H1[q]? = H[q]?) → va_S A0 H0 H1 locs1 → H1[q9]? = some ce → ce.vm = .none → s.vm.findClass E = some ce.cls → vx_W p l e R s m args below meth c H1 locs1 (cells + mc) (slots + ms) Q (F0 m pc ls rest) q9)
    (kk : ∀ (r : UInt64) (u : S) (t : State) (H1 : Heap) (locs1 : List Loc), t.heap = H1 → s.vm.Alike t.vm → post r u → B u t → H.size ≤ H1.size → (∀ q : Nat, q < H.size → ¬ A1 q → H1[q]? = H[q]?) → va_S A0 H0 H1 locs1 → W p l e R s m args below meth c H1 locs1 (cells + mc) (slots + ms) Q (F0 m (pc + 3) ls (.double r :: rest))) : W p l e R s m args below meth c H locs cells slots Q (F0 m pc ls st0) := by
  intro T hT X
  rcases hr T hT X with ⟨v, st₀, t, T', L, h0, X', hL, e1, e2, ⟨⟨r, u, hv, hp, hb⟩, hF⟩, st⟩ | ⟨q, st₀, t, T', L, E, ce, h0, X', hL, e1, e2, ⟨u, hp, hb, hF⟩, hce, hcv, hcl, st⟩
  · cases hv
    obtain ⟨k1, k2, k3⟩ := vx_keep h0 e1 hS hA hf hL hF
    obtain ⟨t2, a1, b1⟩ := kk r u t T'.heap (locs ++ L) e1.symm (by rw [← e2]; exact X'.warmed.alike) hp hb k1 k2 k3 T' rfl X'
    exact ⟨t2, st t2 a1, b1⟩
  · obtain ⟨k1, k2, k3⟩ := vx_keep h0 e1 hS hAX hf hL hF
    obtain ⟨t2, a1, b1⟩ := kx E ce q u t T'.heap (locs ++ L) e1.symm (by rw [← e2]; exact X'.warmed.alike) hp hb k1 k2 k3 (by rw [e1]; exact hce) hcv hcl T' rfl X'
    exact ⟨t2, st.trans a1, b1⟩
theorem vx_callv {S SX : Type} {post : S → Prop} {px : SX → Prop} {B : S → State → Prop} {BX : String → SX → State → Prop} {AX : Nat → Prop} (hr : vx_Run p l e R s m args below meth c H locs cells slots mc ms (F0 m pc ls st0) rest (va_Qv post B A1 a) (vx_X px BX AX) free) (hS : va_S A0 H0 H locs) (hA : ∀ q, q < H.size → A1 q → A0 q) (hf : ∀ q, free q → A0 q) (hAX : ∀ q, q < H.size → AX q → A0 q)
    (kx : ∀ (E : String) (ce : Cell) (q9 : Addr) (u : SX) (t : State) (H1 : Heap) (locs1 : List Loc), t.heap = H1 → s.vm.Alike t.vm → px u → BX E u t → H.size ≤ H1.size → (∀ q : Nat, q < H.size → ¬ AX q → H1[q]? = H[q]?) → va_S A0 H0 H1 locs1 → H1[q9]? = some ce → ce.vm = .none → s.vm.findClass E = some ce.cls → vx_W p l e R s m args below meth c H1 locs1 (cells + mc) (slots + ms) Q (F0 m pc ls rest) q9)
    (kk : ∀ (u : S) (t : State) (H1 : Heap) (locs1 : List Loc), t.heap = H1 → s.vm.Alike t.vm → post u → B u t → H.size ≤ H1.size → (∀ q : Nat, q < H.size → ¬ A1 q → H1[q]? = H[q]?) → va_S A0 H0 H1 locs1 → W p l e R s m args below meth c H1 locs1 (cells + mc) (slots + ms) Q (F0 m (pc + 3) ls (rest))) : W p l e R s m args below meth c H locs cells slots Q (F0 m pc ls st0) := by
  intro T hT X
  rcases hr T hT X with ⟨v, st₀, t, T', L, h0, X', hL, e1, e2, ⟨⟨u, hv, hp, hb⟩, hF⟩, st⟩ | ⟨q, st₀, t, T', L, E, ce, h0, X', hL, e1, e2, ⟨u, hp, hb, hF⟩, hce, hcv, hcl, st⟩
  · cases hv
    obtain ⟨k1, k2, k3⟩ := vx_keep h0 e1 hS hA hf hL hF
    obtain ⟨t2, a1, b1⟩ := kk u t T'.heap (locs ++ L) e1.symm (by rw [← e2]; exact X'.warmed.alike) hp hb k1 k2 k3 T' rfl X'
    exact ⟨t2, st t2 a1, b1⟩
  · obtain ⟨k1, k2, k3⟩ := vx_keep h0 e1 hS hAX hf hL hF
    obtain ⟨t2, a1, b1⟩ := kx E ce q u t T'.heap (locs ++ L) e1.symm (by rw [← e2]; exact X'.warmed.alike) hp hb k1 k2 k3 (by rw [e1]; exact hce) hcv hcl T' rfl X'
    exact ⟨t2, st.trans a1, b1⟩
/-- caught by the row x of this method's table; the rows ahead don't take it -/
theorem vx_catch {own name : String} {E : String} {ce : Cell} {q : Addr} (hown : s.vm.findClass own = some m.cls) (pre : List ExceptionTableEntry) (x : ExceptionTableEntry) (suf : List ExceptionTableEntry) (hsplit : c.exceptionTable.toList = pre ++ x :: suf)
    (hpass : ∀ z ∈ pre, covers z pc = false ∨ (z.catchType ≠ 0 ∧ ∃ nm : String, (Cond.classLink own z.catchType nm).before args s = true ∧ va_Nc E nm s)) (hx : covers x pc = true) (h0 : x.catchType ≠ 0)
    (hlink : (Cond.classLink own x.catchType name).before args s = true) (hcast : (Cond.castable E name).before args s = true) (hcell : H[q]? = some ce) (hv : ce.vm = .none) (hcl : s.vm.findClass E = some ce.cls)
    (kk : W p l e R s m args below meth c H locs cells slots Q (F0 m x.handlerPc ls [.ref q])) : vx_W p l e R s m args below meth c H locs cells slots Q (F0 m pc ls rest) q := by
  intro T hT X
  have hpl : e.platform.magicAccessors = ({} : Platform).magicAccessors := by rw [X.admits.platform]
  obtain ⟨c3, c4, hc3, hc4, hasg⟩ := Cond.castable_spec hcast
  cases Option.some.inj (hc3.symm.trans hcl)
  obtain ⟨c5, hc5, hcl5⟩ := Cond.classLink_spec hown hlink e.platform hpl
  cases Option.some.inj (hc4.symm.trans hc5)
  obtain ⟨vm', X', st⟩ := X.thenCaughtThrough q (g := F0 m pc ls rest) rfl (Steps.refl _) (by rw [hT]; exact hcell) (by rw [hv]; rfl) (by obtain ⟨k9, h9, -⟩ := Vm.findClass_spec hcl; exact ⟨k9, h9⟩) pre x suf hsplit
    (fun z hz => by
      rcases hpass z hz with h | ⟨hz0, nm, hl1, hn1⟩
      · exact Or.inl h
      · obtain ⟨c6, hc6, hcl6⟩ := Cond.classLink_spec hown hl1 e.platform hpl
        obtain ⟨a8, b8, h1, h2, h3⟩ := hn1
        cases Option.some.inj (h1.symm.trans hcl)
        cases Option.some.inj (h2.symm.trans hc6)
        exact Or.inr ⟨hz0, _, hcl6, h3⟩) hx (Or.inr ⟨h0, c4, hcl5, hasg⟩)
  obtain ⟨t, a1, b1⟩ := kk (T.setVm vm') hT X'
  exact ⟨t, st.trans a1, b1⟩
end Rows
section Ends
variable {p : Program} {l : Launch} {e : Env} {R : Room} {s : State} {m : MethodId} {args : Array Value} {below : List Frame} {meth : Method} {c : Code} {H : Heap} {locs : List Loc} {cells slots : Nat} {Q : State → Prop}
variable {mc ms : Nat} {free : Addr → Prop} {A0 A1 : Nat → Prop} {H0 : Heap} {a : Array Value} {ls : Array Slot} {st0 rest : List Value}
variable {Qc : Array Value → State → Outcome → State → Prop} {XC : String → State → State → Prop}
/-- what a body that may throw owes at its end -/
def vx_MQ (below : List Frame) (Qc : Array Value → State → Outcome → State → Prop) (XC : String → State → State → Prop) (a : Array Value) (s : State) (mc ms : Nat) (free : Addr → Prop) : State → Prop := fun t =>
  ∃ o, t.status = .running ∧ Ended t below o ∧ vx_Q Qc XC mc ms free a s o t
theorem vx_ret {g : JFrame} {mc ms : Nat} (k : W p l e R s m args below meth c H locs cells slots (MQ below Qc args s mc ms free) g) : W p l e R s m args below meth c H locs cells slots (vx_MQ below Qc XC args s mc ms free) g := by
  intro T hT X
  obtain ⟨t, a1, o, b1, b2, b3, b4⟩ := k T hT X
  exact ⟨t, a1, o, b1, b2, Or.inl ⟨b3, b4⟩⟩
/-- not caught here: it goes on to the caller -/
theorem vx_widen {g : JFrame} {q : Addr} {k n : Nat} (h1 : cells ≤ k) (h2 : slots ≤ n) (kk : vx_W p l e R s m args below meth c H locs k n Q g q) : vx_W p l e R s m args below meth c H locs cells slots Q g q := fun T hT X => kk T hT (stand_widen X h1 h2)
theorem vx_out {pc : Nat} {E : String} {ce : Cell} {q : Addr} {mc ms : Nat} (hout : ∀ x ∈ c.exceptionTable.toList, covers x pc = false) (hlocks : meth.locks = false) (hcell : H[q]? = some ce) (hv : ce.vm = .none) (hcl : s.vm.findClass E = some ce.cls)
    (hx : ∀ t : State, t.heap = H → s.vm.Alike t.vm → XC E s t) (hf : ∀ z ∈ locs, free z.base) (hc : cells ≤ mc) (hs : slots ≤ ms) :
    vx_W p l e R s m args below meth c H locs cells slots (vx_MQ below Qc XC args s mc ms free) (F0 m pc ls rest) q := by
  intro T hT X
  obtain ⟨st1, hrun, hend, hW, hsm⟩ := X.leaveThrown q (g := F0 m pc ls rest) rfl rfl rfl hout hlocks
  have hcell9 : (T.setFrames (.throwing q :: below)).heap[q]? = some ce := by
    show T.heap[q]? = some ce
    rw [hT]; exact hcell
  exact ⟨_, st1, .threw q, hrun, hend, Or.inr ⟨q, rfl, E, ce, locs, hx _ hT hW.alike, hcell9, hv, hcl, hW, hsm.mono hc hs, hf⟩⟩
theorem vx_frame {U : State} {k n : Nat} (h : s.sameButNew ({ U with vm := s.vm } : State) locs k n) : s.heap.size ≤ U.heap.size ∧ ∀ q : Nat, q < s.heap.size → (∀ z ∈ locs, z.base ≠ q) → U.heap[q]? = s.heap[q]? := by
  obtain ⟨-, h2, -, -, -, h6⟩ := h
  refine ⟨h2, fun q hq hz => ?_⟩
  obtain ⟨c9, e1, e2, e3, e4⟩ := h6 q _ (Array.getElem?_eq_getElem hq)
  have hs : c9.slots = (s.heap[q]).slots := Array.ext_getElem? fun i => e4 i fun hm => hz _ hm rfl
  have h9 : c9 = s.heap[q] := by
    rw [hs] at e2
    exact e2
  have e5 : U.heap[q]? = some c9 := e1
  rw [e5, h9, Array.getElem?_eq_getElem hq]
/-- the words of a throw but the four that speak of the heap -/
def vx_no (w : Cond) : Bool := decide (w ≠ .isRef (.static Bundle.tN "UNASSIGNED_STACK" Bundle.steD)) && decide (w ≠ .isRef (.static Bundle.tN "SUPPRESSED_SENTINEL" Bundle.listD)) && decide (w ≠ .laysStatic Bundle.tN "UNASSIGNED_STACK" Bundle.steD) && decide (w ≠ .laysStatic Bundle.tN "SUPPRESSED_SENTINEL" Bundle.listD)
def vx_at0 (own : String) (ic : Nat) (X : String) (names : List String) : List Cond := (Bundle.ownAtoms0 own ic X names).filter vx_no
def vx_atS (own : String) (ic : Nat) (X : String) (names : List String) : List Cond := (Bundle.ownAtoms own ic X names).filter vx_no
/-- a word that the tables alone decide, or a good one -/
def vx_ot (w : Cond) : Bool := w.onTables || goodWord w
theorem vx_ot_at {args a' : Array Value} {s U : State} {w : Cond} (hW : s.WarmedH U.vm) (hvm : s.vm = U.vm) (hg : vx_ot w = true) (h : w.before args s = true) : w.before a' U = true := by
  simp only [vx_ot, Bool.or_eq_true] at hg
  rcases hg with hg | hg
  · exact va_tabs hg hvm h
  · exact word_at hW (good_of_word hg) h
/-- a list's words: the good ones out of the method's own list, the others by premises of their own -/
theorem vx_hat {args : Array Value} {s : State} {L B : List Cond} (h1 : ∀ w ∈ L.filter goodWord, w.before args s = true) (h2 : ∀ w ∈ L.filter (fun w => !goodWord w), w ∈ B) (h3 : ∀ w ∈ B, w.before args s = true) : ∀ w ∈ L, w.before args s = true := by
  intro w hw
  by_cases g : goodWord w = true
  · exact h1 w (List.mem_filter.mpr ⟨hw, g⟩)
  · refine h3 w (h2 w (List.mem_filter.mpr ⟨hw, ?_⟩))
    show (!goodWord w) = true
    cases hgw : goodWord w
    · rfl
    · exact absurd hgw g
theorem vx_c {args : Array Value} {s : State} {w : Cond} {B : List Cond} (h : w.before args s = true) (t : ∀ w ∈ B, w.before args s = true) : ∀ w' ∈ w :: B, w'.before args s = true := fun w' h' => (List.mem_cons.mp h').elim (fun e => by rw [e]; exact h) (t w')
theorem vx_n {args : Array Value} {s : State} : ∀ w ∈ ([] : List Cond), w.before args s = true := fun _ h => nomatch h
theorem vx_own {args : Array Value} {s : State} {L : List Cond} (h1 : ∀ w ∈ L.filter vx_no, w.before args s = true)
    (hU : (Cond.isRef (.static Bundle.tN "UNASSIGNED_STACK" Bundle.steD)).before args s = true) (hN : (Cond.isRef (.static Bundle.tN "SUPPRESSED_SENTINEL" Bundle.listD)).before args s = true)
    (lU : (Cond.laysStatic Bundle.tN "UNASSIGNED_STACK" Bundle.steD).before args s = true) (lN : (Cond.laysStatic Bundle.tN "SUPPRESSED_SENTINEL" Bundle.listD).before args s = true) : ∀ w ∈ L, w.before args s = true := by
  intro w hw
  by_cases e1 : w = .isRef (.static Bundle.tN "UNASSIGNED_STACK" Bundle.steD)
  · rw [e1]; exact hU
  · by_cases e2 : w = .isRef (.static Bundle.tN "SUPPRESSED_SENTINEL" Bundle.listD)
    · rw [e2]; exact hN
    · by_cases e3 : w = .laysStatic Bundle.tN "UNASSIGNED_STACK" Bundle.steD
      · rw [e3]; exact lU
      · by_cases e4 : w = .laysStatic Bundle.tN "SUPPRESSED_SENTINEL" Bundle.listD
        · rw [e4]; exact lN
        · exact h1 w (List.mem_filter.mpr ⟨hw, by unfold vx_no; rw [decide_eq_true e1, decide_eq_true e2, decide_eq_true e3, decide_eq_true e4]; rfl⟩)
/-- where a static field lies, its class's statics cell in H -/
def vx_L (C n d : String) (A : Nat → Prop) (U : State) (H : Heap) : Prop := ∃ (c : ClassId) (k : Class) (i : Nat) (f : Field) (a : Nat) (cell : Cell), U.vm.findClass C = some c ∧ U.fieldFound? C n d = some (c, k, i, f) ∧ f.isStatic = true ∧ k.statics = some a ∧ H[a]? = some cell ∧ cell.vm.isStatics = true ∧ cell.cls = c ∧ f.slot < cell.slots.size ∧ k.staticTypes[f.slot]? = some f.type ∧ ¬ A a
theorem vx_L.moved {C n d : String} {A : Nat → Prop} {u U : State} {H : Heap} (hvm : u.vm.Alike U.vm) (h : vx_L C n d A u H) : vx_L C n d A U H := by
  obtain ⟨c, k, i, f, a, cell, h1, h2, h3, h4, h5, h6, h7, h8, h9, h10⟩ := h
  obtain ⟨k', hi', he⟩ := State.fieldFound?_setVm hvm h2
  exact ⟨c, k', i, f, a, cell, by rw [hvm.findClass]; exact h1, hi', h3, by rw [he]; exact h4, h5, h6, h7, h8, by rw [he]; exact h9, h10⟩
theorem vx_L.kept {C n d : String} {A : Nat → Prop} {U : State} {H H1 : Heap} (h : vx_L C n d A U H) (hq : ∀ a : Nat, a < H.size → ¬ A a → H1[a]? = H[a]?) : vx_L C n d A U H1 := by
  obtain ⟨c, k, i, f, a, cell, h1, h2, h3, h4, h5, h6, h7, h8, h9, h10⟩ := h
  exact ⟨c, k, i, f, a, cell, h1, h2, h3, h4, by rw [hq a (Array.getElem?_eq_some_iff.mp h5).1 h10]; exact h5, h6, h7, h8, h9, h10⟩
theorem vx_L.narrow {C n d : String} {A B : Nat → Prop} {U : State} {H : Heap} (h : vx_L C n d A U H) (hAB : ∀ q, B q → A q) : vx_L C n d B U H := by
  obtain ⟨c, k, i, f, a, cell, h1, h2, h3, h4, h5, h6, h7, h8, h9, h10⟩ := h
  exact ⟨c, k, i, f, a, cell, h1, h2, h3, h4, h5, h6, h7, h8, h9, fun z => h10 (hAB _ z)⟩
theorem vx_L.word {C n d : String} {A : Nat → Prop} {s : State} {args : Array Value} (h : vx_L C n d A s s.heap) : (Cond.laysStatic C n d).before args s = true := by
  obtain ⟨c, k, i, f, a, cell, h1, h2, h3, h4, h5, h6, h7, h8, h9, -⟩ := h
  show (Cond.laysStatic C n d).holds args s none s [] = true
  exact Cond.laysStatic_of h1 h2 h3 h4 h5 h6 h7 h8 h9
/-- .. and what it holds: null or some reference -/
def vx_Zq (C n d : String) (A : Nat → Prop) (U : State) (H : Heap) : Prop := va_Zq C n d A U H ∧ vx_L C n d A U H
theorem vx_Zq.moved {C n d : String} {A : Nat → Prop} {u U : State} {H : Heap} (hvm : u.vm.Alike U.vm) (h : vx_Zq C n d A u H) : vx_Zq C n d A U H := ⟨va_Zq.moved hvm h.1, vx_L.moved hvm h.2⟩
theorem vx_Zq.kept {C n d : String} {A : Nat → Prop} {U : State} {H H1 : Heap} (h : vx_Zq C n d A U H) (hq : ∀ a : Nat, a < H.size → ¬ A a → H1[a]? = H[a]?) : vx_Zq C n d A U H1 := ⟨va_Zq.kept h.1 hq, vx_L.kept h.2 hq⟩
theorem vx_Zq.narrow {C n d : String} {A B : Nat → Prop} {U : State} {H : Heap} (h : vx_Zq C n d A U H) (hAB : ∀ q, B q → A q) : vx_Zq C n d B U H := ⟨va_Zq.narrow h.1 hAB, vx_L.narrow h.2 hAB⟩
theorem vx_Zqof {args : Array Value} {s : State} {C n d : String} {A : Nat → Prop} (hl : (Cond.laysStatic C n d).before args s = true) (hini : (Cond.initialized C).before args s = true) (h : (Cond.isRef (.static C n d)).before args s = true) (hA : ∀ a : Nat, a < s.heap.size → ¬ A a) : vx_Zq C n d A s s.heap := by
  refine ⟨va_Zqof hl hini h hA, ?_⟩
  obtain ⟨c, k, i, f, a, cell, h1, h2, h3, h4, h5, h6, h7, h8, h9⟩ := Cond.laysStatic_spec hl
  exact ⟨c, k, i, f, a, cell, h1, h2, h3, h4, h5, h6, h7, h8, h9, hA a (Array.getElem?_eq_some_iff.mp h5).1⟩
theorem vx_isRef {C n d : String} {v : Value} {A : Nat → Prop} {s : State} {args : Array Value} (h : va_Z C n d v A s s.heap) (hv : v.isRef = true) : (Cond.isRef (.static C n d)).before args s = true := by
  obtain ⟨cf, kf, fi, f, a, cell, h1, h2, h3, h4, h5, h6, h7, -⟩ := h
  have he : (Term.static C n d).eval args s none [] s = some v := by
    simp [Term.eval, State.fieldNamed?, h1, h2, h4, h5, h6, h7]
  simp only [Cond.before, Cond.holds, Cond.value, he]
  cases v <;> simp_all [Value.isRef]
theorem vx_isRefq {C n d : String} {A : Nat → Prop} {s : State} {args : Array Value} (h : va_Zq C n d A s s.heap) : (Cond.isRef (.static C n d)).before args s = true := by
  rcases h with h | ⟨t, h⟩
  · exact vx_isRef h rfl
  · exact vx_isRef h rfl
/-- the same frame, seen from here: as if the method were called anew in this heap -/
theorem vx_rebase {T : State} (X : Stand p l e R s m args below meth c T locs cells slots) {R' : Room} (hf : R'.frames ≤ R.frames) (hl : R'.locals ≤ R.locals) (hc : cells + R'.cells ≤ R.cells) (hs : slots + R'.slots ≤ R.slots) :
    Stand p l e R' ((T.setVm s.vm).setFrames (.invoking m args :: below)) m args below meth c T [] 0 0 := by
  have htop : (T.setVm s.vm).topJava?.isSome := X.here.top
  have hF : ((T.setVm s.vm).setFrames (.invoking m args :: below)).frames = .invoking m args :: below := State.frames_setFrames _ (State.cur_lt_of_top htop)
  obtain ⟨g₀, hg0⟩ := Option.isSome_iff_exists.mp htop
  obtain ⟨r, hr⟩ := State.topJava?_eq_some.mp hg0
  have hl9 : e.platform.stackLimits (T.setVm s.vm).me = e.platform.stackLimits s.me := X.limits
  have hb9 : (T.setVm s.vm).me.stackBytes = s.me.stackBytes := X.bytes
  refine ⟨X.admits, X.cas, X.clock, hF, ?_, X.hears, X.method, X.code, X.here, X.tail, X.warmed, ?_, ?_, ?_⟩
  · have h := X.room
    have hU : ((T.setVm s.vm).setFrames (.invoking m args :: below)).localsInUse = s.localsInUse := by
      rw [State.localsInUse_invoking hF (meth := meth) (c := c) X.method X.code, State.localsInUse_invoking X.frames X.method X.code]
    simp only [State.hasRoom, Bool.and_eq_true, decide_eq_true_eq] at h ⊢
    obtain ⟨⟨⟨⟨h1, h2, h3, h4, h5, h6⟩, h7⟩, h8⟩, h9⟩ := h
    rw [X.frames, List.length_cons] at h2 h3
    have q1 := X.heapSize
    have q2 := X.used
    simp only [hF, hU, List.length_cons, State.stackLimits_setFrames, State.stackBytes_setFrames, hl9, hb9]
    refine ⟨⟨⟨⟨by omega, by omega, by omega, by omega, by omega, h6⟩, ?_⟩, ?_⟩, X.book⟩
    · show T.heap.size + R'.cells ≤ e.platform.maxCells
      omega
    · show T.slotsUsed + R'.slots ≤ e.platform.maxSlots
      omega
  · rw [State.stackLimits_setFrames]; rfl
  · rw [State.stackBytes_setFrames]; rfl
  · refine ⟨?_, Nat.le_refl _, Nat.le_refl _, ?_, ?_, fun a c9 h9 => ⟨c9, h9, rfl, rfl, fun _ _ => rfl⟩⟩
    · obtain ⟨t, ht, -⟩ := State.frames_cons hr
      show T.setVm s.vm = { ((T.setVm s.vm).setFrames (.invoking m args :: below)).setFrames (T.setVm s.vm).frames with heap := T.heap, slotsUsed := T.slotsUsed }
      rw [State.setFrames_setFrames, State.setFrames_self ht]
      rfl
    · show T.slotsUsed = T.slotsUsed + ((T.heap.toList.drop T.heap.size).map (·.slots.size)).sum
      rw [List.drop_eq_nil_of_le (Nat.le_of_eq Array.length_toList)]
      rfl
    · show ((T.heap.toList.drop T.heap.size).map (·.slots.size)).sum ≤ 0
      rw [List.drop_eq_nil_of_le (Nat.le_of_eq Array.length_toList)]
      exact Nat.le_refl _
/-- 'throw new E()': new; dup; invokespecial; athrow -/
theorem vx_throw0 {cc : ByteArray} {pc : Nat} (hexec : p.tables.exec = Jvm.exec) (hb : c.code = cc) (hl : l.stackTraces = false) {own cls : String} {names : List String} {ik ic mc ms : Nat} {A : Nat → Prop}
    (hown : s.vm.findClass own = some m.cls) (hcls : Bundle.fit cls = true) (hnames : ∀ n ∈ names, Bundle.fit n = true)
    (hk : (Cond.classLink own ik cls).before args s = true) (hini : (Cond.initialized cls).before args s = true) (hat : ∀ w ∈ vx_at0 own ic cls names, w.before args s = true)
    (hgood : ∀ w ∈ Cond.classLink own ik cls :: Cond.initialized cls :: vx_at0 own ic cls names, vx_ot w = true)
    (hU : vx_Zq Bundle.tN "UNASSIGNED_STACK" Bundle.steD A s s.heap) (hN : vx_Zq Bundle.tN "SUPPRESSED_SENTINEL" Bundle.listD A s s.heap) (hS : va_S A s.heap H locs) (hsize : ls.size = c.maxLocals)
    (d0 : decode cc pc = .ok (.new ik, 3)) (d3 : decode cc (pc + 3) = .ok (.dup, 1)) (d4 : decode cc (pc + 4) = .ok (.invokespecial ic, 3)) (d7 : decode cc (pc + 7) = .ok (.athrow, 1))
    (hout : ∀ x ∈ c.exceptionTable.toList, covers x (pc + 7) = false)
    (hRframes : names.length + 3 < R.frames) (hRlocals : (rest.map fun v => v.category).sum + (13 * (names.length + 1) + 42) ≤ R.locals) (hRcells : cells + 1 ≤ R.cells) (hRslots : slots + 6 ≤ R.slots) (hlocks : meth.locks = false)
    (hx : ∀ t : State, s.vm.Alike t.vm → H.size ≤ t.heap.size → (∀ q : Nat, q < H.size → t.heap[q]? = H[q]?) → XC cls s t)
    (hf : ∀ z ∈ locs, free z.base) (hc : cells + 1 ≤ mc) (hs : slots + 6 ≤ ms) :
    W p l e R s m args below meth c H locs cells slots (vx_MQ below Qc XC args s mc ms free) (F0 m pc ls rest) := by
  intro T hT X
  have htr : e.platform.stackTraces = false := (show e.platform.stackTraces = l.stackTraces by rw [X.admits.platform]).trans hl
  have Y := vx_rebase X (R' := { frames := R.frames, locals := R.locals, cells := 1, slots := 6 }) (Nat.le_refl _) (Nat.le_refl _) hRcells hRslots
  obtain ⟨s', hA⟩ : ∃ z, z = (T.setVm s.vm).setFrames (.invoking m args :: below) := ⟨_, rfl⟩
  rw [← hA] at Y
  have hvm : s'.vm = s.vm := by rw [hA]; rfl
  have hhp : s'.heap = H := by rw [hA]; exact hT
  have hW0 : s.WarmedH s'.vm := by rw [hvm]; exact State.WarmedH.refl s
  have hat' : ∀ w ∈ vx_at0 own ic cls names, w.before args s' = true := fun w hw => vx_ot_at hW0 hvm.symm (hgood w (List.mem_cons_of_mem _ (List.mem_cons_of_mem _ hw))) (hat w hw)
  have hk' : (Cond.classLink own ik cls).before args s' = true := vx_ot_at hW0 hvm.symm (hgood _ List.mem_cons_self) hk
  have hini' : (Cond.initialized cls).before args s' = true := vx_ot_at hW0 hvm.symm (hgood _ (List.mem_cons_of_mem _ List.mem_cons_self)) hini
  have hU' : vx_Zq Bundle.tN "UNASSIGNED_STACK" Bundle.steD A s' s'.heap := by rw [hhp]; exact vx_Zq.moved hW0.alike (hU.kept hS.2.1)
  have hN' : vx_Zq Bundle.tN "SUPPRESSED_SENTINEL" Bundle.listD A s' s'.heap := by rw [hhp]; exact vx_Zq.moved hW0.alike (hN.kept hS.2.1)
  have h : ∀ w ∈ Bundle.ownAtoms0 own ic cls names, w.before args s' = true := vx_own hat' (vx_isRefq hU'.1) (vx_isRefq hN'.1) hU'.2.word hN'.2.word
  have hown' : s'.vm.findClass own = some m.cls := by rw [hvm]; exact hown
  have hins : (Cond.instantiable cls 6).before args s' = true := h _ (by simp [Bundle.ownAtoms0])
  obtain ⟨vm₁, cX, kX, hfX, hkX, -, -, X₁, st1⟩ := Y.newCold hexec (own := own) (C := cls) (index := ik) (n := 6) hown' hk' hins hini'
    (g := F0 m pc ls rest) rfl (by rw [hb]; exact d0) (Nat.le_refl _) (Nat.le_refl _)
  generalize hT1 : (T.setVm vm₁).pushCell { cls := cX, slots := kX.instanceTypes.map defaultValue, vm := .none } = T1 at X₁ st1
  have hcat : (Value.ref T.heap.size).category = 1 := rfl
  have hcellA : T1.heap[T.heap.size]? = some (freshCell cX kX) := by rw [← hT1]; exact State.heap_pushCell_size _ _
  have d3' : decode c.code (pc + 3) = .ok (.dup, 1) := by rw [hb]; exact d3
  obtain ⟨U, hsteps, hrun, hend, hW, hsame, ce, hce, hO⟩ := X₁.ctorThrow0 hexec htr (own := own) (cls := cls) (names := names) (ic := ic) hown' hcls hnames h (fun x hx => nomatch hx) hfX hkX hcellA (by rw [hhp, hT]; exact Nat.le_refl _)
    (g := { method := m, pc := pc + 4, locals := ls, stack := .ref T.heap.size :: .ref T.heap.size :: rest, locked := none }) rfl hsize rfl rfl (rest := rest) rfl
    (by rw [hb]; exact d4) (by rw [hb]; exact d7) hout hRframes (by simp only [List.map_cons, List.sum_cons, hcat]; omega) hlocks
  obtain ⟨f1, f2⟩ := vx_frame hsame
  rw [hhp] at f1 f2
  have hWs : s.WarmedH U.vm := State.WarmedH.trans hW0 hW
  have hcl : s.vm.findClass cls = some ce.cls := by
    have h9 := hO.cls
    rw [hvm] at h9
    exact h9
  have hall : s.sameButNew ({ U with vm := s.vm } : State) locs mc ms := by
    subst hA
    obtain ⟨e1, e2⟩ := hsame
    rw [State.setFrames_setFrames] at e1
    have h2 : (T.setVm s.vm).sameButNew ({ U with vm := s.vm } : State) [] (0 + 1) (0 + 6) := ⟨e1, e2⟩
    have h3 := X.same.trans h2
    rw [List.append_nil] at h3
    exact h3.mono hc hs
  refine ⟨U, ?_, .threw T.heap.size, hrun, hend, Or.inr ⟨T.heap.size, rfl, cls, ce, locs, hx U hWs.alike f1 (fun q hq => f2 q hq (fun z hz => nomatch hz)), hce, hO.vm, hcl, hWs, hall, hf⟩⟩
  refine st1 _ ?_
  show Steps p.tables e below (T1.setTop { method := m, pc := pc + 3, locals := ls, stack := .ref T.heap.size :: rest, locked := none }) _
  jvm_step X₁.here [X₁.here.top, hexec, d3', Value.category]
  exact hsteps
/-- 'throw new E("text")': new; dup; ldc; invokespecial; athrow -/
theorem vx_throwS {cc : ByteArray} {pc : Nat} (hexec : p.tables.exec = Jvm.exec) (hb : c.code = cc) (hl : l.stackTraces = false) {own cls text : String} {names : List String} {ik is ic mc ms sa : Nat} {A : Nat → Prop}
    (hown : s.vm.findClass own = some m.cls) (hcls : Bundle.fit cls = true) (hnames : ∀ n ∈ names, Bundle.fit n = true)
    (hk : (Cond.classLink own ik cls).before args s = true) (hini : (Cond.initialized cls).before args s = true) (hstr : vk_R own is text sa s) (hat : ∀ w ∈ vx_atS own ic cls names, w.before args s = true)
    (hgood : ∀ w ∈ Cond.classLink own ik cls :: Cond.initialized cls :: vx_atS own ic cls names, vx_ot w = true)
    (hU : vx_Zq Bundle.tN "UNASSIGNED_STACK" Bundle.steD A s s.heap) (hN : vx_Zq Bundle.tN "SUPPRESSED_SENTINEL" Bundle.listD A s s.heap) (hS : va_S A s.heap H locs) (hsize : ls.size = c.maxLocals)
    (d0 : decode cc pc = .ok (.new ik, 3)) (d3 : decode cc (pc + 3) = .ok (.dup, 1)) (d4 : decode cc (pc + 4) = .ok (.ldc is, 2)) (d6 : decode cc (pc + 6) = .ok (.invokespecial ic, 3)) (d9 : decode cc (pc + 9) = .ok (.athrow, 1))
    (hout : ∀ x ∈ c.exceptionTable.toList, covers x (pc + 9) = false)
    (hRframes : names.length + 3 < R.frames) (hRlocals : (rest.map fun v => v.category).sum + (13 * (names.length + 1) + 43) ≤ R.locals) (hRcells : cells + 1 ≤ R.cells) (hRslots : slots + 6 ≤ R.slots) (hlocks : meth.locks = false)
    (hx : ∀ t : State, s.vm.Alike t.vm → H.size ≤ t.heap.size → (∀ q : Nat, q < H.size → t.heap[q]? = H[q]?) → XC cls s t)
    (hf : ∀ z ∈ locs, free z.base) (hc : cells + 1 ≤ mc) (hs : slots + 6 ≤ ms) :
    W p l e R s m args below meth c H locs cells slots (vx_MQ below Qc XC args s mc ms free) (F0 m pc ls rest) := by
  intro T hT X
  have htr : e.platform.stackTraces = false := (show e.platform.stackTraces = l.stackTraces by rw [X.admits.platform]).trans hl
  have Y := vx_rebase X (R' := { frames := R.frames, locals := R.locals, cells := 1, slots := 6 }) (Nat.le_refl _) (Nat.le_refl _) hRcells hRslots
  obtain ⟨s', hA⟩ : ∃ z, z = (T.setVm s.vm).setFrames (.invoking m args :: below) := ⟨_, rfl⟩
  rw [← hA] at Y
  have hvm : s'.vm = s.vm := by rw [hA]; rfl
  have hhp : s'.heap = H := by rw [hA]; exact hT
  have hW0 : s.WarmedH s'.vm := by rw [hvm]; exact State.WarmedH.refl s
  have hat' : ∀ w ∈ vx_atS own ic cls names, w.before args s' = true := fun w hw => vx_ot_at hW0 hvm.symm (hgood w (List.mem_cons_of_mem _ (List.mem_cons_of_mem _ hw))) (hat w hw)
  have hk' : (Cond.classLink own ik cls).before args s' = true := vx_ot_at hW0 hvm.symm (hgood _ List.mem_cons_self) hk
  have hini' : (Cond.initialized cls).before args s' = true := vx_ot_at hW0 hvm.symm (hgood _ (List.mem_cons_of_mem _ List.mem_cons_self)) hini
  have hU' : vx_Zq Bundle.tN "UNASSIGNED_STACK" Bundle.steD A s' s'.heap := by rw [hhp]; exact vx_Zq.moved hW0.alike (hU.kept hS.2.1)
  have hN' : vx_Zq Bundle.tN "SUPPRESSED_SENTINEL" Bundle.listD A s' s'.heap := by rw [hhp]; exact vx_Zq.moved hW0.alike (hN.kept hS.2.1)
  have h : ∀ w ∈ Bundle.ownAtoms own ic cls names, w.before args s' = true := vx_own hat' (vx_isRefq hU'.1) (vx_isRefq hN'.1) hU'.2.word hN'.2.word
  have hown' : s'.vm.findClass own = some m.cls := by rw [hvm]; exact hown
  have hins : (Cond.instantiable cls 6).before args s' = true := h _ (by simp [Bundle.ownAtoms])
  obtain ⟨vm₁, cX, kX, hfX, hkX, -, -, X₁, st1⟩ := Y.newCold hexec (own := own) (C := cls) (index := ik) (n := 6) hown' hk' hins hini'
    (g := F0 m pc ls rest) rfl (by rw [hb]; exact d0) (Nat.le_refl _) (Nat.le_refl _)
  generalize hT1 : (T.setVm vm₁).pushCell { cls := cX, slots := kX.instanceTypes.map defaultValue, vm := .none } = T1 at X₁ st1
  have hcat : (Value.ref T.heap.size).category = 1 := rfl
  have hcellA : T1.heap[T.heap.size]? = some (freshCell cX kX) := by rw [← hT1]; exact State.heap_pushCell_size _ _
  have d3' : decode c.code (pc + 3) = .ok (.dup, 1) := by rw [hb]; exact d3
  have d4' : decode c.code (pc + 4) = .ok (.ldc is, 2) := by rw [hb]; exact d4
  have hstr' : vk_R own is text sa s' := vk_R.warm hW0 hstr
  obtain ⟨U, hsteps, hrun, hend, hW, hsame, ce, hce, hO⟩ := X₁.ctorThrowS hexec htr (own := own) (cls := cls) (names := names) (ic := ic) hown' hcls hnames h (fun x hx => nomatch hx) hfX hkX hcellA (by rw [hhp, hT]; exact Nat.le_refl _) (msg := .ref sa) rfl
    (g := { method := m, pc := pc + 6, locals := ls, stack := .ref sa :: .ref T.heap.size :: .ref T.heap.size :: rest, locked := none }) rfl hsize rfl rfl (rest := rest) rfl
    (by rw [hb]; exact d6) (by rw [hb]; exact d9) hout hRframes (by simp only [List.map_cons, List.sum_cons, hcat]; omega) hlocks
  obtain ⟨f1, f2⟩ := vx_frame hsame
  rw [hhp] at f1 f2
  have hWs : s.WarmedH U.vm := State.WarmedH.trans hW0 hW
  have hcl : s.vm.findClass cls = some ce.cls := by
    have h9 := hO.cls
    rw [hvm] at h9
    exact h9
  have hall : s.sameButNew ({ U with vm := s.vm } : State) locs mc ms := by
    subst hA
    obtain ⟨e1, e2⟩ := hsame
    rw [State.setFrames_setFrames] at e1
    have h2 : (T.setVm s.vm).sameButNew ({ U with vm := s.vm } : State) [] (0 + 1) (0 + 6) := ⟨e1, e2⟩
    have h3 := X.same.trans h2
    rw [List.append_nil] at h3
    exact h3.mono hc hs
  refine ⟨U, ?_, .threw T.heap.size, hrun, hend, Or.inr ⟨T.heap.size, rfl, cls, ce, locs, hx U hWs.alike f1 (fun q hq => f2 q hq (fun z hz => nomatch hz)), hce, hO.vm, hcl, hWs, hall, hf⟩⟩
  refine st1 _ ?_
  show Steps p.tables e below (T1.setTop { method := m, pc := pc + 3, locals := ls, stack := .ref T.heap.size :: rest, locked := none }) _
  jvm_step X₁.here [X₁.here.top, hexec, d3', Value.category]
  exact X₁.ldcString hexec (own := own) (text := text) (index := is) (a := sa) hown' hstr'.1 hstr'.2
    (g := { method := m, pc := pc + 4, locals := ls, stack := .ref T.heap.size :: .ref T.heap.size :: rest, locked := none }) rfl d4' _ hsteps
/-- 'throw new E("text")', the text by a wide index -/
theorem vx_throwSW {cc : ByteArray} {pc : Nat} (hexec : p.tables.exec = Jvm.exec) (hb : c.code = cc) (hl : l.stackTraces = false) {own cls text : String} {names : List String} {ik is ic mc ms sa : Nat} {A : Nat → Prop}
    (hown : s.vm.findClass own = some m.cls) (hcls : Bundle.fit cls = true) (hnames : ∀ n ∈ names, Bundle.fit n = true)
    (hk : (Cond.classLink own ik cls).before args s = true) (hini : (Cond.initialized cls).before args s = true) (hstr : vk_R own is text sa s) (hat : ∀ w ∈ vx_atS own ic cls names, w.before args s = true)
    (hgood : ∀ w ∈ Cond.classLink own ik cls :: Cond.initialized cls :: vx_atS own ic cls names, vx_ot w = true)
    (hU : vx_Zq Bundle.tN "UNASSIGNED_STACK" Bundle.steD A s s.heap) (hN : vx_Zq Bundle.tN "SUPPRESSED_SENTINEL" Bundle.listD A s s.heap) (hS : va_S A s.heap H locs) (hsize : ls.size = c.maxLocals)
    (d0 : decode cc pc = .ok (.new ik, 3)) (d3 : decode cc (pc + 3) = .ok (.dup, 1)) (d4 : decode cc (pc + 4) = .ok (.ldc_w is, 3)) (d7 : decode cc (pc + 7) = .ok (.invokespecial ic, 3)) (d10 : decode cc (pc + 10) = .ok (.athrow, 1))
    (hout : ∀ x ∈ c.exceptionTable.toList, covers x (pc + 10) = false)
    (hRframes : names.length + 3 < R.frames) (hRlocals : (rest.map fun v => v.category).sum + (13 * (names.length + 1) + 43) ≤ R.locals) (hRcells : cells + 1 ≤ R.cells) (hRslots : slots + 6 ≤ R.slots) (hlocks : meth.locks = false)
    (hx : ∀ t : State, s.vm.Alike t.vm → H.size ≤ t.heap.size → (∀ q : Nat, q < H.size → t.heap[q]? = H[q]?) → XC cls s t)
    (hf : ∀ z ∈ locs, free z.base) (hc : cells + 1 ≤ mc) (hs : slots + 6 ≤ ms) :
    W p l e R s m args below meth c H locs cells slots (vx_MQ below Qc XC args s mc ms free) (F0 m pc ls rest) := by
  intro T hT X
  have htr : e.platform.stackTraces = false := (show e.platform.stackTraces = l.stackTraces by rw [X.admits.platform]).trans hl
  have Y := vx_rebase X (R' := { frames := R.frames, locals := R.locals, cells := 1, slots := 6 }) (Nat.le_refl _) (Nat.le_refl _) hRcells hRslots
  obtain ⟨s', hA⟩ : ∃ z, z = (T.setVm s.vm).setFrames (.invoking m args :: below) := ⟨_, rfl⟩
  rw [← hA] at Y
  have hvm : s'.vm = s.vm := by rw [hA]; rfl
  have hhp : s'.heap = H := by rw [hA]; exact hT
  have hW0 : s.WarmedH s'.vm := by rw [hvm]; exact State.WarmedH.refl s
  have hat' : ∀ w ∈ vx_atS own ic cls names, w.before args s' = true := fun w hw => vx_ot_at hW0 hvm.symm (hgood w (List.mem_cons_of_mem _ (List.mem_cons_of_mem _ hw))) (hat w hw)
  have hk' : (Cond.classLink own ik cls).before args s' = true := vx_ot_at hW0 hvm.symm (hgood _ List.mem_cons_self) hk
  have hini' : (Cond.initialized cls).before args s' = true := vx_ot_at hW0 hvm.symm (hgood _ (List.mem_cons_of_mem _ List.mem_cons_self)) hini
  have hU' : vx_Zq Bundle.tN "UNASSIGNED_STACK" Bundle.steD A s' s'.heap := by rw [hhp]; exact vx_Zq.moved hW0.alike (hU.kept hS.2.1)
  have hN' : vx_Zq Bundle.tN "SUPPRESSED_SENTINEL" Bundle.listD A s' s'.heap := by rw [hhp]; exact vx_Zq.moved hW0.alike (hN.kept hS.2.1)
  have h : ∀ w ∈ Bundle.ownAtoms own ic cls names, w.before args s' = true := vx_own hat' (vx_isRefq hU'.1) (vx_isRefq hN'.1) hU'.2.word hN'.2.word
  have hown' : s'.vm.findClass own = some m.cls := by rw [hvm]; exact hown
  have hins : (Cond.instantiable cls 6).before args s' = true := h _ (by simp [Bundle.ownAtoms])
  obtain ⟨vm₁, cX, kX, hfX, hkX, -, -, X₁, st1⟩ := Y.newCold hexec (own := own) (C := cls) (index := ik) (n := 6) hown' hk' hins hini'
    (g := F0 m pc ls rest) rfl (by rw [hb]; exact d0) (Nat.le_refl _) (Nat.le_refl _)
  generalize hT1 : (T.setVm vm₁).pushCell { cls := cX, slots := kX.instanceTypes.map defaultValue, vm := .none } = T1 at X₁ st1
  have hcat : (Value.ref T.heap.size).category = 1 := rfl
  have hcellA : T1.heap[T.heap.size]? = some (freshCell cX kX) := by rw [← hT1]; exact State.heap_pushCell_size _ _
  have d3' : decode c.code (pc + 3) = .ok (.dup, 1) := by rw [hb]; exact d3
  have d4' : decode c.code (pc + 4) = .ok (.ldc_w is, 3) := by rw [hb]; exact d4
  have hstr' : vk_R own is text sa s' := vk_R.warm hW0 hstr
  obtain ⟨U, hsteps, hrun, hend, hW, hsame, ce, hce, hO⟩ := X₁.ctorThrowS hexec htr (own := own) (cls := cls) (names := names) (ic := ic) hown' hcls hnames h (fun x hx => nomatch hx) hfX hkX hcellA (by rw [hhp, hT]; exact Nat.le_refl _) (msg := .ref sa) rfl
    (g := { method := m, pc := pc + 7, locals := ls, stack := .ref sa :: .ref T.heap.size :: .ref T.heap.size :: rest, locked := none }) rfl hsize rfl rfl (rest := rest) rfl
    (by rw [hb]; exact d7) (by rw [hb]; exact d10) hout hRframes (by simp only [List.map_cons, List.sum_cons, hcat]; omega) hlocks
  obtain ⟨f1, f2⟩ := vx_frame hsame
  rw [hhp] at f1 f2
  have hWs : s.WarmedH U.vm := State.WarmedH.trans hW0 hW
  have hcl : s.vm.findClass cls = some ce.cls := by
    have h9 := hO.cls
    rw [hvm] at h9
    exact h9
  have hall : s.sameButNew ({ U with vm := s.vm } : State) locs mc ms := by
    subst hA
    obtain ⟨e1, e2⟩ := hsame
    rw [State.setFrames_setFrames] at e1
    have h2 : (T.setVm s.vm).sameButNew ({ U with vm := s.vm } : State) [] (0 + 1) (0 + 6) := ⟨e1, e2⟩
    have h3 := X.same.trans h2
    rw [List.append_nil] at h3
    exact h3.mono hc hs
  refine ⟨U, ?_, .threw T.heap.size, hrun, hend, Or.inr ⟨T.heap.size, rfl, cls, ce, locs, hx U hWs.alike f1 (fun q hq => f2 q hq (fun z hz => nomatch hz)), hce, hO.vm, hcl, hWs, hall, hf⟩⟩
  refine st1 _ ?_
  show Steps p.tables e below (T1.setTop { method := m, pc := pc + 3, locals := ls, stack := .ref T.heap.size :: rest, locked := none }) _
  jvm_step X₁.here [X₁.here.top, hexec, d3', Value.category]
  exact X₁.ldcStringW hexec (own := own) (text := text) (index := is) (a := sa) hown' hstr'.1 hstr'.2
    (g := { method := m, pc := pc + 4, locals := ls, stack := .ref T.heap.size :: .ref T.heap.size :: rest, locked := none }) rfl d4' _ hsteps
end Ends
section Bodies
variable {l : Launch}
theorem vx_ofW {y : MethodName} {ws ws' : List Cond} {rm : Room} {Pc : Array Value → State → Prop} {Qc : Array Value → State → Outcome → State → Prop} {XC : String → State → State → Prop} {mc ms : Nat} {free : Addr → Prop} {cc : ByteArray} {maxL : Nat} {ret : Option FieldType}
    (hy : plainName y.cls = true) (hw : ws = Cond.code y cc maxL ret :: ws')
    (body : ∀ p e s m args below meth c s₁, BodyLoose p l y (headSpec ws rm) cc maxL ret e s m args below meth c s₁ → c.maxLocals = maxL → (∀ x ∈ c.exceptionTable.toList, False) → Pc args s →
      W p l e (headSpec ws rm).room s m args below meth c s.heap [] 0 0 (vx_MQ below Qc XC args s mc ms free) (entryFrame m args maxL)) : vx_Met l y ws rm Pc Qc XC mc ms free := by
  refine MetFree.of_bodyS (code := cc) (maxLocals := maxL) (ret := ret) hy ?_ ?_
  · intro args s m h hn
    obtain ⟨meth, c, h1, h2, h3, h4, h5, h6, -, -⟩ := Cond.code_spec hn (atoms_spec (ws := ws) h _ (by rw [hw]; exact List.mem_cons_self))
    exact ⟨meth, c, h1, h2, h3, h4, h5, h6⟩
  · intro p e s m args below meth c s₁ B hml hP _
    have hh0 : s₁.heap = s.heap := by rw [B.state]; rfl
    have ht : ∀ x ∈ c.exceptionTable.toList, False := by
      obtain ⟨meth9, c9, h1, h2, -, -, -, -, h7, -⟩ := Cond.code_spec B.named (atoms_spec (ws := ws) B.pre _ (by rw [hw]; exact List.mem_cons_self))
      cases Option.some.inj (h1.symm.trans B.method)
      cases Option.some.inj (h2.symm.trans (Stand.of_body B).code)
      intro x hx
      rw [Array.isEmpty_iff.mp h7] at hx
      cases hx
    obtain ⟨t, a1, o, b1, b2, b3⟩ := body p e s m args below meth c s₁ B hml ht hP s₁ hh0 (Stand.of_body B)
    exact ⟨t, o, a1, b1, b2, b3⟩
/-- the table of a body with handlers -/
theorem vx_table {p : Program} {x y : MethodName} {S : Spec} {cc bytes : ByteArray} {maxL maxL' : Nat} {ret ret' : Option FieldType} {e : Env} {s s₁ : State} {m : MethodId} {args : Array Value} {below : List Frame} {meth : Method} {c : Code} {hh : List (Nat × Nat × Nat × Nat)}
    (B : BodyLoose p l y S cc maxL ret e s m args below meth c s₁) (h : (Cond.codeWith y bytes maxL' ret' hh).before args s = true) : c.exceptionTable.toList = tableOf hh := by
  obtain ⟨m9, meth9, c9, hn9, h1, h2, -, -, h6, -⟩ := Cond.codeWith_spec h
  cases Option.some.inj (hn9.symm.trans B.named)
  cases Option.some.inj (h1.symm.trans B.method)
  cases Option.some.inj (h2.symm.trans (Stand.of_body B).code)
  rw [← h6, table_eq]
end Bodies
end VXA
/-! ===== END ===== -/
/-! ===== BEGIN a static call of a method with an exception table ===== -/
section VXS
variable {p : Program} {l : Launch} {e : Env} {R : Room} {s : State} {m : MethodId} {args : Array Value} {below : List Frame} {meth : Method} {c : Code} {T : State} {H : Heap} {locs : List Loc} {cells slots : Nat}
abbrev vx_CSW (R : Room) (s : State) (args : Array Value) (own : String) (index : Nat) (y : MethodName) (bytes : ByteArray) (maxL : Nat) (ret : Option FieldType) (hh : List (Nat × Nat × Nat × Nat)) (ws : List Cond) (rm : Room) (mc ms n : Nat) : Prop :=
  (rm.cells = mc ∧ rm.slots = ms ∧ rm.frames + 1 ≤ R.frames ∧ 8 + (maxL + 11) + rm.locals ≤ R.locals ∧ (∀ w ∈ ws, ∀ (a' : Array Value) (U : State), s.WarmedH U.vm → w.before a' U = true) ∧ Cond.codeWith y bytes maxL ret hh ∈ ws) ∧
  (Cond.codeWith y bytes maxL ret hh).before args s = true ∧ (Cond.initialized y.cls).before args s = true ∧ (y.cls ≠ "java/lang/invoke/MethodHandle" ∧ y.cls ≠ "java/lang/invoke/VarHandle") ∧
  (∀ sig, parseMethodDescriptor y.desc = some sig → n = sig.parameters.length) ∧ (Cond.methodLink own index y).before args s = true ∧ (Cond.static y).before args s = true
theorem vx_cwSW {own : String} {index maxL mc ms : Nat} {y : MethodName} {bytes : ByteArray} {ret : Option FieldType} {hh : List (Nat × Nat × Nat × Nat)} {Ts ws ws' : List Cond} {rm : Room} (n : Nat) (ht : ∀ w ∈ Ts, w.before args s = true) (hT : GoodIn Ts (va_wsS own index y ws)) (hw : ws = Cond.codeWith y bytes maxL ret hh :: ws') (hrc : rm.cells = mc) (hrs : rm.slots = ms)
    (hd : y.cls ≠ "java/lang/invoke/MethodHandle" ∧ y.cls ≠ "java/lang/invoke/VarHandle" ∧ (parseMethodDescriptor y.desc).map (fun d => d.parameters.length) = some n) (hR : rm.frames + 1 ≤ R.frames ∧ 8 + (maxL + 11) + rm.locals ≤ R.locals) :
    vx_CSW R s args own index y bytes maxL ret hh ws rm mc ms n := by
  have ok : ∀ w ∈ va_wsS own index y ws, w.before args s = true := fun w h => ht w (hT w h).1
  have hG : GoodIn Ts ws := fun w h => hT w (by unfold va_wsS; exact List.mem_append_right _ h)
  have hc : Cond.codeWith y bytes maxL ret hh ∈ ws := by rw [hw]; exact List.mem_cons_self
  refine ⟨⟨hrc, hrs, hR.1, hR.2, pay_in ht hG, hc⟩, ht _ (hG _ hc).1, ok _ (by simp [va_wsS]), ⟨hd.1, hd.2.1⟩, fun sig h => ?_, ok _ (by simp [va_wsS]), ok _ (by simp [va_wsS])⟩
  have h2 := hd.2.2
  rw [h] at h2
  exact (Option.some.inj h2).symm
theorem vx_callSW (X : Stand p l e R s m args below meth c T locs cells slots) (hexec : p.tables.exec = Jvm.exec) {own : String} {index : Nat} {y : MethodName} {bytes : ByteArray} {maxL : Nat} {ret : Option FieldType} {hh : List (Nat × Nat × Nat × Nat)}
    (hown : s.vm.findClass own = some m.cls) (hlink : (Cond.methodLink own index y).before args s = true) (hstat : (Cond.static y).before args s = true) (hinit : (Cond.initialized y.cls).before args s = true)
    (hcode : (Cond.codeWith y bytes maxL ret hh).before args s = true) (hy : y.cls ≠ "java/lang/invoke/MethodHandle" ∧ y.cls ≠ "java/lang/invoke/VarHandle")
    {W9 : Nat} {Pre : Pt → Array Value → Prop} {Post : Pt → Array Value → Option Value → Pt → Prop} (hK : Back l R p e below s args y 3 W9 Pre Post)
    {g : JFrame} (hg : g.method = m) (hsize : g.locals.size = c.maxLocals) {argsL rest : List Value} (hlen : ∀ sig, parseMethodDescriptor y.desc = some sig → argsL.length = sig.parameters.length)
    (hstack : g.stack = argsL.reverse ++ rest) (hW : 2 * g.monitorRoom + (rest.map fun v => v.category).sum ≤ W9) (hdg : decode c.code g.pc = .ok (.invokestatic index, 3))
    (hpre : ∀ vm₁, s.WarmedH vm₁ → Pre ⟨T.setVm vm₁, locs, cells, slots⟩ argsL.toArray) :
    ∃ (v : Option Value) (vm₁ : Vm) (B : Pt), s.WarmedH vm₁ ∧ Stand p l e R s m args below meth c B.U B.locs B.cells B.slots ∧ Post ⟨T.setVm vm₁, locs, cells, slots⟩ argsL.toArray v B ∧
      ∀ target, Steps p.tables e below (B.U.setTop { g with pc := g.pc + 3, stack := v.toList ++ rest }) target → Steps p.tables e below (T.setTop g) target := by
  obtain ⟨mk, methM, cM, hnamed, hmethM, -, -, -, -, -, -, hsigM⟩ := Cond.codeWith_spec hcode
  have hstatic : methM.isStatic = true := Cond.static_spec hnamed hmethM hstat
  obtain ⟨kP, hkP, -⟩ := className_of_methodNamed hnamed
  have hinitP : kP.init = .initialized := Cond.initialized_spec (findClass_of_methodNamed hnamed) hkP hinit
  obtain ⟨vm₁, X₁, hstep₁⟩ := X.invokestatic hexec hown hlink hnamed hmethM hstatic hkP hinitP hy (g := g) hg (argsL := argsL) (rest := rest) (hlen _ hsigM) hstack hdg
  obtain ⟨v, B, X', hpost, hsteps⟩ := hK m meth c ⟨T.setVm vm₁, locs, cells, slots⟩ { g with stack := rest } (.invokestatic index) mk argsL.toArray X₁ hg hsize hdg hW (X₁.named hnamed) (hpre vm₁ X₁.warmed)
  exact ⟨v, vm₁, B, X₁.warmed, X', hpost, fun target h => hstep₁ _ fun acts => by rw [doInvoke_state]; exact hsteps.trans h⟩
theorem vx_runSW {y : MethodName} {bytes cc : ByteArray} {maxL nL mc ms n index : Nat} {ret : Option FieldType} {hh : List (Nat × Nat × Nat × Nat)} {ws : List Cond} {rm : Room} {Pc : Array Value → State → Prop} {Qc : Array Value → State → Outcome → State → Prop} {free : Addr → Prop} {Ts : List Cond} {own : String} {As rest : List Value} {g : JFrame}
    (S : CallFix p m c cc nL s args Ts own) (hM : Met l y ws rm Pc Qc mc ms free) (cw : vx_CSW R s args own index y bytes maxL ret hh ws rm mc ms n) (hp : PreS s H Pc As)
    (hg : g.method = m) (hn : As.length = n) (hsize : g.locals.size = nL) (hstack : g.stack = As.reverse ++ rest) (hW : 2 * g.monitorRoom + (rest.map fun v => v.category).sum ≤ 8) (hdg : decode cc g.pc = .ok (.invokestatic index, 3)) (hf : cells + mc ≤ R.cells ∧ slots + ms ≤ R.slots) :
    va_Run p l e R s m args below meth c H locs cells slots mc ms g rest (Qc As.toArray) (free) := by
  obtain ⟨⟨hrc, hrs, hfr, hlo, hws, hcw⟩, hcode, hini, hy, hlen, hl, hstt⟩ := cw
  have hK : Back l R p e below s args y 3 8 (PreOf R mc ms Pc) (PostOf Qc mc ms free) := va_backW (hh := hh) (bytes := bytes) (maxL := maxL) (ret := ret) hM hp.1 hrc hrs hfr hlo hws hcw (fun a' U hW => word_at hW (Or.inl (by first | rfl | simp [Cond.onTables, Cond.keeps, Cond.steady])) hini)
  obtain ⟨hx, hb, hml, ho, -⟩ := S
  intro T hT X
  obtain ⟨v, vm₁, ⟨U', l2, c2, s2⟩, hW₁, X', ⟨g', mk, t, L, e1, e2, hq, h1, hL, h2, h3⟩, st⟩ := vx_callSW X hx (hh := hh) (bytes := bytes) (maxL := maxL) (ret := ret) ho hl hstt hini hcode hy hK hg (hsize.trans hml.symm) (argsL := As) (rest := rest) (fun sig h => hn.trans (hlen sig h)) hstack hW (by rw [hb]; exact hdg)
    (fun vm₁ hW₁ => ⟨hf.1, hf.2, hp.2 (T.setVm vm₁) hT hW₁⟩)
  dsimp only [Pt.U, Pt.locs, Pt.cells, Pt.slots] at X' e1 e2 h1 h2 h3 st
  subst h1; subst h2; subst h3
  exact ⟨v, (T.setVm vm₁).calling g' mk As.toArray, t, U', L, hT, X', hL, e1, e2, hq, st⟩
/-- not caught here, past rows that name other classes: it goes on to the caller -/
theorem vx_outP {p : Program} {l : Launch} {e : Env} {R : Room} {s : State} {m : MethodId} {args : Array Value} {below : List Frame} {meth : Method} {c : Code} {H : Heap} {locs : List Loc} {cells slots : Nat} {free : Addr → Prop} {ls : Array Slot} {rest : List Value} {Qc : Array Value → State → Outcome → State → Prop} {XC : String → State → State → Prop}
    {pc : Nat} {own E : String} {ce : Cell} {q : Addr} {mc ms : Nat} (hown : s.vm.findClass own = some m.cls) (hlocks : meth.locks = false)
    (hpass : ∀ z ∈ c.exceptionTable.toList, covers z pc = false ∨ (z.catchType ≠ 0 ∧ ∃ nm : String, (Cond.classLink own z.catchType nm).before args s = true ∧ va_Nc E nm s)) (hcell : H[q]? = some ce) (hv : ce.vm = .none) (hcl : s.vm.findClass E = some ce.cls)
    (hx : ∀ t : State, t.heap = H → s.vm.Alike t.vm → XC E s t) (hf : ∀ z ∈ locs, free z.base) (hc : cells ≤ mc) (hs : slots ≤ ms) :
    vx_W p l e R s m args below meth c H locs cells slots (vx_MQ below Qc XC args s mc ms free) (F0 m pc ls rest) q := by
  intro T hT X
  have hpl : e.platform.magicAccessors = ({} : Platform).magicAccessors := by rw [X.admits.platform]
  obtain ⟨vm', hW', X', st⟩ := X.outThrough hlocks q (g := F0 m pc ls rest) rfl rfl rfl (cell := ce) (by rw [hT]; exact hcell) (by rw [hv]; rfl)
    (by obtain ⟨k9, h9, -⟩ := Vm.findClass_spec hcl; exact ⟨k9, h9⟩) (fun z hz => by
      rcases hpass z hz with h | ⟨hz0, nm, hl1, hn1⟩
      · exact Or.inl h
      · obtain ⟨c6, hc6, hcl6⟩ := Cond.classLink_spec hown hl1 e.platform hpl
        obtain ⟨a8, b8, h1, h2, h3⟩ := hn1
        cases Option.some.inj (h1.symm.trans hcl)
        cases Option.some.inj (h2.symm.trans hc6)
        exact Or.inr ⟨hz0, _, hcl6, h3⟩)
  obtain ⟨g₀, hfr⟩ := X'.frames_eq
  have hcell9 : ((T.setVm vm').setFrames (.throwing q :: below)).heap[q]? = some ce := by
    show T.heap[q]? = some ce
    rw [hT]; exact hcell
  have hend : Ended ((T.setVm vm').setFrames (.throwing q :: below)) below (.threw q) := State.frames_setFrames _ (State.cur_lt_of_frames hfr)
  refine ⟨(T.setVm vm').setFrames (.throwing q :: below), ?_, .threw q, X'.here.running, hend, Or.inr ⟨q, rfl, E, ce, locs, hx _ hT (X'.ends _).1.alike, hcell9, hv, hcl, (X'.ends _).1, (X'.ends _).2.mono hc hs, hf⟩⟩
  rw [X.pushThrowing_eq]
  exact st
/-- a thing of a world lies in the heap -/
theorem vx_lt {D : va_G} {cl : List vw_C} {ws : va_W} {H1 : Heap} (h : va_P D cl ws H1) {k : Nat} {q : Nat × va_E} (hk : ws[k]? = some q) : q.1 < H1.size := (h k q hk).lt
end VXS
/-! ===== END ===== -/
/-! ===== BEGIN methods with a table of their own: called by a name, returning or throwing ===== -/
section VXH
/-! vx_backW, vx_callVX, vx_callSX, vx_callVW, vx_runVW, vx_runVX, vx_runSX, vx_ofWH follow the same proofs as their sisters above (Free/Laws.lean, Shelf42/LK1.lean); vx_outP calls Shelf42/NT130.lean (outThrough). -/
section
variable {l : Launch} {R : Room} {p : Program} {e : Env} {below : List Frame} {s : State} {sargs : Array Value} {y : MethodName} {len W9 : Nat}
theorem vx_backW {ws : List Cond} {rm : Room} {Pc : Array Value → State → Prop} {Qc : Array Value → State → Outcome → State → Prop} {XC : String → State → State → Prop} {mc ms : Nat} {free : Addr → Prop} {bytes : ByteArray} {maxL : Nat} {ret : Option FieldType} {hh : List (Nat × Nat × Nat × Nat)}
    (hM : vx_Met l y ws rm Pc Qc XC mc ms free) (hblind : FrameBlind Pc) (hrc : rm.cells = mc) (hrs : rm.slots = ms)
    (hframes : rm.frames + 1 ≤ R.frames) (hlocals : W9 + (maxL + 11) + rm.locals ≤ R.locals)
    (hws : ∀ w ∈ ws, ∀ a' U, s.WarmedH U.vm → w.before a' U = true) (hcode : Cond.codeWith y bytes maxL ret hh ∈ ws) (hinit : ∀ a' U, s.WarmedH U.vm → (Cond.initialized y.cls).before a' U = true) :
    vx_Back l R p e below s sargs y len W9 (PreOf R mc ms Pc) (PostOf Qc mc ms free) (vx_Post XC mc ms free) := by
  intro m meth c A g ig mk a X hg hsize hdg hW hn hp
  have h1 : (headSpec ws rm).pre.before a A.U = true := atoms_intro fun w hw => hws w hw _ _ X.warmed
  have h2 : (Cond.codeWith y bytes maxL ret hh).before a A.U = true := hws _ hcode _ _ X.warmed
  have h3 : (Cond.initialized y.cls).before a A.U = true := hinit _ _ X.warmed
  have h4 : A.cells + (headSpec ws rm).room.cells ≤ R.cells := by rw [show (headSpec ws rm).room.cells = mc from hrc]; exact hp.1
  have h5 : A.slots + (headSpec ws rm).room.slots ≤ R.slots := by rw [show (headSpec ws rm).room.slots = ms from hrs]; exact hp.2.1
  have hPc : Pc a (A.U.calling g mk a) := hblind _ _ _ _ hp.2.2
  obtain ⟨U, Ls, c0, s0⟩ := A
  dsimp only [Pt.U, Pt.locs, Pt.cells, Pt.slots] at h1 h2 h3 h4 h5 X hn hPc ⊢
  obtain ⟨m9, methY, cY, hn9, hmY, hcY, -, hlY, -⟩ := Cond.codeWith_spec h2
  cases Option.some.inj (hn9.symm.trans hn)
  obtain ⟨kY, hkY, -⟩ := className_of_methodNamed hn
  have hinitY : kY.init = .initialized := Cond.initialized_spec (findClass_of_methodNamed hn) hkY h3
  have h : At U g.method c below := by rw [hg]; exact X.here
  have hlocals9 : W9 + (maxL + 11) + (headSpec ws rm).room.locals ≤ R.locals := hlocals
  have happ : (headSpec ws rm).appliesLoose y e.platform (U.calling g mk a) = true :=
    Spec.appliesLoose_calling (g := g) h hdg hn hkY hinitY
      (X.room_calling (g := g) (R' := (headSpec ws rm).room) hsize hmY hcY hframes (by rw [hlY]; omega) h4 h5) h1
  obtain ⟨mid, hmid⟩ := h.above
  have hfr : (U.setTop g).frames = (.java g :: mid) ++ below := by rw [State.frames_setTop' g h.top, hmid]; rfl
  obtain ⟨o, s₂, hsteps, -, hend, hq⟩ := Steps.callFree hM p X.admits X.cas X.clock (acts := []) hfr happ hPc trivial
  have hq' : vx_Q Qc XC mc ms free a (U.calling g mk a) o s₂ := hq
  rw [State.frames_setTop' g h.top] at hend
  obtain ⟨g₀, hg0⟩ := Option.isSome_iff_exists.mp h.top
  obtain ⟨r, hr⟩ := State.topJava?_eq_some.mp hg0
  have hr' : (({ U with heap := s₂.heap, slotsUsed := s₂.slotsUsed } : State).setVm s₂.vm).frames = .java g₀ :: r := hr
  rcases hq' with ⟨hqc, L, hfe, hL⟩ | ⟨q, rfl, E, ce, L, hx, hce, hcv, hcl, hW₂, hsm, hL⟩
  · obtain ⟨⟨v, rfl⟩, hW₂, e2, q2, q3, q4, q5, q6⟩ := id hfe
    have e3 : s₂ = ({ (U.calling g mk a).setFrames s₂.frames with heap := s₂.heap, slotsUsed := s₂.slotsUsed } : State).setVm s₂.vm := by
      have : s₂ = ({ s₂ with vm := (U.calling g mk a).vm } : State).setVm s₂.vm := rfl
      rw [e2] at this
      exact this
    obtain ⟨c₂, i₂, len₂, hc₂, hd₂, hf₂⟩ := hend
    have hW' : U.WarmedH s₂.vm := hW₂
    have hcc : c₂ = c := by
      have h1 : s₂.code? g.method = U.code? g.method := by
        rw [State.code?_eq, State.code?_eq, hW'.alike.method?]
      exact Option.some.inj (hc₂.symm.trans (h1.trans h.code))
    subst hcc
    have hlen : len₂ = len := by rw [hdg] at hd₂; cases hd₂; rfl
    subst hlen
    have hs₂ : s₂ = (({ U with heap := s₂.heap, slotsUsed := s₂.slotsUsed } : State).setVm s₂.vm).setTop { g with pc := g.pc + len₂, stack := v.toList ++ g.stack } := by
      refine e3.trans ?_
      rw [hf₂, State.calling_eq h.top, State.setFrames_setFrames, State.setTop_of_frames _ hr', hr]
      rfl
    have hsame : U.sameButNew ({ U with heap := s₂.heap, slotsUsed := s₂.slotsUsed } : State) L mc ms := by
      refine ⟨?_, q2, q3, q4, q5, q6⟩
      obtain ⟨t, ht, -⟩ := State.frames_cons hr
      show ({ U with heap := s₂.heap, slotsUsed := s₂.slotsUsed } : State) = { U.setFrames U.frames with heap := s₂.heap, slotsUsed := s₂.slotsUsed }
      rw [State.setFrames_self ht]
    subst hg
    refine Or.inl ⟨v, ⟨(({ U with heap := s₂.heap, slotsUsed := s₂.slotsUsed } : State).setVm s₂.vm), Ls ++ L, c0 + mc, s0 + ms⟩,
      ⟨X.admits, X.cas, X.clock, X.frames, X.room, X.hears, X.method, X.code, (X.here.setHeapUsed s₂.heap s₂.slotsUsed).setVm hW'.alike, X.tail, State.WarmedH.trans X.warmed hW', X.limits, X.bytes, X.same.trans (hsame.setVm s.vm)⟩,
      ⟨g, mk, s₂, L, rfl, rfl, hqc, rfl, hL, rfl, rfl⟩, ?_⟩
    show Steps p.tables e below _ ((({ U with heap := s₂.heap, slotsUsed := s₂.slotsUsed } : State).setVm s₂.vm).setTop { g with pc := g.pc + len₂, stack := v.toList ++ g.stack })
    rw [← hs₂]
    exact hsteps
  · obtain ⟨e2, q2, q3, q4, q5, q6⟩ := id hsm
    have e3 : s₂ = ({ (U.calling g mk a).setFrames s₂.frames with heap := s₂.heap, slotsUsed := s₂.slotsUsed } : State).setVm s₂.vm := by
      have : s₂ = ({ s₂ with vm := (U.calling g mk a).vm } : State).setVm s₂.vm := rfl
      rw [e2] at this
      exact this
    have hf₂ : s₂.frames = .throwing q :: .java g :: U.frames.tail := hend
    have hW' : U.WarmedH s₂.vm := hW₂
    have hs₂ : s₂ = ((({ U with heap := s₂.heap, slotsUsed := s₂.slotsUsed } : State).setVm s₂.vm).setTop g).pushFrame (.throwing q) := by
      refine e3.trans ?_
      rw [hf₂, State.calling_eq h.top, State.setFrames_setFrames, State.pushFrame, State.frames_setTop _ hr', State.setTop_of_frames _ hr', State.setFrames_setFrames, hr]
      rfl
    have hsame : U.sameButNew ({ U with heap := s₂.heap, slotsUsed := s₂.slotsUsed } : State) L mc ms := by
      refine ⟨?_, q2, q3, q4, q5, q6⟩
      obtain ⟨t, ht, -⟩ := State.frames_cons hr
      show ({ U with heap := s₂.heap, slotsUsed := s₂.slotsUsed } : State) = { U.setFrames U.frames with heap := s₂.heap, slotsUsed := s₂.slotsUsed }
      rw [State.setFrames_self ht]
    subst hg
    refine Or.inr ⟨q, ⟨(({ U with heap := s₂.heap, slotsUsed := s₂.slotsUsed } : State).setVm s₂.vm), Ls ++ L, c0 + mc, s0 + ms⟩,
      ⟨X.admits, X.cas, X.clock, X.frames, X.room, X.hears, X.method, X.code, (X.here.setHeapUsed s₂.heap s₂.slotsUsed).setVm hW'.alike, X.tail, State.WarmedH.trans X.warmed hW', X.limits, X.bytes, X.same.trans (hsame.setVm s.vm)⟩,
      ⟨g, mk, s₂, L, E, ce, rfl, rfl, hx, hce, hcv, hcl, rfl, hL, rfl, rfl⟩, ?_⟩
    show Steps p.tables e below _ (((({ U with heap := s₂.heap, slotsUsed := s₂.slotsUsed } : State).setVm s₂.vm).setTop g).pushFrame (.throwing q))
    rw [← hs₂]
    exact hsteps
end
variable {p : Program} {l : Launch} {e : Env} {R : Room} {s : State} {m : MethodId} {args : Array Value} {below : List Frame} {meth : Method} {c : Code} {T : State} {H : Heap} {locs : List Loc} {cells slots : Nat}
theorem vx_callVX (X : Stand p l e R s m args below meth c T locs cells slots) (hexec : p.tables.exec = Jvm.exec) {own C : String} {index : Nat} {y : MethodName} {bytes : ByteArray} {maxL : Nat} {ret : Option FieldType} {hh : List (Nat × Nat × Nat × Nat)}
    (hown : s.vm.findClass own = some m.cls) (hlink : (Cond.methodLink own index y).before args s = true) (hinst : (Cond.instanceMethod y).before args s = true) (hsel : (Cond.selects C y y).before args s = true)
    (hcode : (Cond.codeWith y bytes maxL ret hh).before args s = true) (hy : y.cls ≠ "java/lang/invoke/MethodHandle" ∧ y.cls ≠ "java/lang/invoke/VarHandle")
    {W9 : Nat} {Pre : Pt → Array Value → Prop} {Post : Pt → Array Value → Option Value → Pt → Prop} {PostX : Pt → Array Value → Addr → Pt → Prop} (hK : vx_Back l R p e below s args y 3 W9 Pre Post PostX)
    {b : Addr} {cellB : Cell} (hcell : T.heap[b]? = some cellB) (hobj : cellB.vm.isStatics = false) (hcls : s.vm.findClass C = some cellB.cls)
    {g : JFrame} (hg : g.method = m) (hsize : g.locals.size = c.maxLocals) {argsL rest : List Value} (hlen : ∀ sig, parseMethodDescriptor y.desc = some sig → argsL.length = sig.parameters.length)
    (hstack : g.stack = argsL.reverse ++ .ref b :: rest) (hW : 2 * g.monitorRoom + (rest.map fun v => v.category).sum ≤ W9) (hdg : decode c.code g.pc = .ok (.invokevirtual index, 3))
    (hpre : ∀ vm₁, s.WarmedH vm₁ → Pre ⟨T.setVm vm₁, locs, cells, slots⟩ (Value.ref b :: argsL).toArray) :
    (∃ (v : Option Value) (vm₁ : Vm) (B : Pt), s.WarmedH vm₁ ∧ Stand p l e R s m args below meth c B.U B.locs B.cells B.slots ∧ Post ⟨T.setVm vm₁, locs, cells, slots⟩ (Value.ref b :: argsL).toArray v B ∧
      ∀ target, Steps p.tables e below (B.U.setTop { g with pc := g.pc + 3, stack := v.toList ++ rest }) target → Steps p.tables e below (T.setTop g) target) ∨
    (∃ (q : Addr) (vm₁ : Vm) (B : Pt), s.WarmedH vm₁ ∧ Stand p l e R s m args below meth c B.U B.locs B.cells B.slots ∧ PostX ⟨T.setVm vm₁, locs, cells, slots⟩ (Value.ref b :: argsL).toArray q B ∧
      Steps p.tables e below (T.setTop g) ((B.U.setTop { g with stack := rest }).pushFrame (.throwing q))) := by
  obtain ⟨mk, methM, hnamed, hmethM, hstM, habM⟩ := Cond.instanceMethod_spec hinst
  obtain ⟨m8, methM', cM, hn8, hmethM', -, -, -, -, -, -, hsigM⟩ := Cond.codeWith_spec hcode
  cases Option.some.inj (hn8.symm.trans hnamed)
  cases hmethM.symm.trans hmethM'
  obtain ⟨c2, r2, m2, q1, q2, q3, q4, kP, hkP, hkPi⟩ := Cond.selects_spec hsel
  cases hcls.symm.trans q1
  cases (State.methodFound?_of_named hnamed hy).symm.trans q2
  cases hnamed.symm.trans q3
  have hselP : selectMethod e.platform s.vm cellB.cls mk = .method mk := by rw [Launch.admits_selectMethod X.admits]; exact q4
  obtain ⟨vm₁, X₁, hstep₁⟩ := X.invokevirtual hexec hown hlink hnamed hmethM hstM hkP hkPi hy (a := b) (cell := cellB) hcell
    (fun z h => by rw [h] at hobj; cases hobj) hselP hmethM habM hkP hkPi (g := g) hg (argsL := argsL) (rest := rest) (hlen _ hsigM) hstack hdg
  rcases hK m meth c ⟨T.setVm vm₁, locs, cells, slots⟩ { g with stack := rest } (.invokevirtual index) mk (Value.ref b :: argsL).toArray X₁ hg hsize hdg hW (X₁.named hnamed) (hpre vm₁ X₁.warmed) with ⟨v, B, X', hpost, hsteps⟩ | ⟨q, B, X', hpost, hsteps⟩
  · exact Or.inl ⟨v, vm₁, B, X₁.warmed, X', hpost, fun target h => hstep₁ _ fun acts => by rw [doInvoke_state]; exact hsteps.trans h⟩
  · exact Or.inr ⟨q, vm₁, B, X₁.warmed, X', hpost, hstep₁ _ fun acts => by rw [doInvoke_state]; exact hsteps⟩
theorem vx_callSX (X : Stand p l e R s m args below meth c T locs cells slots) (hexec : p.tables.exec = Jvm.exec) {own : String} {index : Nat} {y : MethodName} {bytes : ByteArray} {maxL : Nat} {ret : Option FieldType} {hh : List (Nat × Nat × Nat × Nat)}
    (hown : s.vm.findClass own = some m.cls) (hlink : (Cond.methodLink own index y).before args s = true) (hstat : (Cond.static y).before args s = true) (hinit : (Cond.initialized y.cls).before args s = true)
    (hcode : (Cond.codeWith y bytes maxL ret hh).before args s = true) (hy : y.cls ≠ "java/lang/invoke/MethodHandle" ∧ y.cls ≠ "java/lang/invoke/VarHandle")
    {W9 : Nat} {Pre : Pt → Array Value → Prop} {Post : Pt → Array Value → Option Value → Pt → Prop} {PostX : Pt → Array Value → Addr → Pt → Prop} (hK : vx_Back l R p e below s args y 3 W9 Pre Post PostX)
    {g : JFrame} (hg : g.method = m) (hsize : g.locals.size = c.maxLocals) {argsL rest : List Value} (hlen : ∀ sig, parseMethodDescriptor y.desc = some sig → argsL.length = sig.parameters.length)
    (hstack : g.stack = argsL.reverse ++ rest) (hW : 2 * g.monitorRoom + (rest.map fun v => v.category).sum ≤ W9) (hdg : decode c.code g.pc = .ok (.invokestatic index, 3))
    (hpre : ∀ vm₁, s.WarmedH vm₁ → Pre ⟨T.setVm vm₁, locs, cells, slots⟩ argsL.toArray) :
    (∃ (v : Option Value) (vm₁ : Vm) (B : Pt), s.WarmedH vm₁ ∧ Stand p l e R s m args below meth c B.U B.locs B.cells B.slots ∧ Post ⟨T.setVm vm₁, locs, cells, slots⟩ argsL.toArray v B ∧
      ∀ target, Steps p.tables e below (B.U.setTop { g with pc := g.pc + 3, stack := v.toList ++ rest }) target → Steps p.tables e below (T.setTop g) target) ∨
    (∃ (q : Addr) (vm₁ : Vm) (B : Pt), s.WarmedH vm₁ ∧ Stand p l e R s m args below meth c B.U B.locs B.cells B.slots ∧ PostX ⟨T.setVm vm₁, locs, cells, slots⟩ argsL.toArray q B ∧
      Steps p.tables e below (T.setTop g) ((B.U.setTop { g with stack := rest }).pushFrame (.throwing q))) := by
  obtain ⟨mk, methM, cM, hnamed, hmethM, -, -, -, -, -, -, hsigM⟩ := Cond.codeWith_spec hcode
  have hstatic : methM.isStatic = true := Cond.static_spec hnamed hmethM hstat
  obtain ⟨kP, hkP, -⟩ := className_of_methodNamed hnamed
  have hinitP : kP.init = .initialized := Cond.initialized_spec (findClass_of_methodNamed hnamed) hkP hinit
  obtain ⟨vm₁, X₁, hstep₁⟩ := X.invokestatic hexec hown hlink hnamed hmethM hstatic hkP hinitP hy (g := g) hg (argsL := argsL) (rest := rest) (hlen _ hsigM) hstack hdg
  rcases hK m meth c ⟨T.setVm vm₁, locs, cells, slots⟩ { g with stack := rest } (.invokestatic index) mk argsL.toArray X₁ hg hsize hdg hW (X₁.named hnamed) (hpre vm₁ X₁.warmed) with ⟨v, B, X', hpost, hsteps⟩ | ⟨q, B, X', hpost, hsteps⟩
  · exact Or.inl ⟨v, vm₁, B, X₁.warmed, X', hpost, fun target h => hstep₁ _ fun acts => by rw [doInvoke_state]; exact hsteps.trans h⟩
  · exact Or.inr ⟨q, vm₁, B, X₁.warmed, X', hpost, hstep₁ _ fun acts => by rw [doInvoke_state]; exact hsteps⟩
theorem vx_callVW (X : Stand p l e R s m args below meth c T locs cells slots) (hexec : p.tables.exec = Jvm.exec) {own C : String} {index : Nat} {y : MethodName} {bytes : ByteArray} {maxL : Nat} {ret : Option FieldType} {hh : List (Nat × Nat × Nat × Nat)}
    (hown : s.vm.findClass own = some m.cls) (hlink : (Cond.methodLink own index y).before args s = true) (hinst : (Cond.instanceMethod y).before args s = true) (hsel : (Cond.selects C y y).before args s = true)
    (hcode : (Cond.codeWith y bytes maxL ret hh).before args s = true) (hy : y.cls ≠ "java/lang/invoke/MethodHandle" ∧ y.cls ≠ "java/lang/invoke/VarHandle")
    {W9 : Nat} {Pre : Pt → Array Value → Prop} {Post : Pt → Array Value → Option Value → Pt → Prop} (hK : Back l R p e below s args y 3 W9 Pre Post)
    {b : Addr} {cellB : Cell} (hcell : T.heap[b]? = some cellB) (hobj : cellB.vm.isStatics = false) (hcls : s.vm.findClass C = some cellB.cls)
    {g : JFrame} (hg : g.method = m) (hsize : g.locals.size = c.maxLocals) {argsL rest : List Value} (hlen : ∀ sig, parseMethodDescriptor y.desc = some sig → argsL.length = sig.parameters.length)
    (hstack : g.stack = argsL.reverse ++ .ref b :: rest) (hW : 2 * g.monitorRoom + (rest.map fun v => v.category).sum ≤ W9) (hdg : decode c.code g.pc = .ok (.invokevirtual index, 3))
    (hpre : ∀ vm₁, s.WarmedH vm₁ → Pre ⟨T.setVm vm₁, locs, cells, slots⟩ (Value.ref b :: argsL).toArray) :
    ∃ (v : Option Value) (vm₁ : Vm) (B : Pt), s.WarmedH vm₁ ∧ Stand p l e R s m args below meth c B.U B.locs B.cells B.slots ∧ Post ⟨T.setVm vm₁, locs, cells, slots⟩ (Value.ref b :: argsL).toArray v B ∧
      ∀ target, Steps p.tables e below (B.U.setTop { g with pc := g.pc + 3, stack := v.toList ++ rest }) target → Steps p.tables e below (T.setTop g) target := by
  obtain ⟨mk, methM, hnamed, hmethM, hstM, habM⟩ := Cond.instanceMethod_spec hinst
  obtain ⟨m8, methM', cM, hn8, hmethM', -, -, -, -, -, -, hsigM⟩ := Cond.codeWith_spec hcode
  cases Option.some.inj (hn8.symm.trans hnamed)
  cases hmethM.symm.trans hmethM'
  obtain ⟨c2, r2, m2, q1, q2, q3, q4, kP, hkP, hkPi⟩ := Cond.selects_spec hsel
  cases hcls.symm.trans q1
  cases (State.methodFound?_of_named hnamed hy).symm.trans q2
  cases hnamed.symm.trans q3
  have hselP : selectMethod e.platform s.vm cellB.cls mk = .method mk := by rw [Launch.admits_selectMethod X.admits]; exact q4
  obtain ⟨vm₁, X₁, hstep₁⟩ := X.invokevirtual hexec hown hlink hnamed hmethM hstM hkP hkPi hy (a := b) (cell := cellB) hcell
    (fun z h => by rw [h] at hobj; cases hobj) hselP hmethM habM hkP hkPi (g := g) hg (argsL := argsL) (rest := rest) (hlen _ hsigM) hstack hdg
  obtain ⟨v, B, X', hpost, hsteps⟩ := hK m meth c ⟨T.setVm vm₁, locs, cells, slots⟩ { g with stack := rest } (.invokevirtual index) mk (Value.ref b :: argsL).toArray X₁ hg hsize hdg hW (X₁.named hnamed) (hpre vm₁ X₁.warmed)
  exact ⟨v, vm₁, B, X₁.warmed, X', hpost, fun target h => hstep₁ _ fun acts => by rw [doInvoke_state]; exact hsteps.trans h⟩
abbrev vx_CVW (R : Room) (s : State) (args : Array Value) (own C : String) (index : Nat) (y : MethodName) (bytes : ByteArray) (maxL : Nat) (ret : Option FieldType) (hh : List (Nat × Nat × Nat × Nat)) (ws : List Cond) (rm : Room) (mc ms n : Nat) : Prop :=
  (rm.cells = mc ∧ rm.slots = ms ∧ rm.frames + 1 ≤ R.frames ∧ 8 + (maxL + 11) + rm.locals ≤ R.locals ∧ (∀ w ∈ ws, ∀ (a' : Array Value) (U : State), s.WarmedH U.vm → w.before a' U = true) ∧ Cond.codeWith y bytes maxL ret hh ∈ ws) ∧
  (Cond.codeWith y bytes maxL ret hh).before args s = true ∧ (Cond.initialized y.cls).before args s = true ∧ (y.cls ≠ "java/lang/invoke/MethodHandle" ∧ y.cls ≠ "java/lang/invoke/VarHandle") ∧
  (∀ sig, parseMethodDescriptor y.desc = some sig → n = sig.parameters.length) ∧ (Cond.methodLink own index y).before args s = true ∧ (Cond.instanceMethod y).before args s = true ∧ (Cond.selects C y y).before args s = true
theorem vx_cwVW {own C : String} {index maxL mc ms : Nat} {y : MethodName} {bytes : ByteArray} {ret : Option FieldType} {hh : List (Nat × Nat × Nat × Nat)} {Ts ws ws' : List Cond} {rm : Room} (n : Nat) (ht : ∀ w ∈ Ts, w.before args s = true) (hT : GoodIn Ts (wsV own index C y ws)) (hw : ws = Cond.codeWith y bytes maxL ret hh :: ws') (hrc : rm.cells = mc) (hrs : rm.slots = ms)
    (hd : y.cls = C ∧ y.cls ≠ "java/lang/invoke/MethodHandle" ∧ y.cls ≠ "java/lang/invoke/VarHandle" ∧ (parseMethodDescriptor y.desc).map (fun d => d.parameters.length) = some n) (hR : rm.frames + 1 ≤ R.frames ∧ 8 + (maxL + 11) + rm.locals ≤ R.locals) :
    vx_CVW R s args own C index y bytes maxL ret hh ws rm mc ms n := by
  obtain ⟨hC, hd⟩ := hd
  subst hC
  have ok : ∀ w ∈ wsV own index y.cls y ws, w.before args s = true := fun w h => ht w (hT w h).1
  have hG : GoodIn Ts ws := fun w h => hT w (by unfold wsV; exact List.mem_append_right _ h)
  have hc : Cond.codeWith y bytes maxL ret hh ∈ ws := by rw [hw]; exact List.mem_cons_self
  refine ⟨⟨hrc, hrs, hR.1, hR.2, pay_in ht hG, hc⟩, ht _ (hG _ hc).1, ok _ (by simp [wsV]), ⟨hd.1, hd.2.1⟩, fun sig h => ?_, ok _ (by simp [wsV]), ok _ (by simp [wsV]), ok _ (by simp [wsV])⟩
  have h2 := hd.2.2
  rw [h] at h2
  exact (Option.some.inj h2).symm
theorem vx_runVW {y : MethodName} {bytes cc : ByteArray} {maxL nL mc ms n index : Nat} {ret : Option FieldType} {hh : List (Nat × Nat × Nat × Nat)} {ws : List Cond} {rm : Room} {Pc : Array Value → State → Prop} {Qc : Array Value → State → Outcome → State → Prop} {free : Addr → Prop} {Ts : List Cond} {own C : String} {b : Addr} {As rest : List Value} {g : JFrame}
    (S : CallFix p m c cc nL s args Ts own) (hM : Met l y ws rm Pc Qc mc ms free) (cw : vx_CVW R s args own C index y bytes maxL ret hh ws rm mc ms n) (hp : PreV s H C b Pc As)
    (hg : g.method = m) (hn : As.length = n) (hsize : g.locals.size = nL) (hstack : g.stack = As.reverse ++ .ref b :: rest) (hW : 2 * g.monitorRoom + (rest.map fun v => v.category).sum ≤ 8) (hdg : decode cc g.pc = .ok (.invokevirtual index, 3)) (hf : cells + mc ≤ R.cells ∧ slots + ms ≤ R.slots) :
    va_Run p l e R s m args below meth c H locs cells slots mc ms g rest (Qc (Value.ref b :: As).toArray) free := by
  obtain ⟨⟨hrc, hrs, hfr, hlo, hws, hcw⟩, hcode, hini, hy, hlen, hl, hin, hse⟩ := cw
  have hK : Back l R p e below s args y 3 8 (PreOf R mc ms Pc) (PostOf Qc mc ms free) := va_backW (hh := hh) (bytes := bytes) (maxL := maxL) (ret := ret) hM hp.1 hrc hrs hfr hlo hws hcw (fun a' U hW => word_at hW (Or.inl (by first | rfl | simp [Cond.onTables, Cond.keeps, Cond.steady])) hini)
  obtain ⟨hx, hb, hml, ho, -⟩ := S
  obtain ⟨-, ⟨cellB, hcB, hoB, hclB⟩, hPc⟩ := hp
  intro T hT X
  obtain ⟨v, vm₁, ⟨U', l2, c2, s2⟩, hW₁, X', ⟨g', mk, t, L, e1, e2, hq, h1, hL, h2, h3⟩, st⟩ := vx_callVW X hx (C := C) (hh := hh) (bytes := bytes) (maxL := maxL) (ret := ret) ho hl hin hse hcode hy hK (by rw [hT]; exact hcB) hoB hclB hg (hsize.trans hml.symm) (argsL := As) (rest := rest) (fun sig h => hn.trans (hlen sig h)) hstack hW (by rw [hb]; exact hdg)
    (fun vm₁ hW₁ => ⟨hf.1, hf.2, hPc (T.setVm vm₁) hT hW₁⟩)
  dsimp only [Pt.U, Pt.locs, Pt.cells, Pt.slots] at X' e1 e2 h1 h2 h3 st
  subst h1; subst h2; subst h3
  exact ⟨v, (T.setVm vm₁).calling g' mk (Value.ref b :: As).toArray, t, U', L, hT, X', hL, e1, e2, hq, st⟩
section
variable {y : MethodName} {bytes cc : ByteArray} {maxL nL mc ms n index : Nat} {ret : Option FieldType} {ws : List Cond} {rm : Room} {Pc : Array Value → State → Prop} {Qc : Array Value → State → Outcome → State → Prop} {XC : String → State → State → Prop} {free : Addr → Prop} {Ts : List Cond} {own C : String} {b : Addr} {As rest : List Value} {g : JFrame}
theorem vx_runVX {hh : List (Nat × Nat × Nat × Nat)} (S : CallFix p m c cc nL s args Ts own) (hM : vx_Met l y ws rm Pc Qc XC mc ms free) (cw : vx_CVW R s args own C index y bytes maxL ret hh ws rm mc ms n) (hp : PreV s H C b Pc As)
    (hg : g.method = m) (hn : As.length = n) (hsize : g.locals.size = nL) (hstack : g.stack = As.reverse ++ .ref b :: rest) (hW : 2 * g.monitorRoom + (rest.map fun v => v.category).sum ≤ 8) (hdg : decode cc g.pc = .ok (.invokevirtual index, 3)) (hf : cells + mc ≤ R.cells ∧ slots + ms ≤ R.slots) :
    vx_Run p l e R s m args below meth c H locs cells slots mc ms g rest (Qc (Value.ref b :: As).toArray) XC free := by
  obtain ⟨⟨hrc, hrs, hfr, hlo, hws, hcw⟩, hcode, hini, hy, hlen, hl, hin, hse⟩ := cw
  have hK : vx_Back l R p e below s args y 3 8 (PreOf R mc ms Pc) (PostOf Qc mc ms free) (vx_Post XC mc ms free) := vx_backW (hh := hh) (bytes := bytes) (maxL := maxL) (ret := ret) hM hp.1 hrc hrs hfr hlo hws hcw (fun a' U hW => word_at hW (Or.inl (by first | rfl | simp [Cond.onTables, Cond.keeps, Cond.steady])) hini)
  obtain ⟨hx, hb, hml, ho, -⟩ := S
  obtain ⟨-, ⟨cellB, hcB, hoB, hclB⟩, hPc⟩ := hp
  intro T hT X
  rcases vx_callVX X hx (C := C) (hh := hh) (bytes := bytes) (maxL := maxL) (ret := ret) ho hl hin hse hcode hy hK (by rw [hT]; exact hcB) hoB hclB hg (hsize.trans hml.symm) (argsL := As) (rest := rest) (fun sig h => hn.trans (hlen sig h)) hstack hW (by rw [hb]; exact hdg)
    (fun vm₁ hW₁ => ⟨hf.1, hf.2, hPc (T.setVm vm₁) hT hW₁⟩) with ⟨v, vm₁, ⟨U', l2, c2, s2⟩, hW₁, X', ⟨g', mk, t, L, e1, e2, hq, h1, hL, h2, h3⟩, st⟩ | ⟨q, vm₁, ⟨U', l2, c2, s2⟩, hW₁, X', ⟨g', mk, t, L, E, ce, e1, e2, hq, hce, hcv, hcl, h1, hL, h2, h3⟩, st⟩
  · dsimp only [Pt.U, Pt.locs, Pt.cells, Pt.slots] at X' e1 e2 h1 h2 h3 st
    subst h1; subst h2; subst h3
    exact Or.inl ⟨v, (T.setVm vm₁).calling g' mk (Value.ref b :: As).toArray, t, U', L, hT, X', hL, e1, e2, hq, st⟩
  · dsimp only [Pt.U, Pt.locs, Pt.cells, Pt.slots] at X' e1 e2 h1 h2 h3 st hcl
    subst h1; subst h2; subst h3
    exact Or.inr ⟨q, (T.setVm vm₁).calling g' mk (Value.ref b :: As).toArray, t, U', L, E, ce, hT, X', hL, e1, e2, hq, hce, hcv, vx_cls hW₁ hcl, st⟩
theorem vx_runSX {hh : List (Nat × Nat × Nat × Nat)} (S : CallFix p m c cc nL s args Ts own) (hM : vx_Met l y ws rm Pc Qc XC mc ms free) (cw : vx_CSW R s args own index y bytes maxL ret hh ws rm mc ms n) (hp : PreS s H Pc As)
    (hg : g.method = m) (hn : As.length = n) (hsize : g.locals.size = nL) (hstack : g.stack = As.reverse ++ rest) (hW : 2 * g.monitorRoom + (rest.map fun v => v.category).sum ≤ 8) (hdg : decode cc g.pc = .ok (.invokestatic index, 3)) (hf : cells + mc ≤ R.cells ∧ slots + ms ≤ R.slots) :
    vx_Run p l e R s m args below meth c H locs cells slots mc ms g rest (Qc As.toArray) XC free := by
  obtain ⟨⟨hrc, hrs, hfr, hlo, hws, hcw⟩, hcode, hini, hy, hlen, hl, hstt⟩ := cw
  have hK : vx_Back l R p e below s args y 3 8 (PreOf R mc ms Pc) (PostOf Qc mc ms free) (vx_Post XC mc ms free) := vx_backW (hh := hh) (bytes := bytes) (maxL := maxL) (ret := ret) hM hp.1 hrc hrs hfr hlo hws hcw (fun a' U hW => word_at hW (Or.inl (by first | rfl | simp [Cond.onTables, Cond.keeps, Cond.steady])) hini)
  obtain ⟨hx, hb, hml, ho, -⟩ := S
  intro T hT X
  rcases vx_callSX X hx (hh := hh) (bytes := bytes) (maxL := maxL) (ret := ret) ho hl hstt hini hcode hy hK hg (hsize.trans hml.symm) (argsL := As) (rest := rest) (fun sig h => hn.trans (hlen sig h)) hstack hW (by rw [hb]; exact hdg)
    (fun vm₁ hW₁ => ⟨hf.1, hf.2, hp.2 (T.setVm vm₁) hT hW₁⟩) with ⟨v, vm₁, ⟨U', l2, c2, s2⟩, hW₁, X', ⟨g', mk, t, L, e1, e2, hq, h1, hL, h2, h3⟩, st⟩ | ⟨q, vm₁, ⟨U', l2, c2, s2⟩, hW₁, X', ⟨g', mk, t, L, E, ce, e1, e2, hq, hce, hcv, hcl, h1, hL, h2, h3⟩, st⟩
  · dsimp only [Pt.U, Pt.locs, Pt.cells, Pt.slots] at X' e1 e2 h1 h2 h3 st
    subst h1; subst h2; subst h3
    exact Or.inl ⟨v, (T.setVm vm₁).calling g' mk As.toArray, t, U', L, hT, X', hL, e1, e2, hq, st⟩
  · dsimp only [Pt.U, Pt.locs, Pt.cells, Pt.slots] at X' e1 e2 h1 h2 h3 st hcl
    subst h1; subst h2; subst h3
    exact Or.inr ⟨q, (T.setVm vm₁).calling g' mk As.toArray, t, U', L, E, ce, hT, X', hL, e1, e2, hq, hce, hcv, vx_cls hW₁ hcl, st⟩
end
end VXH
theorem vx_ofWH {l : Launch} {y : MethodName} {ws ws' : List Cond} {rm : Room} {Pc : Array Value → State → Prop} {Qc : Array Value → State → Outcome → State → Prop} {XC : String → State → State → Prop} {mc ms : Nat} {free : Addr → Prop} {cc : ByteArray} {maxL : Nat} {ret : Option FieldType} {hh : List (Nat × Nat × Nat × Nat)}
    (hy : plainName y.cls = true) (hw : ws = Cond.codeWith y cc maxL ret hh :: ws')
    (body : ∀ p e s m args below meth c s₁, BodyLoose p l y (headSpec ws rm) cc maxL ret e s m args below meth c s₁ → c.maxLocals = maxL → Pc args s →
      W p l e (headSpec ws rm).room s m args below meth c s.heap [] 0 0 (vx_MQ below Qc XC args s mc ms free) (entryFrame m args maxL)) : vx_Met l y ws rm Pc Qc XC mc ms free := by
  refine MetFree.of_bodyS (code := cc) (maxLocals := maxL) (ret := ret) hy ?_ ?_
  · intro args s m h hn
    obtain ⟨m9, meth, c, hn9, h1, h2, h3, h4, -, h5, h6, -⟩ := Cond.codeWith_spec (atoms_spec (ws := ws) h _ (by rw [hw]; exact List.mem_cons_self))
    cases hn.symm.trans hn9
    exact ⟨meth, c, h1, h2, h3, h4, h5, h6⟩
  · intro p e s m args below meth c s₁ B hml hP _
    have hh0 : s₁.heap = s.heap := by rw [B.state]; rfl
    obtain ⟨t, a1, o, b1, b2, b3⟩ := body p e s m args below meth c s₁ B hml hP s₁ hh0 (Stand.of_body B)
    exact ⟨t, o, a1, b1, b2, b3⟩
/-! ===== END ===== -/
end
section
def RX0 : String := "CurfewDesk"
def TX0 : u_T := fun k => match k with
  | 0 => ("CurfewDesk", "orderQuarter", "[I", true)
  | 1 => ("CurfewDesk", "orderAhead", "[I", true)
  | 2 => ("CurfewDesk", "orderBehind", "[I", true)
  | 3 => ("CurfewDesk", "orderColour", "[I", true)
  | 4 => ("CurfewDesk", "orderInForce", "[Z", true)
  | 5 => ("CurfewDesk", "orderExempt", "[I", true)
  | 6 => ("CurfewDesk", "personTrade", "[I", true)
  | 7 => ("CurfewDesk", "personFined", "[I", true)
  | 8 => ("CurfewDesk", "personOwes", "[I", true)
  | 9 => ("CurfewDesk", "personStamps", "[I", true)
  | 10 => ("CurfewDesk", "usedStamps", "[I", true)
  | 11 => ("CurfewDesk", "quarterCount", "I", false)
  | 12 => ("CurfewDesk", "orderCount", "I", false)
  | 13 => ("CurfewDesk", "personCount", "I", false)
  | 14 => ("CurfewDesk", "duskShift", "I", false)
  | _ => ("CurfewDesk", "now", "I", false)
def tyX0 : Nat → FieldType := fun k => match k with
  | 0 => .array .int
  | 1 => .array .int
  | 2 => .array .int
  | 3 => .array .int
  | 4 => .array .boolean
  | 5 => .array .int
  | 6 => .array .int
  | 7 => .array .int
  | 8 => .array .int
  | 9 => .array .int
  | 10 => .array .int
  | 11 => .int
  | 12 => .int
  | 13 => .int
  | 14 => .int
  | _ => .int
abbrev wsX00 : List Cond := u_ws RX0 TX0 16
theorem nmX0 : ∀ a, a < 16 → ∀ b, b < 16 → a ≠ b → (TX0 a).2.1 ≠ (TX0 b).2.1 := by decide +kernel
theorem tyX0_ok : ∀ k, k < 16 → parseFieldDescriptor (TX0 k).2.2.1 = some (tyX0 k) := by decide +kernel
abbrev cX0_init : ByteArray := prog_1_method_1_code
def yX0_init : MethodName := ⟨RX0, "<init>", "()V"⟩
abbrev cX0_addQuarter : ByteArray := prog_1_method_2_code
def yX0_addQuarter : MethodName := ⟨RX0, "addQuarter", "()I"⟩
abbrev cX0_addPerson : ByteArray := prog_1_method_3_code
def yX0_addPerson : MethodName := ⟨RX0, "addPerson", "(I)I"⟩
abbrev cX0_addOrder : ByteArray := prog_1_method_4_code
def yX0_addOrder : MethodName := ⟨RX0, "addOrder", "(IIII)I"⟩
abbrev cX0_turnExempt : ByteArray := prog_1_method_5_code
def yX0_turnExempt : MethodName := ⟨RX0, "turnExempt", "(II)Z"⟩
abbrev cX0_turnOrder : ByteArray := prog_1_method_6_code
def yX0_turnOrder : MethodName := ⟨RX0, "turnOrder", "(I)Z"⟩
abbrev cX0_setShift : ByteArray := prog_1_method_7_code
def yX0_setShift : MethodName := ⟨RX0, "setShift", "(I)I"⟩
abbrev cX0_givePass : ByteArray := prog_1_method_8_code
def yX0_givePass : MethodName := ⟨RX0, "givePass", "(III)I"⟩
abbrev cX0_takePass : ByteArray := prog_1_method_9_code
def yX0_takePass : MethodName := ⟨RX0, "takePass", "(II)I"⟩
abbrev cX0_goOut : ByteArray := prog_1_method_10_code
def yX0_goOut : MethodName := ⟨RX0, "goOut", "(II)I"⟩
abbrev cX0_pass : ByteArray := prog_1_method_11_code
def yX0_pass : MethodName := ⟨RX0, "pass", "(I)I"⟩
abbrev cX0_day : ByteArray := prog_1_method_12_code
def yX0_day : MethodName := ⟨RX0, "day", "()I"⟩
abbrev cX0_halfHour : ByteArray := prog_1_method_13_code
def yX0_halfHour : MethodName := ⟨RX0, "halfHour", "()I"⟩
abbrev cX0_duskIn : ByteArray := prog_1_method_14_code
def yX0_duskIn : MethodName := ⟨RX0, "duskIn", "(I)I"⟩
abbrev cX0_dawnIn : ByteArray := prog_1_method_15_code
def yX0_dawnIn : MethodName := ⟨RX0, "dawnIn", "(I)I"⟩
abbrev cX0_quarterOf : ByteArray := prog_1_method_16_code
def yX0_quarterOf : MethodName := ⟨RX0, "quarterOf", "(I)I"⟩
abbrev cX0_colourOf : ByteArray := prog_1_method_17_code
def yX0_colourOf : MethodName := ⟨RX0, "colourOf", "(I)I"⟩
abbrev cX0_isInForce : ByteArray := prog_1_method_18_code
def yX0_isInForce : MethodName := ⟨RX0, "isInForce", "(I)Z"⟩
abbrev cX0_isOn : ByteArray := prog_1_method_19_code
def yX0_isOn : MethodName := ⟨RX0, "isOn", "(I)Z"⟩
abbrev cX0_isExempt : ByteArray := prog_1_method_20_code
def yX0_isExempt : MethodName := ⟨RX0, "isExempt", "(II)Z"⟩
abbrev cX0_barredBy : ByteArray := prog_1_method_21_code
def yX0_barredBy : MethodName := ⟨RX0, "barredBy", "(I)I"⟩
abbrev cX0_tradeOf : ByteArray := prog_1_method_22_code
def yX0_tradeOf : MethodName := ⟨RX0, "tradeOf", "(I)I"⟩
abbrev cX0_stampsOf : ByteArray := prog_1_method_23_code
def yX0_stampsOf : MethodName := ⟨RX0, "stampsOf", "(II)I"⟩
abbrev cX0_owes : ByteArray := prog_1_method_24_code
def yX0_owes : MethodName := ⟨RX0, "owes", "(I)I"⟩
abbrev cX0_timesFined : ByteArray := prog_1_method_25_code
def yX0_timesFined : MethodName := ⟨RX0, "timesFined", "(I)I"⟩
abbrev cX0_ordersAgainst : ByteArray := prog_1_method_26_code
def yX0_ordersAgainst : MethodName := ⟨RX0, "ordersAgainst", "(II)I"⟩
abbrev cX0_mayGo : ByteArray := prog_1_method_27_code
def yX0_mayGo : MethodName := ⟨RX0, "mayGo", "(II)Z"⟩
abbrev cX0_stampsMissing : ByteArray := prog_1_method_28_code
def yX0_stampsMissing : MethodName := ⟨RX0, "stampsMissing", "(II)I"⟩
abbrev cX0_quarters : ByteArray := prog_1_method_29_code
def yX0_quarters : MethodName := ⟨RX0, "quarters", "()I"⟩
abbrev cX0_orders : ByteArray := prog_1_method_30_code
def yX0_orders : MethodName := ⟨RX0, "orders", "()I"⟩
abbrev cX0_people : ByteArray := prog_1_method_31_code
def yX0_people : MethodName := ⟨RX0, "people", "()I"⟩
abbrev cX0_ordersOn : ByteArray := prog_1_method_32_code
def yX0_ordersOn : MethodName := ⟨RX0, "ordersOn", "()I"⟩
abbrev cX0_shift : ByteArray := prog_1_method_33_code
def yX0_shift : MethodName := ⟨RX0, "shift", "()I"⟩
abbrev cX0_allOwe : ByteArray := prog_1_method_34_code
def yX0_allOwe : MethodName := ⟨RX0, "allOwe", "()I"⟩
abbrev cX0_stampsUsed : ByteArray := prog_1_method_35_code
def yX0_stampsUsed : MethodName := ⟨RX0, "stampsUsed", "(I)I"⟩
abbrev cX0_halfHoursUntilFree : ByteArray := prog_1_method_36_code
def yX0_halfHoursUntilFree : MethodName := ⟨RX0, "halfHoursUntilFree", "(II)I"⟩
abbrev cX0_halfHoursOn : ByteArray := prog_1_method_37_code
def yX0_halfHoursOn : MethodName := ⟨RX0, "halfHoursOn", "(I)I"⟩
abbrev cX0_meanDebt : ByteArray := prog_1_method_39_code
def yX0_meanDebt : MethodName := ⟨RX0, "meanDebt", "()D"⟩
abbrev cX0_tideOf : ByteArray := prog_1_method_45_code
def yX0_tideOf : MethodName := ⟨RX0, "tideOf", "(I)I"⟩
abbrev cX0_duskOf : ByteArray := prog_1_method_46_code
def yX0_duskOf : MethodName := ⟨RX0, "duskOf", "(I)I"⟩
abbrev cX0_dawnOf : ByteArray := prog_1_method_47_code
def yX0_dawnOf : MethodName := ⟨RX0, "dawnOf", "(I)I"⟩
abbrev cX0_isInHours : ByteArray := prog_1_method_48_code
def yX0_isInHours : MethodName := ⟨RX0, "isInHours", "(II)Z"⟩
abbrev cX0_isOnAt : ByteArray := prog_1_method_49_code
def yX0_isOnAt : MethodName := ⟨RX0, "isOnAt", "(II)Z"⟩
abbrev cX0_exempts : ByteArray := prog_1_method_50_code
def yX0_exempts : MethodName := ⟨RX0, "exempts", "(II)Z"⟩
abbrev cX0_bars : ByteArray := prog_1_method_51_code
def yX0_bars : MethodName := ⟨RX0, "bars", "(IIII)Z"⟩
abbrev cX0_isFreeAt : ByteArray := prog_1_method_52_code
def yX0_isFreeAt : MethodName := ⟨RX0, "isFreeAt", "(III)Z"⟩
abbrev cX0_timesBegun : ByteArray := prog_1_method_53_code
def yX0_timesBegun : MethodName := ⟨RX0, "timesBegun", "(II)I"⟩
abbrev cX0_stampPlace : ByteArray := prog_1_method_55_code
def yX0_stampPlace : MethodName := ⟨RX0, "stampPlace", "(II)I"⟩
abbrev cX0_useStamp : ByteArray := prog_1_method_56_code
def yX0_useStamp : MethodName := ⟨RX0, "useStamp", "(II)Z"⟩
abbrev cX0_fineOnce : ByteArray := prog_1_method_57_code
def yX0_fineOnce : MethodName := ⟨RX0, "fineOnce", "(I)I"⟩
abbrev cX0_missing : ByteArray := prog_1_method_58_code
def yX0_missing : MethodName := ⟨RX0, "missing", "(III)I"⟩
abbrev cX0_requireQuarter : ByteArray := prog_1_method_59_code
def yX0_requireQuarter : MethodName := ⟨RX0, "requireQuarter", "(I)V"⟩
abbrev cX0_requireOrder : ByteArray := prog_1_method_60_code
def yX0_requireOrder : MethodName := ⟨RX0, "requireOrder", "(I)V"⟩
abbrev cX0_requirePerson : ByteArray := prog_1_method_61_code
def yX0_requirePerson : MethodName := ⟨RX0, "requirePerson", "(I)V"⟩
abbrev cX0_requireTrade : ByteArray := prog_1_method_62_code
def yX0_requireTrade : MethodName := ⟨RX0, "requireTrade", "(I)V"⟩
abbrev cX0_requireColour : ByteArray := prog_1_method_63_code
def yX0_requireColour : MethodName := ⟨RX0, "requireColour", "(I)V"⟩
abbrev cX0_requireWithin : ByteArray := prog_1_method_64_code
def yX0_requireWithin : MethodName := ⟨RX0, "requireWithin", "(III)V"⟩
def RX1 : String := "CurfewDeskLaw$Sim"
def TX1 : u_T := fun k => match k with
  | 0 => ("CurfewDeskLaw$Sim", "day", "I", false)
  | 1 => ("CurfewDeskLaw$Sim", "half", "I", false)
  | 2 => ("CurfewDeskLaw$Sim", "shift", "I", false)
  | 3 => ("CurfewDeskLaw$Sim", "quarters", "I", false)
  | 4 => ("CurfewDeskLaw$Sim", "orders", "I", false)
  | 5 => ("CurfewDeskLaw$Sim", "people", "I", false)
  | 6 => ("CurfewDeskLaw$Sim", "order", "[[I", true)
  | 7 => ("CurfewDeskLaw$Sim", "person", "[[I", true)
  | _ => ("CurfewDeskLaw$Sim", "used", "[I", false)
def tyX1 : Nat → FieldType := fun k => match k with
  | 0 => .int
  | 1 => .int
  | 2 => .int
  | 3 => .int
  | 4 => .int
  | 5 => .int
  | 6 => .array (.array .int)
  | 7 => .array (.array .int)
  | _ => .array .int
abbrev wsX10 : List Cond := u_ws RX1 TX1 9
theorem nmX1 : ∀ a, a < 9 → ∀ b, b < 9 → a ≠ b → (TX1 a).2.1 ≠ (TX1 b).2.1 := by decide +kernel
theorem tyX1_ok : ∀ k, k < 9 → parseFieldDescriptor (TX1 k).2.2.1 = some (tyX1 k) := by decide +kernel
abbrev cX1_init : ByteArray := prog_3_method_1_code
def yX1_init : MethodName := ⟨RX1, "<init>", "()V"⟩
abbrev cX1_tide : ByteArray := prog_3_method_2_code
def yX1_tide : MethodName := ⟨RX1, "tide", "(I)I"⟩
abbrev cX1_isAt : ByteArray := prog_3_method_3_code
def yX1_isAt : MethodName := ⟨RX1, "isAt", "(III)Z"⟩
abbrev cX1_isOn : ByteArray := prog_3_method_4_code
def yX1_isOn : MethodName := ⟨RX1, "isOn", "(I)Z"⟩
abbrev cX1_bars : ByteArray := prog_3_method_5_code
def yX1_bars : MethodName := ⟨RX1, "bars", "(III)Z"⟩
abbrev cX1_against : ByteArray := prog_3_method_6_code
def yX1_against : MethodName := ⟨RX1, "against", "(II)I"⟩
abbrev cX1_missing : ByteArray := prog_3_method_7_code
def yX1_missing : MethodName := ⟨RX1, "missing", "(II)I"⟩
abbrev cX1_on : ByteArray := prog_3_method_9_code
def yX1_on : MethodName := ⟨RX1, "on", "()I"⟩
abbrev cX1_pass : ByteArray := prog_3_method_10_code
def yX1_pass : MethodName := ⟨RX1, "pass", "()I"⟩
abbrev cX1_isSame : ByteArray := prog_3_method_12_code
def yX1_isSame : MethodName := ⟨RX1, "isSame", "(LCurfewDesk;)Z"⟩
def RX2 : String := "CurfewDeskModel"
def TX2 : u_T := fun k => match k with
  | _ => ("", "", "", false)
def tyX2 : Nat → FieldType := fun k => match k with
  | _ => .int
abbrev wsX20 : List Cond := u_ws RX2 TX2 0
theorem nmX2 : ∀ a, a < 0 → ∀ b, b < 0 → a ≠ b → (TX2 a).2.1 ≠ (TX2 b).2.1 := by decide +kernel
theorem tyX2_ok : ∀ k, k < 0 → parseFieldDescriptor (TX2 k).2.2.1 = some (tyX2 k) := by decide +kernel
def RJ9 : String := "java/lang/Math"
def TJ9 : u_T := fun k => match k with
  | _ => ("", "", "", false)
def tyJ9 : Nat → FieldType := fun k => match k with
  | _ => .int
abbrev wsJ90 : List Cond := u_ws RJ9 TJ9 0
theorem nmJ9 : ∀ a, a < 0 → ∀ b, b < 0 → a ≠ b → (TJ9 a).2.1 ≠ (TJ9 b).2.1 := by decide +kernel
theorem tyJ9_ok : ∀ k, k < 0 → parseFieldDescriptor (TJ9 k).2.2.1 = some (tyJ9 k) := by decide +kernel
abbrev cJ9_max_7cf53 : ByteArray := prog_9_method_65_code
def yJ9_max_7cf53 : MethodName := ⟨RJ9, "max", "(II)I"⟩
abbrev cJ9_min_7cf53 : ByteArray := prog_9_method_69_code
def yJ9_min_7cf53 : MethodName := ⟨RJ9, "min", "(II)I"⟩
def RJ0 : String := "java/lang/String"
def TJ0 : u_T := fun k => match k with
  | _ => ("", "", "", false)
def tyJ0 : Nat → FieldType := fun k => match k with
  | _ => .int
abbrev wsJ00 : List Cond := u_ws RJ0 TJ0 0
theorem nmJ0 : ∀ a, a < 0 → ∀ b, b < 0 → a ≠ b → (TJ0 a).2.1 ≠ (TJ0 b).2.1 := by decide +kernel
theorem tyJ0_ok : ∀ k, k < 0 → parseFieldDescriptor (TJ0 k).2.2.1 = some (tyJ0 k) := by decide +kernel
def RL : String := "CurfewDeskLaw"
abbrev cL_below : ByteArray := method_2_code
def yL_below : MethodName := ⟨RL, "below", "(II)I"⟩
abbrev cL_cell : ByteArray := method_3_code
def yL_cell : MethodName := ⟨RL, "cell", "([II)I"⟩
abbrev cL_act : ByteArray := method_4_code
def yL_act : MethodName := ⟨RL, "act", "(LCurfewDesk;LCurfewDeskLaw$Sim;I)Z"⟩
abbrev cL_build : ByteArray := method_5_code
def yL_build : MethodName := ⟨RL, "build", "(LCurfewDesk;[I)LCurfewDeskLaw$Sim;"⟩
abbrev cL_law : ByteArray := code
def yL_law : MethodName := ⟨RL, "law", "([I)Z"⟩
def wsX0_init : List Cond := .code yX0_init cX0_init 1 none :: ([.methodLink RX0 1 objectInit, .instanceMethod objectInit, .code objectInit ⟨#[0xb1]⟩ 1 none, .arrayClass .int, .fieldLink RX0 9 "CurfewDesk" "orderQuarter" "[I", .fieldLink RX0 13 "CurfewDesk" "orderAhead" "[I", .fieldLink RX0 16 "CurfewDesk" "orderBehind" "[I", .fieldLink RX0 19 "CurfewDesk" "orderColour" "[I", .arrayClass .boolean, .fieldLink RX0 22 "CurfewDesk" "orderInForce" "[Z", .fieldLink RX0 26 "CurfewDesk" "orderExempt" "[I", .fieldLink RX0 29 "CurfewDesk" "personTrade" "[I", .fieldLink RX0 32 "CurfewDesk" "personFined" "[I", .fieldLink RX0 35 "CurfewDesk" "personOwes" "[I", .fieldLink RX0 38 "CurfewDesk" "personStamps" "[I", .fieldLink RX0 41 "CurfewDesk" "usedStamps" "[I"] ++ wsX00)
def wsX0_addQuarter : List Cond := .code yX0_addQuarter cX0_addQuarter 2 (some .int) :: ([.classLink RX0 48 "java/lang/IllegalStateException", .initialized "java/lang/IllegalStateException", .fieldLink RX0 44 "CurfewDesk" "quarterCount" "I"] ++ wsX00 ++ (vx_atS RX0 52 "java/lang/IllegalStateException" ["java/lang/RuntimeException", "java/lang/Exception"]).filter goodWord)
def wsX0_requireTrade : List Cond := .code yX0_requireTrade cX0_requireTrade 1 none :: ([.classLink RX0 190 "java/lang/IndexOutOfBoundsException", .initialized "java/lang/IndexOutOfBoundsException"] ++ (vx_atS RX0 194 "java/lang/IndexOutOfBoundsException" ["java/lang/RuntimeException", "java/lang/Exception"]).filter goodWord)
def wsX0_addPerson : List Cond := .code yX0_addPerson cX0_addPerson 3 (some .int) :: ([.classLink RX0 48 "java/lang/IllegalStateException", .initialized "java/lang/IllegalStateException", .fieldLink RX0 59 "CurfewDesk" "personCount" "I", .fieldLink RX0 29 "CurfewDesk" "personTrade" "[I", .methodLink RX0 55 yX0_requireTrade, .static yX0_requireTrade, .initialized RX0, .code yX0_requireTrade cX0_requireTrade 1 none, .classLink RX0 190 "java/lang/IndexOutOfBoundsException", .initialized "java/lang/IndexOutOfBoundsException"] ++ wsX00 ++ (vx_atS RX0 52 "java/lang/IllegalStateException" ["java/lang/RuntimeException", "java/lang/Exception"]).filter goodWord ++ (vx_atS RX0 194 "java/lang/IndexOutOfBoundsException" ["java/lang/RuntimeException", "java/lang/Exception"]).filter goodWord)
def wsX0_requireQuarter : List Cond := .code yX0_requireQuarter cX0_requireQuarter 2 none :: ([.classLink RX0 190 "java/lang/IndexOutOfBoundsException", .initialized "java/lang/IndexOutOfBoundsException", .fieldLink RX0 44 "CurfewDesk" "quarterCount" "I"] ++ wsX00 ++ (vx_atS RX0 194 "java/lang/IndexOutOfBoundsException" ["java/lang/RuntimeException", "java/lang/Exception"]).filter goodWord)
def wsX0_requireColour : List Cond := .code yX0_requireColour cX0_requireColour 1 none :: ([.classLink RX0 190 "java/lang/IndexOutOfBoundsException", .initialized "java/lang/IndexOutOfBoundsException"] ++ (vx_atS RX0 194 "java/lang/IndexOutOfBoundsException" ["java/lang/RuntimeException", "java/lang/Exception"]).filter goodWord)
def wsX0_requireWithin : List Cond := .code yX0_requireWithin cX0_requireWithin 3 none :: ([.classLink RX0 203 "java/lang/IllegalArgumentException", .initialized "java/lang/IllegalArgumentException"] ++ (vx_atS RX0 207 "java/lang/IllegalArgumentException" ["java/lang/RuntimeException", "java/lang/Exception"]).filter goodWord)
def wsX0_addOrder : List Cond := .code yX0_addOrder cX0_addOrder 6 (some .int) :: ([.classLink RX0 48 "java/lang/IllegalStateException", .initialized "java/lang/IllegalStateException", .fieldLink RX0 74 "CurfewDesk" "orderCount" "I", .fieldLink RX0 9 "CurfewDesk" "orderQuarter" "[I", .fieldLink RX0 13 "CurfewDesk" "orderAhead" "[I", .fieldLink RX0 16 "CurfewDesk" "orderBehind" "[I", .fieldLink RX0 19 "CurfewDesk" "orderColour" "[I", .fieldLink RX0 22 "CurfewDesk" "orderInForce" "[Z", .methodLink RX0 64 yX0_requireQuarter, .instanceMethod yX0_requireQuarter, .selects RX0 yX0_requireQuarter yX0_requireQuarter, .initialized RX0, .code yX0_requireQuarter cX0_requireQuarter 2 none, .classLink RX0 190 "java/lang/IndexOutOfBoundsException", .initialized "java/lang/IndexOutOfBoundsException", .fieldLink RX0 44 "CurfewDesk" "quarterCount" "I", .methodLink RX0 67 yX0_requireColour, .static yX0_requireColour, .code yX0_requireColour cX0_requireColour 1 none, .methodLink RX0 70 yX0_requireWithin, .static yX0_requireWithin, .code yX0_requireWithin cX0_requireWithin 3 none, .classLink RX0 203 "java/lang/IllegalArgumentException", .initialized "java/lang/IllegalArgumentException"] ++ wsX00 ++ (vx_atS RX0 52 "java/lang/IllegalStateException" ["java/lang/RuntimeException", "java/lang/Exception"]).filter goodWord ++ (vx_atS RX0 194 "java/lang/IndexOutOfBoundsException" ["java/lang/RuntimeException", "java/lang/Exception"]).filter goodWord ++ (vx_atS RX0 207 "java/lang/IllegalArgumentException" ["java/lang/RuntimeException", "java/lang/Exception"]).filter goodWord)
def wsX0_requireOrder : List Cond := .code yX0_requireOrder cX0_requireOrder 2 none :: ([.classLink RX0 190 "java/lang/IndexOutOfBoundsException", .initialized "java/lang/IndexOutOfBoundsException", .fieldLink RX0 74 "CurfewDesk" "orderCount" "I"] ++ wsX00 ++ (vx_atS RX0 194 "java/lang/IndexOutOfBoundsException" ["java/lang/RuntimeException", "java/lang/Exception"]).filter goodWord)
def wsX0_exempts : List Cond := .code yX0_exempts cX0_exempts 3 (some .boolean) :: ([.fieldLink RX0 26 "CurfewDesk" "orderExempt" "[I"] ++ wsX00)
def wsX0_turnExempt : List Cond := .code yX0_turnExempt cX0_turnExempt 3 (some .boolean) :: ([.fieldLink RX0 26 "CurfewDesk" "orderExempt" "[I", .methodLink RX0 79 yX0_requireOrder, .instanceMethod yX0_requireOrder, .selects RX0 yX0_requireOrder yX0_requireOrder, .initialized RX0, .code yX0_requireOrder cX0_requireOrder 2 none, .classLink RX0 190 "java/lang/IndexOutOfBoundsException", .initialized "java/lang/IndexOutOfBoundsException", .fieldLink RX0 74 "CurfewDesk" "orderCount" "I", .methodLink RX0 55 yX0_requireTrade, .static yX0_requireTrade, .code yX0_requireTrade cX0_requireTrade 1 none, .methodLink RX0 82 yX0_exempts, .instanceMethod yX0_exempts, .selects RX0 yX0_exempts yX0_exempts, .code yX0_exempts cX0_exempts 3 (some .boolean)] ++ wsX00 ++ (vx_atS RX0 194 "java/lang/IndexOutOfBoundsException" ["java/lang/RuntimeException", "java/lang/Exception"]).filter goodWord)
def wsX0_turnOrder : List Cond := .code yX0_turnOrder cX0_turnOrder 2 (some .boolean) :: ([.fieldLink RX0 22 "CurfewDesk" "orderInForce" "[Z", .methodLink RX0 79 yX0_requireOrder, .instanceMethod yX0_requireOrder, .selects RX0 yX0_requireOrder yX0_requireOrder, .initialized RX0, .code yX0_requireOrder cX0_requireOrder 2 none, .classLink RX0 190 "java/lang/IndexOutOfBoundsException", .initialized "java/lang/IndexOutOfBoundsException", .fieldLink RX0 74 "CurfewDesk" "orderCount" "I"] ++ wsX00 ++ (vx_atS RX0 194 "java/lang/IndexOutOfBoundsException" ["java/lang/RuntimeException", "java/lang/Exception"]).filter goodWord)
def wsX0_setShift : List Cond := .code yX0_setShift cX0_setShift 3 (some .int) :: ([.fieldLink RX0 86 "CurfewDesk" "duskShift" "I", .methodLink RX0 70 yX0_requireWithin, .static yX0_requireWithin, .initialized RX0, .code yX0_requireWithin cX0_requireWithin 3 none, .classLink RX0 203 "java/lang/IllegalArgumentException", .initialized "java/lang/IllegalArgumentException"] ++ wsX00 ++ (vx_atS RX0 207 "java/lang/IllegalArgumentException" ["java/lang/RuntimeException", "java/lang/Exception"]).filter goodWord)
def wsX0_requirePerson : List Cond := .code yX0_requirePerson cX0_requirePerson 2 none :: ([.classLink RX0 190 "java/lang/IndexOutOfBoundsException", .initialized "java/lang/IndexOutOfBoundsException", .fieldLink RX0 59 "CurfewDesk" "personCount" "I"] ++ wsX00 ++ (vx_atS RX0 194 "java/lang/IndexOutOfBoundsException" ["java/lang/RuntimeException", "java/lang/Exception"]).filter goodWord)
def wsX0_stampPlace : List Cond := .code yX0_stampPlace cX0_stampPlace 2 (some .int) :: ([])
def wsX0_givePass : List Cond := .code yX0_givePass cX0_givePass 5 (some .int) :: ([.fieldLink RX0 38 "CurfewDesk" "personStamps" "[I", .methodLink RX0 96 Lib.Math.min.name, .static Lib.Math.min.name, .initialized "java/lang/Math", .code Lib.Math.min.name Lib.Math.min.code 2 (some .int), .methodLink RX0 89 yX0_requirePerson, .instanceMethod yX0_requirePerson, .selects RX0 yX0_requirePerson yX0_requirePerson, .initialized RX0, .code yX0_requirePerson cX0_requirePerson 2 none, .classLink RX0 190 "java/lang/IndexOutOfBoundsException", .initialized "java/lang/IndexOutOfBoundsException", .fieldLink RX0 59 "CurfewDesk" "personCount" "I", .methodLink RX0 67 yX0_requireColour, .static yX0_requireColour, .code yX0_requireColour cX0_requireColour 1 none, .methodLink RX0 70 yX0_requireWithin, .static yX0_requireWithin, .code yX0_requireWithin cX0_requireWithin 3 none, .classLink RX0 203 "java/lang/IllegalArgumentException", .initialized "java/lang/IllegalArgumentException", .methodLink RX0 92 yX0_stampPlace, .static yX0_stampPlace, .code yX0_stampPlace cX0_stampPlace 2 (some .int)] ++ wsX00 ++ (vx_atS RX0 194 "java/lang/IndexOutOfBoundsException" ["java/lang/RuntimeException", "java/lang/Exception"]).filter goodWord ++ (vx_atS RX0 207 "java/lang/IllegalArgumentException" ["java/lang/RuntimeException", "java/lang/Exception"]).filter goodWord)
def wsX0_takePass : List Cond := .code yX0_takePass cX0_takePass 5 (some .int) :: ([.fieldLink RX0 38 "CurfewDesk" "personStamps" "[I", .methodLink RX0 89 yX0_requirePerson, .instanceMethod yX0_requirePerson, .selects RX0 yX0_requirePerson yX0_requirePerson, .initialized RX0, .code yX0_requirePerson cX0_requirePerson 2 none, .classLink RX0 190 "java/lang/IndexOutOfBoundsException", .initialized "java/lang/IndexOutOfBoundsException", .fieldLink RX0 59 "CurfewDesk" "personCount" "I", .methodLink RX0 67 yX0_requireColour, .static yX0_requireColour, .code yX0_requireColour cX0_requireColour 1 none, .methodLink RX0 92 yX0_stampPlace, .static yX0_stampPlace, .code yX0_stampPlace cX0_stampPlace 2 (some .int)] ++ wsX00 ++ (vx_atS RX0 194 "java/lang/IndexOutOfBoundsException" ["java/lang/RuntimeException", "java/lang/Exception"]).filter goodWord)
def wsX0_tideOf : List Cond := .code yX0_tideOf cX0_tideOf 2 (some .int) :: ([])
def wsX0_duskOf : List Cond := .code yX0_duskOf cX0_duskOf 2 (some .int) :: ([.fieldLink RX0 86 "CurfewDesk" "duskShift" "I", .methodLink RX0 184 yX0_tideOf, .static yX0_tideOf, .initialized RX0, .code yX0_tideOf cX0_tideOf 2 (some .int)] ++ wsX00)
def wsX0_dawnOf : List Cond := .code yX0_dawnOf cX0_dawnOf 1 (some .int) :: ([.methodLink RX0 184 yX0_tideOf, .static yX0_tideOf, .initialized RX0, .code yX0_tideOf cX0_tideOf 2 (some .int)])
def wsX0_isInHours : List Cond := .code yX0_isInHours cX0_isInHours 5 (some .boolean) :: ([.fieldLink RX0 13 "CurfewDesk" "orderAhead" "[I", .fieldLink RX0 16 "CurfewDesk" "orderBehind" "[I", .methodLink RX0 122 yX0_duskOf, .instanceMethod yX0_duskOf, .selects RX0 yX0_duskOf yX0_duskOf, .initialized RX0, .code yX0_duskOf cX0_duskOf 2 (some .int), .fieldLink RX0 86 "CurfewDesk" "duskShift" "I", .methodLink RX0 184 yX0_tideOf, .static yX0_tideOf, .code yX0_tideOf cX0_tideOf 2 (some .int), .methodLink RX0 125 yX0_dawnOf, .static yX0_dawnOf, .code yX0_dawnOf cX0_dawnOf 1 (some .int)] ++ wsX00)
def wsX0_bars_r1 : List Cond := [Cond.fieldLink RX0 9 "CurfewDesk" "orderQuarter" "[I", Cond.fieldLink RX0 29 "CurfewDesk" "personTrade" "[I", Cond.fieldLink RX0 22 "CurfewDesk" "orderInForce" "[Z", Cond.methodLink RX0 82 yX0_exempts, Cond.instanceMethod yX0_exempts, Cond.selects RX0 yX0_exempts yX0_exempts, Cond.initialized RX0, Cond.code yX0_exempts cX0_exempts 3 (some .boolean), Cond.fieldLink RX0 26 "CurfewDesk" "orderExempt" "[I", Cond.methodLink RX0 139 yX0_isInHours, Cond.instanceMethod yX0_isInHours, Cond.selects RX0 yX0_isInHours yX0_isInHours, Cond.code yX0_isInHours cX0_isInHours 5 (some .boolean), Cond.fieldLink RX0 13 "CurfewDesk" "orderAhead" "[I", Cond.fieldLink RX0 16 "CurfewDesk" "orderBehind" "[I", Cond.methodLink RX0 122 yX0_duskOf, Cond.instanceMethod yX0_duskOf, Cond.selects RX0 yX0_duskOf yX0_duskOf, Cond.code yX0_duskOf cX0_duskOf 2 (some .int), Cond.fieldLink RX0 86 "CurfewDesk" "duskShift" "I", Cond.methodLink RX0 184 yX0_tideOf, Cond.static yX0_tideOf, Cond.code yX0_tideOf cX0_tideOf 2 (some .int), Cond.methodLink RX0 125 yX0_dawnOf]
def wsX0_bars_r2 : List Cond := [Cond.static yX0_dawnOf, Cond.code yX0_dawnOf cX0_dawnOf 1 (some .int)]
def wsX0_bars : List Cond := .code yX0_bars cX0_bars 5 (some .boolean) :: ((wsX0_bars_r1 ++ wsX0_bars_r2) ++ wsX00)
def wsX0_useStamp : List Cond := .code yX0_useStamp cX0_useStamp 4 (some .boolean) :: ([.fieldLink RX0 38 "CurfewDesk" "personStamps" "[I", .fieldLink RX0 41 "CurfewDesk" "usedStamps" "[I", .methodLink RX0 92 yX0_stampPlace, .static yX0_stampPlace, .initialized RX0, .code yX0_stampPlace cX0_stampPlace 2 (some .int)] ++ wsX00)
def wsX0_fineOnce : List Cond := .code yX0_fineOnce cX0_fineOnce 3 (some .int) :: ([.fieldLink RX0 32 "CurfewDesk" "personFined" "[I", .fieldLink RX0 35 "CurfewDesk" "personOwes" "[I"] ++ wsX00)
def wsX0_goOut_r1 : List Cond := [Cond.fieldLink RX0 74 "CurfewDesk" "orderCount" "I", Cond.fieldLink RX0 101 "CurfewDesk" "now" "I", Cond.fieldLink RX0 19 "CurfewDesk" "orderColour" "[I", Cond.methodLink RX0 89 yX0_requirePerson, Cond.instanceMethod yX0_requirePerson, Cond.selects RX0 yX0_requirePerson yX0_requirePerson, Cond.initialized RX0, Cond.code yX0_requirePerson cX0_requirePerson 2 none, Cond.classLink RX0 190 "java/lang/IndexOutOfBoundsException", Cond.initialized "java/lang/IndexOutOfBoundsException", Cond.fieldLink RX0 59 "CurfewDesk" "personCount" "I", Cond.methodLink RX0 64 yX0_requireQuarter, Cond.instanceMethod yX0_requireQuarter, Cond.selects RX0 yX0_requireQuarter yX0_requireQuarter, Cond.code yX0_requireQuarter cX0_requireQuarter 2 none, Cond.fieldLink RX0 44 "CurfewDesk" "quarterCount" "I", Cond.methodLink RX0 104 yX0_bars, Cond.instanceMethod yX0_bars, Cond.selects RX0 yX0_bars yX0_bars, Cond.code yX0_bars cX0_bars 5 (some .boolean), Cond.fieldLink RX0 9 "CurfewDesk" "orderQuarter" "[I", Cond.fieldLink RX0 29 "CurfewDesk" "personTrade" "[I", Cond.fieldLink RX0 22 "CurfewDesk" "orderInForce" "[Z", Cond.methodLink RX0 82 yX0_exempts]
def wsX0_goOut_r2 : List Cond := [Cond.instanceMethod yX0_exempts, Cond.selects RX0 yX0_exempts yX0_exempts, Cond.code yX0_exempts cX0_exempts 3 (some .boolean), Cond.fieldLink RX0 26 "CurfewDesk" "orderExempt" "[I", Cond.methodLink RX0 139 yX0_isInHours, Cond.instanceMethod yX0_isInHours, Cond.selects RX0 yX0_isInHours yX0_isInHours, Cond.code yX0_isInHours cX0_isInHours 5 (some .boolean), Cond.fieldLink RX0 13 "CurfewDesk" "orderAhead" "[I", Cond.fieldLink RX0 16 "CurfewDesk" "orderBehind" "[I", Cond.methodLink RX0 122 yX0_duskOf, Cond.instanceMethod yX0_duskOf, Cond.selects RX0 yX0_duskOf yX0_duskOf, Cond.code yX0_duskOf cX0_duskOf 2 (some .int), Cond.fieldLink RX0 86 "CurfewDesk" "duskShift" "I", Cond.methodLink RX0 184 yX0_tideOf, Cond.static yX0_tideOf, Cond.code yX0_tideOf cX0_tideOf 2 (some .int), Cond.methodLink RX0 125 yX0_dawnOf, Cond.static yX0_dawnOf, Cond.code yX0_dawnOf cX0_dawnOf 1 (some .int), Cond.methodLink RX0 108 yX0_useStamp, Cond.instanceMethod yX0_useStamp, Cond.selects RX0 yX0_useStamp yX0_useStamp]
def wsX0_goOut_r3 : List Cond := [Cond.code yX0_useStamp cX0_useStamp 4 (some .boolean), Cond.fieldLink RX0 38 "CurfewDesk" "personStamps" "[I", Cond.fieldLink RX0 41 "CurfewDesk" "usedStamps" "[I", Cond.methodLink RX0 92 yX0_stampPlace, Cond.static yX0_stampPlace, Cond.code yX0_stampPlace cX0_stampPlace 2 (some .int), Cond.methodLink RX0 111 yX0_fineOnce, Cond.instanceMethod yX0_fineOnce, Cond.selects RX0 yX0_fineOnce yX0_fineOnce, Cond.code yX0_fineOnce cX0_fineOnce 3 (some .int), Cond.fieldLink RX0 32 "CurfewDesk" "personFined" "[I", Cond.fieldLink RX0 35 "CurfewDesk" "personOwes" "[I"]
def wsX0_goOut : List Cond := .code yX0_goOut cX0_goOut 5 (some .int) :: ((wsX0_goOut_r1 ++ (wsX0_goOut_r2 ++ wsX0_goOut_r3)) ++ wsX00 ++ (vx_atS RX0 194 "java/lang/IndexOutOfBoundsException" ["java/lang/RuntimeException", "java/lang/Exception"]).filter goodWord)
def wsX0_isOnAt : List Cond := .code yX0_isOnAt cX0_isOnAt 3 (some .boolean) :: ([.fieldLink RX0 22 "CurfewDesk" "orderInForce" "[Z", .methodLink RX0 139 yX0_isInHours, .instanceMethod yX0_isInHours, .selects RX0 yX0_isInHours yX0_isInHours, .initialized RX0, .code yX0_isInHours cX0_isInHours 5 (some .boolean), .fieldLink RX0 13 "CurfewDesk" "orderAhead" "[I", .fieldLink RX0 16 "CurfewDesk" "orderBehind" "[I", .methodLink RX0 122 yX0_duskOf, .instanceMethod yX0_duskOf, .selects RX0 yX0_duskOf yX0_duskOf, .code yX0_duskOf cX0_duskOf 2 (some .int), .fieldLink RX0 86 "CurfewDesk" "duskShift" "I", .methodLink RX0 184 yX0_tideOf, .static yX0_tideOf, .code yX0_tideOf cX0_tideOf 2 (some .int), .methodLink RX0 125 yX0_dawnOf, .static yX0_dawnOf, .code yX0_dawnOf cX0_dawnOf 1 (some .int)] ++ wsX00)
def wsX0_timesBegun : List Cond := .code yX0_timesBegun cX0_timesBegun 7 (some .int) :: ([.fieldLink RX0 101 "CurfewDesk" "now" "I", .methodLink RX0 128 yX0_isOnAt, .instanceMethod yX0_isOnAt, .selects RX0 yX0_isOnAt yX0_isOnAt, .initialized RX0, .code yX0_isOnAt cX0_isOnAt 3 (some .boolean), .fieldLink RX0 22 "CurfewDesk" "orderInForce" "[Z", .methodLink RX0 139 yX0_isInHours, .instanceMethod yX0_isInHours, .selects RX0 yX0_isInHours yX0_isInHours, .code yX0_isInHours cX0_isInHours 5 (some .boolean), .fieldLink RX0 13 "CurfewDesk" "orderAhead" "[I", .fieldLink RX0 16 "CurfewDesk" "orderBehind" "[I", .methodLink RX0 122 yX0_duskOf, .instanceMethod yX0_duskOf, .selects RX0 yX0_duskOf yX0_duskOf, .code yX0_duskOf cX0_duskOf 2 (some .int), .fieldLink RX0 86 "CurfewDesk" "duskShift" "I", .methodLink RX0 184 yX0_tideOf, .static yX0_tideOf, .code yX0_tideOf cX0_tideOf 2 (some .int), .methodLink RX0 125 yX0_dawnOf, .static yX0_dawnOf, .code yX0_dawnOf cX0_dawnOf 1 (some .int)] ++ wsX00)
def wsX0_pass_r1 : List Cond := [Cond.fieldLink RX0 74 "CurfewDesk" "orderCount" "I", Cond.fieldLink RX0 101 "CurfewDesk" "now" "I", Cond.methodLink RX0 70 yX0_requireWithin, Cond.static yX0_requireWithin, Cond.initialized RX0, Cond.code yX0_requireWithin cX0_requireWithin 3 none, Cond.classLink RX0 203 "java/lang/IllegalArgumentException", Cond.initialized "java/lang/IllegalArgumentException", Cond.methodLink RX0 115 yX0_timesBegun, Cond.instanceMethod yX0_timesBegun, Cond.selects RX0 yX0_timesBegun yX0_timesBegun, Cond.code yX0_timesBegun cX0_timesBegun 7 (some .int), Cond.methodLink RX0 128 yX0_isOnAt, Cond.instanceMethod yX0_isOnAt, Cond.selects RX0 yX0_isOnAt yX0_isOnAt, Cond.code yX0_isOnAt cX0_isOnAt 3 (some .boolean), Cond.fieldLink RX0 22 "CurfewDesk" "orderInForce" "[Z", Cond.methodLink RX0 139 yX0_isInHours, Cond.instanceMethod yX0_isInHours, Cond.selects RX0 yX0_isInHours yX0_isInHours, Cond.code yX0_isInHours cX0_isInHours 5 (some .boolean), Cond.fieldLink RX0 13 "CurfewDesk" "orderAhead" "[I", Cond.fieldLink RX0 16 "CurfewDesk" "orderBehind" "[I", Cond.methodLink RX0 122 yX0_duskOf]
def wsX0_pass_r2 : List Cond := [Cond.instanceMethod yX0_duskOf, Cond.selects RX0 yX0_duskOf yX0_duskOf, Cond.code yX0_duskOf cX0_duskOf 2 (some .int), Cond.fieldLink RX0 86 "CurfewDesk" "duskShift" "I", Cond.methodLink RX0 184 yX0_tideOf, Cond.static yX0_tideOf, Cond.code yX0_tideOf cX0_tideOf 2 (some .int), Cond.methodLink RX0 125 yX0_dawnOf, Cond.static yX0_dawnOf, Cond.code yX0_dawnOf cX0_dawnOf 1 (some .int)]
def wsX0_pass : List Cond := .code yX0_pass cX0_pass 4 (some .int) :: ((wsX0_pass_r1 ++ wsX0_pass_r2) ++ wsX00 ++ (vx_atS RX0 207 "java/lang/IllegalArgumentException" ["java/lang/RuntimeException", "java/lang/Exception"]).filter goodWord)
def wsX0_day : List Cond := .code yX0_day cX0_day 1 (some .int) :: ([.fieldLink RX0 101 "CurfewDesk" "now" "I"] ++ wsX00)
def wsX0_halfHour : List Cond := .code yX0_halfHour cX0_halfHour 1 (some .int) :: ([.fieldLink RX0 101 "CurfewDesk" "now" "I"] ++ wsX00)
def wsX0_duskIn : List Cond := .code yX0_duskIn cX0_duskIn 2 (some .int) :: ([.methodLink RX0 70 yX0_requireWithin, .static yX0_requireWithin, .initialized RX0, .code yX0_requireWithin cX0_requireWithin 3 none, .classLink RX0 203 "java/lang/IllegalArgumentException", .initialized "java/lang/IllegalArgumentException", .methodLink RX0 118 yX0_day, .instanceMethod yX0_day, .selects RX0 yX0_day yX0_day, .code yX0_day cX0_day 1 (some .int), .fieldLink RX0 101 "CurfewDesk" "now" "I", .methodLink RX0 122 yX0_duskOf, .instanceMethod yX0_duskOf, .selects RX0 yX0_duskOf yX0_duskOf, .code yX0_duskOf cX0_duskOf 2 (some .int), .fieldLink RX0 86 "CurfewDesk" "duskShift" "I", .methodLink RX0 184 yX0_tideOf, .static yX0_tideOf, .code yX0_tideOf cX0_tideOf 2 (some .int)] ++ wsX00 ++ (vx_atS RX0 207 "java/lang/IllegalArgumentException" ["java/lang/RuntimeException", "java/lang/Exception"]).filter goodWord)
def wsX0_dawnIn : List Cond := .code yX0_dawnIn cX0_dawnIn 2 (some .int) :: ([.methodLink RX0 70 yX0_requireWithin, .static yX0_requireWithin, .initialized RX0, .code yX0_requireWithin cX0_requireWithin 3 none, .classLink RX0 203 "java/lang/IllegalArgumentException", .initialized "java/lang/IllegalArgumentException", .methodLink RX0 118 yX0_day, .instanceMethod yX0_day, .selects RX0 yX0_day yX0_day, .code yX0_day cX0_day 1 (some .int), .fieldLink RX0 101 "CurfewDesk" "now" "I", .methodLink RX0 125 yX0_dawnOf, .static yX0_dawnOf, .code yX0_dawnOf cX0_dawnOf 1 (some .int), .methodLink RX0 184 yX0_tideOf, .static yX0_tideOf, .code yX0_tideOf cX0_tideOf 2 (some .int)] ++ wsX00 ++ (vx_atS RX0 207 "java/lang/IllegalArgumentException" ["java/lang/RuntimeException", "java/lang/Exception"]).filter goodWord)
def wsX0_quarterOf : List Cond := .code yX0_quarterOf cX0_quarterOf 2 (some .int) :: ([.fieldLink RX0 9 "CurfewDesk" "orderQuarter" "[I", .methodLink RX0 79 yX0_requireOrder, .instanceMethod yX0_requireOrder, .selects RX0 yX0_requireOrder yX0_requireOrder, .initialized RX0, .code yX0_requireOrder cX0_requireOrder 2 none, .classLink RX0 190 "java/lang/IndexOutOfBoundsException", .initialized "java/lang/IndexOutOfBoundsException", .fieldLink RX0 74 "CurfewDesk" "orderCount" "I"] ++ wsX00 ++ (vx_atS RX0 194 "java/lang/IndexOutOfBoundsException" ["java/lang/RuntimeException", "java/lang/Exception"]).filter goodWord)
def wsX0_colourOf : List Cond := .code yX0_colourOf cX0_colourOf 2 (some .int) :: ([.fieldLink RX0 19 "CurfewDesk" "orderColour" "[I", .methodLink RX0 79 yX0_requireOrder, .instanceMethod yX0_requireOrder, .selects RX0 yX0_requireOrder yX0_requireOrder, .initialized RX0, .code yX0_requireOrder cX0_requireOrder 2 none, .classLink RX0 190 "java/lang/IndexOutOfBoundsException", .initialized "java/lang/IndexOutOfBoundsException", .fieldLink RX0 74 "CurfewDesk" "orderCount" "I"] ++ wsX00 ++ (vx_atS RX0 194 "java/lang/IndexOutOfBoundsException" ["java/lang/RuntimeException", "java/lang/Exception"]).filter goodWord)
def wsX0_isInForce : List Cond := .code yX0_isInForce cX0_isInForce 2 (some .boolean) :: ([.fieldLink RX0 22 "CurfewDesk" "orderInForce" "[Z", .methodLink RX0 79 yX0_requireOrder, .instanceMethod yX0_requireOrder, .selects RX0 yX0_requireOrder yX0_requireOrder, .initialized RX0, .code yX0_requireOrder cX0_requireOrder 2 none, .classLink RX0 190 "java/lang/IndexOutOfBoundsException", .initialized "java/lang/IndexOutOfBoundsException", .fieldLink RX0 74 "CurfewDesk" "orderCount" "I"] ++ wsX00 ++ (vx_atS RX0 194 "java/lang/IndexOutOfBoundsException" ["java/lang/RuntimeException", "java/lang/Exception"]).filter goodWord)
def wsX0_isOn_r1 : List Cond := [Cond.fieldLink RX0 101 "CurfewDesk" "now" "I", Cond.methodLink RX0 79 yX0_requireOrder, Cond.instanceMethod yX0_requireOrder, Cond.selects RX0 yX0_requireOrder yX0_requireOrder, Cond.initialized RX0, Cond.code yX0_requireOrder cX0_requireOrder 2 none, Cond.classLink RX0 190 "java/lang/IndexOutOfBoundsException", Cond.initialized "java/lang/IndexOutOfBoundsException", Cond.fieldLink RX0 74 "CurfewDesk" "orderCount" "I", Cond.methodLink RX0 128 yX0_isOnAt, Cond.instanceMethod yX0_isOnAt, Cond.selects RX0 yX0_isOnAt yX0_isOnAt, Cond.code yX0_isOnAt cX0_isOnAt 3 (some .boolean), Cond.fieldLink RX0 22 "CurfewDesk" "orderInForce" "[Z", Cond.methodLink RX0 139 yX0_isInHours, Cond.instanceMethod yX0_isInHours, Cond.selects RX0 yX0_isInHours yX0_isInHours, Cond.code yX0_isInHours cX0_isInHours 5 (some .boolean), Cond.fieldLink RX0 13 "CurfewDesk" "orderAhead" "[I", Cond.fieldLink RX0 16 "CurfewDesk" "orderBehind" "[I", Cond.methodLink RX0 122 yX0_duskOf, Cond.instanceMethod yX0_duskOf, Cond.selects RX0 yX0_duskOf yX0_duskOf, Cond.code yX0_duskOf cX0_duskOf 2 (some .int)]
def wsX0_isOn_r2 : List Cond := [Cond.fieldLink RX0 86 "CurfewDesk" "duskShift" "I", Cond.methodLink RX0 184 yX0_tideOf, Cond.static yX0_tideOf, Cond.code yX0_tideOf cX0_tideOf 2 (some .int), Cond.methodLink RX0 125 yX0_dawnOf, Cond.static yX0_dawnOf, Cond.code yX0_dawnOf cX0_dawnOf 1 (some .int)]
def wsX0_isOn : List Cond := .code yX0_isOn cX0_isOn 2 (some .boolean) :: ((wsX0_isOn_r1 ++ wsX0_isOn_r2) ++ wsX00 ++ (vx_atS RX0 194 "java/lang/IndexOutOfBoundsException" ["java/lang/RuntimeException", "java/lang/Exception"]).filter goodWord)
def wsX0_isExempt : List Cond := .code yX0_isExempt cX0_isExempt 3 (some .boolean) :: ([.methodLink RX0 79 yX0_requireOrder, .instanceMethod yX0_requireOrder, .selects RX0 yX0_requireOrder yX0_requireOrder, .initialized RX0, .code yX0_requireOrder cX0_requireOrder 2 none, .classLink RX0 190 "java/lang/IndexOutOfBoundsException", .initialized "java/lang/IndexOutOfBoundsException", .fieldLink RX0 74 "CurfewDesk" "orderCount" "I", .methodLink RX0 55 yX0_requireTrade, .static yX0_requireTrade, .code yX0_requireTrade cX0_requireTrade 1 none, .methodLink RX0 82 yX0_exempts, .instanceMethod yX0_exempts, .selects RX0 yX0_exempts yX0_exempts, .code yX0_exempts cX0_exempts 3 (some .boolean), .fieldLink RX0 26 "CurfewDesk" "orderExempt" "[I"] ++ wsX00 ++ (vx_atS RX0 194 "java/lang/IndexOutOfBoundsException" ["java/lang/RuntimeException", "java/lang/Exception"]).filter goodWord)
def wsX0_barredBy_r1 : List Cond := [Cond.fieldLink RX0 59 "CurfewDesk" "personCount" "I", Cond.fieldLink RX0 9 "CurfewDesk" "orderQuarter" "[I", Cond.fieldLink RX0 101 "CurfewDesk" "now" "I", Cond.methodLink RX0 79 yX0_requireOrder, Cond.instanceMethod yX0_requireOrder, Cond.selects RX0 yX0_requireOrder yX0_requireOrder, Cond.initialized RX0, Cond.code yX0_requireOrder cX0_requireOrder 2 none, Cond.classLink RX0 190 "java/lang/IndexOutOfBoundsException", Cond.initialized "java/lang/IndexOutOfBoundsException", Cond.fieldLink RX0 74 "CurfewDesk" "orderCount" "I", Cond.methodLink RX0 104 yX0_bars, Cond.instanceMethod yX0_bars, Cond.selects RX0 yX0_bars yX0_bars, Cond.code yX0_bars cX0_bars 5 (some .boolean), Cond.fieldLink RX0 29 "CurfewDesk" "personTrade" "[I", Cond.fieldLink RX0 22 "CurfewDesk" "orderInForce" "[Z", Cond.methodLink RX0 82 yX0_exempts, Cond.instanceMethod yX0_exempts, Cond.selects RX0 yX0_exempts yX0_exempts, Cond.code yX0_exempts cX0_exempts 3 (some .boolean), Cond.fieldLink RX0 26 "CurfewDesk" "orderExempt" "[I", Cond.methodLink RX0 139 yX0_isInHours, Cond.instanceMethod yX0_isInHours]
def wsX0_barredBy_r2 : List Cond := [Cond.selects RX0 yX0_isInHours yX0_isInHours, Cond.code yX0_isInHours cX0_isInHours 5 (some .boolean), Cond.fieldLink RX0 13 "CurfewDesk" "orderAhead" "[I", Cond.fieldLink RX0 16 "CurfewDesk" "orderBehind" "[I", Cond.methodLink RX0 122 yX0_duskOf, Cond.instanceMethod yX0_duskOf, Cond.selects RX0 yX0_duskOf yX0_duskOf, Cond.code yX0_duskOf cX0_duskOf 2 (some .int), Cond.fieldLink RX0 86 "CurfewDesk" "duskShift" "I", Cond.methodLink RX0 184 yX0_tideOf, Cond.static yX0_tideOf, Cond.code yX0_tideOf cX0_tideOf 2 (some .int), Cond.methodLink RX0 125 yX0_dawnOf, Cond.static yX0_dawnOf, Cond.code yX0_dawnOf cX0_dawnOf 1 (some .int)]
def wsX0_barredBy : List Cond := .code yX0_barredBy cX0_barredBy 4 (some .int) :: ((wsX0_barredBy_r1 ++ wsX0_barredBy_r2) ++ wsX00 ++ (vx_atS RX0 194 "java/lang/IndexOutOfBoundsException" ["java/lang/RuntimeException", "java/lang/Exception"]).filter goodWord)
def wsX0_tradeOf : List Cond := .code yX0_tradeOf cX0_tradeOf 2 (some .int) :: ([.fieldLink RX0 29 "CurfewDesk" "personTrade" "[I", .methodLink RX0 89 yX0_requirePerson, .instanceMethod yX0_requirePerson, .selects RX0 yX0_requirePerson yX0_requirePerson, .initialized RX0, .code yX0_requirePerson cX0_requirePerson 2 none, .classLink RX0 190 "java/lang/IndexOutOfBoundsException", .initialized "java/lang/IndexOutOfBoundsException", .fieldLink RX0 59 "CurfewDesk" "personCount" "I"] ++ wsX00 ++ (vx_atS RX0 194 "java/lang/IndexOutOfBoundsException" ["java/lang/RuntimeException", "java/lang/Exception"]).filter goodWord)
def wsX0_stampsOf : List Cond := .code yX0_stampsOf cX0_stampsOf 3 (some .int) :: ([.fieldLink RX0 38 "CurfewDesk" "personStamps" "[I", .methodLink RX0 89 yX0_requirePerson, .instanceMethod yX0_requirePerson, .selects RX0 yX0_requirePerson yX0_requirePerson, .initialized RX0, .code yX0_requirePerson cX0_requirePerson 2 none, .classLink RX0 190 "java/lang/IndexOutOfBoundsException", .initialized "java/lang/IndexOutOfBoundsException", .fieldLink RX0 59 "CurfewDesk" "personCount" "I", .methodLink RX0 67 yX0_requireColour, .static yX0_requireColour, .code yX0_requireColour cX0_requireColour 1 none, .methodLink RX0 92 yX0_stampPlace, .static yX0_stampPlace, .code yX0_stampPlace cX0_stampPlace 2 (some .int)] ++ wsX00 ++ (vx_atS RX0 194 "java/lang/IndexOutOfBoundsException" ["java/lang/RuntimeException", "java/lang/Exception"]).filter goodWord)
def wsX0_owes : List Cond := .code yX0_owes cX0_owes 2 (some .int) :: ([.fieldLink RX0 35 "CurfewDesk" "personOwes" "[I", .methodLink RX0 89 yX0_requirePerson, .instanceMethod yX0_requirePerson, .selects RX0 yX0_requirePerson yX0_requirePerson, .initialized RX0, .code yX0_requirePerson cX0_requirePerson 2 none, .classLink RX0 190 "java/lang/IndexOutOfBoundsException", .initialized "java/lang/IndexOutOfBoundsException", .fieldLink RX0 59 "CurfewDesk" "personCount" "I"] ++ wsX00 ++ (vx_atS RX0 194 "java/lang/IndexOutOfBoundsException" ["java/lang/RuntimeException", "java/lang/Exception"]).filter goodWord)
def wsX0_timesFined : List Cond := .code yX0_timesFined cX0_timesFined 2 (some .int) :: ([.fieldLink RX0 32 "CurfewDesk" "personFined" "[I", .methodLink RX0 89 yX0_requirePerson, .instanceMethod yX0_requirePerson, .selects RX0 yX0_requirePerson yX0_requirePerson, .initialized RX0, .code yX0_requirePerson cX0_requirePerson 2 none, .classLink RX0 190 "java/lang/IndexOutOfBoundsException", .initialized "java/lang/IndexOutOfBoundsException", .fieldLink RX0 59 "CurfewDesk" "personCount" "I"] ++ wsX00 ++ (vx_atS RX0 194 "java/lang/IndexOutOfBoundsException" ["java/lang/RuntimeException", "java/lang/Exception"]).filter goodWord)
def wsX0_ordersAgainst_r1 : List Cond := [Cond.fieldLink RX0 74 "CurfewDesk" "orderCount" "I", Cond.fieldLink RX0 101 "CurfewDesk" "now" "I", Cond.methodLink RX0 89 yX0_requirePerson, Cond.instanceMethod yX0_requirePerson, Cond.selects RX0 yX0_requirePerson yX0_requirePerson, Cond.initialized RX0, Cond.code yX0_requirePerson cX0_requirePerson 2 none, Cond.classLink RX0 190 "java/lang/IndexOutOfBoundsException", Cond.initialized "java/lang/IndexOutOfBoundsException", Cond.fieldLink RX0 59 "CurfewDesk" "personCount" "I", Cond.methodLink RX0 64 yX0_requireQuarter, Cond.instanceMethod yX0_requireQuarter, Cond.selects RX0 yX0_requireQuarter yX0_requireQuarter, Cond.code yX0_requireQuarter cX0_requireQuarter 2 none, Cond.fieldLink RX0 44 "CurfewDesk" "quarterCount" "I", Cond.methodLink RX0 104 yX0_bars, Cond.instanceMethod yX0_bars, Cond.selects RX0 yX0_bars yX0_bars, Cond.code yX0_bars cX0_bars 5 (some .boolean), Cond.fieldLink RX0 9 "CurfewDesk" "orderQuarter" "[I", Cond.fieldLink RX0 29 "CurfewDesk" "personTrade" "[I", Cond.fieldLink RX0 22 "CurfewDesk" "orderInForce" "[Z", Cond.methodLink RX0 82 yX0_exempts, Cond.instanceMethod yX0_exempts]
def wsX0_ordersAgainst_r2 : List Cond := [Cond.selects RX0 yX0_exempts yX0_exempts, Cond.code yX0_exempts cX0_exempts 3 (some .boolean), Cond.fieldLink RX0 26 "CurfewDesk" "orderExempt" "[I", Cond.methodLink RX0 139 yX0_isInHours, Cond.instanceMethod yX0_isInHours, Cond.selects RX0 yX0_isInHours yX0_isInHours, Cond.code yX0_isInHours cX0_isInHours 5 (some .boolean), Cond.fieldLink RX0 13 "CurfewDesk" "orderAhead" "[I", Cond.fieldLink RX0 16 "CurfewDesk" "orderBehind" "[I", Cond.methodLink RX0 122 yX0_duskOf, Cond.instanceMethod yX0_duskOf, Cond.selects RX0 yX0_duskOf yX0_duskOf, Cond.code yX0_duskOf cX0_duskOf 2 (some .int), Cond.fieldLink RX0 86 "CurfewDesk" "duskShift" "I", Cond.methodLink RX0 184 yX0_tideOf, Cond.static yX0_tideOf, Cond.code yX0_tideOf cX0_tideOf 2 (some .int), Cond.methodLink RX0 125 yX0_dawnOf, Cond.static yX0_dawnOf, Cond.code yX0_dawnOf cX0_dawnOf 1 (some .int)]
def wsX0_ordersAgainst : List Cond := .code yX0_ordersAgainst cX0_ordersAgainst 5 (some .int) :: ((wsX0_ordersAgainst_r1 ++ wsX0_ordersAgainst_r2) ++ wsX00 ++ (vx_atS RX0 194 "java/lang/IndexOutOfBoundsException" ["java/lang/RuntimeException", "java/lang/Exception"]).filter goodWord)
def wsX0_missing_r1 : List Cond := [Cond.fieldLink RX0 74 "CurfewDesk" "orderCount" "I", Cond.fieldLink RX0 19 "CurfewDesk" "orderColour" "[I", Cond.fieldLink RX0 101 "CurfewDesk" "now" "I", Cond.fieldLink RX0 38 "CurfewDesk" "personStamps" "[I", Cond.methodLink RX0 187 Lib.Math.max.name, Cond.static Lib.Math.max.name, Cond.initialized "java/lang/Math", Cond.code Lib.Math.max.name Lib.Math.max.code 2 (some .int), Cond.methodLink RX0 104 yX0_bars, Cond.instanceMethod yX0_bars, Cond.selects RX0 yX0_bars yX0_bars, Cond.initialized RX0, Cond.code yX0_bars cX0_bars 5 (some .boolean), Cond.fieldLink RX0 9 "CurfewDesk" "orderQuarter" "[I", Cond.fieldLink RX0 29 "CurfewDesk" "personTrade" "[I", Cond.fieldLink RX0 22 "CurfewDesk" "orderInForce" "[Z", Cond.methodLink RX0 82 yX0_exempts, Cond.instanceMethod yX0_exempts, Cond.selects RX0 yX0_exempts yX0_exempts, Cond.code yX0_exempts cX0_exempts 3 (some .boolean), Cond.fieldLink RX0 26 "CurfewDesk" "orderExempt" "[I", Cond.methodLink RX0 139 yX0_isInHours, Cond.instanceMethod yX0_isInHours, Cond.selects RX0 yX0_isInHours yX0_isInHours]
def wsX0_missing_r2 : List Cond := [Cond.code yX0_isInHours cX0_isInHours 5 (some .boolean), Cond.fieldLink RX0 13 "CurfewDesk" "orderAhead" "[I", Cond.fieldLink RX0 16 "CurfewDesk" "orderBehind" "[I", Cond.methodLink RX0 122 yX0_duskOf, Cond.instanceMethod yX0_duskOf, Cond.selects RX0 yX0_duskOf yX0_duskOf, Cond.code yX0_duskOf cX0_duskOf 2 (some .int), Cond.fieldLink RX0 86 "CurfewDesk" "duskShift" "I", Cond.methodLink RX0 184 yX0_tideOf, Cond.static yX0_tideOf, Cond.code yX0_tideOf cX0_tideOf 2 (some .int), Cond.methodLink RX0 125 yX0_dawnOf, Cond.static yX0_dawnOf, Cond.code yX0_dawnOf cX0_dawnOf 1 (some .int), Cond.methodLink RX0 92 yX0_stampPlace, Cond.static yX0_stampPlace, Cond.code yX0_stampPlace cX0_stampPlace 2 (some .int)]
def wsX0_missing : List Cond := .code yX0_missing cX0_missing 8 (some .int) :: ((wsX0_missing_r1 ++ wsX0_missing_r2) ++ wsX00)
def wsX0_mayGo_r1 : List Cond := [Cond.methodLink RX0 89 yX0_requirePerson, Cond.instanceMethod yX0_requirePerson, Cond.selects RX0 yX0_requirePerson yX0_requirePerson, Cond.initialized RX0, Cond.code yX0_requirePerson cX0_requirePerson 2 none, Cond.classLink RX0 190 "java/lang/IndexOutOfBoundsException", Cond.initialized "java/lang/IndexOutOfBoundsException", Cond.fieldLink RX0 59 "CurfewDesk" "personCount" "I", Cond.methodLink RX0 64 yX0_requireQuarter, Cond.instanceMethod yX0_requireQuarter, Cond.selects RX0 yX0_requireQuarter yX0_requireQuarter, Cond.code yX0_requireQuarter cX0_requireQuarter 2 none, Cond.fieldLink RX0 44 "CurfewDesk" "quarterCount" "I", Cond.methodLink RX0 131 yX0_missing, Cond.instanceMethod yX0_missing, Cond.selects RX0 yX0_missing yX0_missing, Cond.code yX0_missing cX0_missing 8 (some .int), Cond.fieldLink RX0 74 "CurfewDesk" "orderCount" "I", Cond.fieldLink RX0 19 "CurfewDesk" "orderColour" "[I", Cond.fieldLink RX0 101 "CurfewDesk" "now" "I", Cond.fieldLink RX0 38 "CurfewDesk" "personStamps" "[I", Cond.methodLink RX0 187 Lib.Math.max.name, Cond.static Lib.Math.max.name, Cond.initialized "java/lang/Math"]
def wsX0_mayGo_r2 : List Cond := [Cond.code Lib.Math.max.name Lib.Math.max.code 2 (some .int), Cond.methodLink RX0 104 yX0_bars, Cond.instanceMethod yX0_bars, Cond.selects RX0 yX0_bars yX0_bars, Cond.code yX0_bars cX0_bars 5 (some .boolean), Cond.fieldLink RX0 9 "CurfewDesk" "orderQuarter" "[I", Cond.fieldLink RX0 29 "CurfewDesk" "personTrade" "[I", Cond.fieldLink RX0 22 "CurfewDesk" "orderInForce" "[Z", Cond.methodLink RX0 82 yX0_exempts, Cond.instanceMethod yX0_exempts, Cond.selects RX0 yX0_exempts yX0_exempts, Cond.code yX0_exempts cX0_exempts 3 (some .boolean), Cond.fieldLink RX0 26 "CurfewDesk" "orderExempt" "[I", Cond.methodLink RX0 139 yX0_isInHours, Cond.instanceMethod yX0_isInHours, Cond.selects RX0 yX0_isInHours yX0_isInHours, Cond.code yX0_isInHours cX0_isInHours 5 (some .boolean), Cond.fieldLink RX0 13 "CurfewDesk" "orderAhead" "[I", Cond.fieldLink RX0 16 "CurfewDesk" "orderBehind" "[I", Cond.methodLink RX0 122 yX0_duskOf, Cond.instanceMethod yX0_duskOf, Cond.selects RX0 yX0_duskOf yX0_duskOf, Cond.code yX0_duskOf cX0_duskOf 2 (some .int), Cond.fieldLink RX0 86 "CurfewDesk" "duskShift" "I"]
def wsX0_mayGo_r3 : List Cond := [Cond.methodLink RX0 184 yX0_tideOf, Cond.static yX0_tideOf, Cond.code yX0_tideOf cX0_tideOf 2 (some .int), Cond.methodLink RX0 125 yX0_dawnOf, Cond.static yX0_dawnOf, Cond.code yX0_dawnOf cX0_dawnOf 1 (some .int), Cond.methodLink RX0 92 yX0_stampPlace, Cond.static yX0_stampPlace, Cond.code yX0_stampPlace cX0_stampPlace 2 (some .int)]
def wsX0_mayGo : List Cond := .code yX0_mayGo cX0_mayGo 3 (some .boolean) :: ((wsX0_mayGo_r1 ++ (wsX0_mayGo_r2 ++ wsX0_mayGo_r3)) ++ wsX00 ++ (vx_atS RX0 194 "java/lang/IndexOutOfBoundsException" ["java/lang/RuntimeException", "java/lang/Exception"]).filter goodWord)
def wsX0_stampsMissing_r1 : List Cond := [Cond.methodLink RX0 89 yX0_requirePerson, Cond.instanceMethod yX0_requirePerson, Cond.selects RX0 yX0_requirePerson yX0_requirePerson, Cond.initialized RX0, Cond.code yX0_requirePerson cX0_requirePerson 2 none, Cond.classLink RX0 190 "java/lang/IndexOutOfBoundsException", Cond.initialized "java/lang/IndexOutOfBoundsException", Cond.fieldLink RX0 59 "CurfewDesk" "personCount" "I", Cond.methodLink RX0 64 yX0_requireQuarter, Cond.instanceMethod yX0_requireQuarter, Cond.selects RX0 yX0_requireQuarter yX0_requireQuarter, Cond.code yX0_requireQuarter cX0_requireQuarter 2 none, Cond.fieldLink RX0 44 "CurfewDesk" "quarterCount" "I", Cond.methodLink RX0 131 yX0_missing, Cond.instanceMethod yX0_missing, Cond.selects RX0 yX0_missing yX0_missing, Cond.code yX0_missing cX0_missing 8 (some .int), Cond.fieldLink RX0 74 "CurfewDesk" "orderCount" "I", Cond.fieldLink RX0 19 "CurfewDesk" "orderColour" "[I", Cond.fieldLink RX0 101 "CurfewDesk" "now" "I", Cond.fieldLink RX0 38 "CurfewDesk" "personStamps" "[I", Cond.methodLink RX0 187 Lib.Math.max.name, Cond.static Lib.Math.max.name, Cond.initialized "java/lang/Math"]
def wsX0_stampsMissing_r2 : List Cond := [Cond.code Lib.Math.max.name Lib.Math.max.code 2 (some .int), Cond.methodLink RX0 104 yX0_bars, Cond.instanceMethod yX0_bars, Cond.selects RX0 yX0_bars yX0_bars, Cond.code yX0_bars cX0_bars 5 (some .boolean), Cond.fieldLink RX0 9 "CurfewDesk" "orderQuarter" "[I", Cond.fieldLink RX0 29 "CurfewDesk" "personTrade" "[I", Cond.fieldLink RX0 22 "CurfewDesk" "orderInForce" "[Z", Cond.methodLink RX0 82 yX0_exempts, Cond.instanceMethod yX0_exempts, Cond.selects RX0 yX0_exempts yX0_exempts, Cond.code yX0_exempts cX0_exempts 3 (some .boolean), Cond.fieldLink RX0 26 "CurfewDesk" "orderExempt" "[I", Cond.methodLink RX0 139 yX0_isInHours, Cond.instanceMethod yX0_isInHours, Cond.selects RX0 yX0_isInHours yX0_isInHours, Cond.code yX0_isInHours cX0_isInHours 5 (some .boolean), Cond.fieldLink RX0 13 "CurfewDesk" "orderAhead" "[I", Cond.fieldLink RX0 16 "CurfewDesk" "orderBehind" "[I", Cond.methodLink RX0 122 yX0_duskOf, Cond.instanceMethod yX0_duskOf, Cond.selects RX0 yX0_duskOf yX0_duskOf, Cond.code yX0_duskOf cX0_duskOf 2 (some .int), Cond.fieldLink RX0 86 "CurfewDesk" "duskShift" "I"]
def wsX0_stampsMissing_r3 : List Cond := [Cond.methodLink RX0 184 yX0_tideOf, Cond.static yX0_tideOf, Cond.code yX0_tideOf cX0_tideOf 2 (some .int), Cond.methodLink RX0 125 yX0_dawnOf, Cond.static yX0_dawnOf, Cond.code yX0_dawnOf cX0_dawnOf 1 (some .int), Cond.methodLink RX0 92 yX0_stampPlace, Cond.static yX0_stampPlace, Cond.code yX0_stampPlace cX0_stampPlace 2 (some .int)]
def wsX0_stampsMissing : List Cond := .code yX0_stampsMissing cX0_stampsMissing 3 (some .int) :: ((wsX0_stampsMissing_r1 ++ (wsX0_stampsMissing_r2 ++ wsX0_stampsMissing_r3)) ++ wsX00 ++ (vx_atS RX0 194 "java/lang/IndexOutOfBoundsException" ["java/lang/RuntimeException", "java/lang/Exception"]).filter goodWord)
def wsX0_quarters : List Cond := .code yX0_quarters cX0_quarters 1 (some .int) :: ([.fieldLink RX0 44 "CurfewDesk" "quarterCount" "I"] ++ wsX00)
def wsX0_orders : List Cond := .code yX0_orders cX0_orders 1 (some .int) :: ([.fieldLink RX0 74 "CurfewDesk" "orderCount" "I"] ++ wsX00)
def wsX0_people : List Cond := .code yX0_people cX0_people 1 (some .int) :: ([.fieldLink RX0 59 "CurfewDesk" "personCount" "I"] ++ wsX00)
def wsX0_ordersOn_r1 : List Cond := [Cond.fieldLink RX0 74 "CurfewDesk" "orderCount" "I", Cond.fieldLink RX0 101 "CurfewDesk" "now" "I", Cond.methodLink RX0 128 yX0_isOnAt, Cond.instanceMethod yX0_isOnAt, Cond.selects RX0 yX0_isOnAt yX0_isOnAt, Cond.initialized RX0, Cond.code yX0_isOnAt cX0_isOnAt 3 (some .boolean), Cond.fieldLink RX0 22 "CurfewDesk" "orderInForce" "[Z", Cond.methodLink RX0 139 yX0_isInHours, Cond.instanceMethod yX0_isInHours, Cond.selects RX0 yX0_isInHours yX0_isInHours, Cond.code yX0_isInHours cX0_isInHours 5 (some .boolean), Cond.fieldLink RX0 13 "CurfewDesk" "orderAhead" "[I", Cond.fieldLink RX0 16 "CurfewDesk" "orderBehind" "[I", Cond.methodLink RX0 122 yX0_duskOf, Cond.instanceMethod yX0_duskOf, Cond.selects RX0 yX0_duskOf yX0_duskOf, Cond.code yX0_duskOf cX0_duskOf 2 (some .int), Cond.fieldLink RX0 86 "CurfewDesk" "duskShift" "I", Cond.methodLink RX0 184 yX0_tideOf, Cond.static yX0_tideOf, Cond.code yX0_tideOf cX0_tideOf 2 (some .int), Cond.methodLink RX0 125 yX0_dawnOf, Cond.static yX0_dawnOf]
def wsX0_ordersOn_r2 : List Cond := [Cond.code yX0_dawnOf cX0_dawnOf 1 (some .int)]
def wsX0_ordersOn : List Cond := .code yX0_ordersOn cX0_ordersOn 3 (some .int) :: ((wsX0_ordersOn_r1 ++ wsX0_ordersOn_r2) ++ wsX00)
def wsX0_shift : List Cond := .code yX0_shift cX0_shift 1 (some .int) :: ([.fieldLink RX0 86 "CurfewDesk" "duskShift" "I"] ++ wsX00)
def wsX0_allOwe : List Cond := .code yX0_allOwe cX0_allOwe 3 (some .int) :: ([.fieldLink RX0 59 "CurfewDesk" "personCount" "I", .fieldLink RX0 35 "CurfewDesk" "personOwes" "[I"] ++ wsX00)
def wsX0_stampsUsed : List Cond := .code yX0_stampsUsed cX0_stampsUsed 2 (some .int) :: ([.fieldLink RX0 41 "CurfewDesk" "usedStamps" "[I", .methodLink RX0 67 yX0_requireColour, .static yX0_requireColour, .initialized RX0, .code yX0_requireColour cX0_requireColour 1 none, .classLink RX0 190 "java/lang/IndexOutOfBoundsException", .initialized "java/lang/IndexOutOfBoundsException"] ++ wsX00 ++ (vx_atS RX0 194 "java/lang/IndexOutOfBoundsException" ["java/lang/RuntimeException", "java/lang/Exception"]).filter goodWord)
def wsX0_isFreeAt_r1 : List Cond := [Cond.fieldLink RX0 74 "CurfewDesk" "orderCount" "I", Cond.methodLink RX0 104 yX0_bars, Cond.instanceMethod yX0_bars, Cond.selects RX0 yX0_bars yX0_bars, Cond.initialized RX0, Cond.code yX0_bars cX0_bars 5 (some .boolean), Cond.fieldLink RX0 9 "CurfewDesk" "orderQuarter" "[I", Cond.fieldLink RX0 29 "CurfewDesk" "personTrade" "[I", Cond.fieldLink RX0 22 "CurfewDesk" "orderInForce" "[Z", Cond.methodLink RX0 82 yX0_exempts, Cond.instanceMethod yX0_exempts, Cond.selects RX0 yX0_exempts yX0_exempts, Cond.code yX0_exempts cX0_exempts 3 (some .boolean), Cond.fieldLink RX0 26 "CurfewDesk" "orderExempt" "[I", Cond.methodLink RX0 139 yX0_isInHours, Cond.instanceMethod yX0_isInHours, Cond.selects RX0 yX0_isInHours yX0_isInHours, Cond.code yX0_isInHours cX0_isInHours 5 (some .boolean), Cond.fieldLink RX0 13 "CurfewDesk" "orderAhead" "[I", Cond.fieldLink RX0 16 "CurfewDesk" "orderBehind" "[I", Cond.methodLink RX0 122 yX0_duskOf, Cond.instanceMethod yX0_duskOf, Cond.selects RX0 yX0_duskOf yX0_duskOf, Cond.code yX0_duskOf cX0_duskOf 2 (some .int)]
def wsX0_isFreeAt_r2 : List Cond := [Cond.fieldLink RX0 86 "CurfewDesk" "duskShift" "I", Cond.methodLink RX0 184 yX0_tideOf, Cond.static yX0_tideOf, Cond.code yX0_tideOf cX0_tideOf 2 (some .int), Cond.methodLink RX0 125 yX0_dawnOf, Cond.static yX0_dawnOf, Cond.code yX0_dawnOf cX0_dawnOf 1 (some .int)]
def wsX0_isFreeAt : List Cond := .code yX0_isFreeAt cX0_isFreeAt 5 (some .boolean) :: ((wsX0_isFreeAt_r1 ++ wsX0_isFreeAt_r2) ++ wsX00)
def wsX0_halfHoursUntilFree_r1 : List Cond := [Cond.fieldLink RX0 101 "CurfewDesk" "now" "I", Cond.methodLink RX0 89 yX0_requirePerson, Cond.instanceMethod yX0_requirePerson, Cond.selects RX0 yX0_requirePerson yX0_requirePerson, Cond.initialized RX0, Cond.code yX0_requirePerson cX0_requirePerson 2 none, Cond.classLink RX0 190 "java/lang/IndexOutOfBoundsException", Cond.initialized "java/lang/IndexOutOfBoundsException", Cond.fieldLink RX0 59 "CurfewDesk" "personCount" "I", Cond.methodLink RX0 64 yX0_requireQuarter, Cond.instanceMethod yX0_requireQuarter, Cond.selects RX0 yX0_requireQuarter yX0_requireQuarter, Cond.code yX0_requireQuarter cX0_requireQuarter 2 none, Cond.fieldLink RX0 44 "CurfewDesk" "quarterCount" "I", Cond.methodLink RX0 135 yX0_isFreeAt, Cond.instanceMethod yX0_isFreeAt, Cond.selects RX0 yX0_isFreeAt yX0_isFreeAt, Cond.code yX0_isFreeAt cX0_isFreeAt 5 (some .boolean), Cond.fieldLink RX0 74 "CurfewDesk" "orderCount" "I", Cond.methodLink RX0 104 yX0_bars, Cond.instanceMethod yX0_bars, Cond.selects RX0 yX0_bars yX0_bars, Cond.code yX0_bars cX0_bars 5 (some .boolean), Cond.fieldLink RX0 9 "CurfewDesk" "orderQuarter" "[I"]
def wsX0_halfHoursUntilFree_r2 : List Cond := [Cond.fieldLink RX0 29 "CurfewDesk" "personTrade" "[I", Cond.fieldLink RX0 22 "CurfewDesk" "orderInForce" "[Z", Cond.methodLink RX0 82 yX0_exempts, Cond.instanceMethod yX0_exempts, Cond.selects RX0 yX0_exempts yX0_exempts, Cond.code yX0_exempts cX0_exempts 3 (some .boolean), Cond.fieldLink RX0 26 "CurfewDesk" "orderExempt" "[I", Cond.methodLink RX0 139 yX0_isInHours, Cond.instanceMethod yX0_isInHours, Cond.selects RX0 yX0_isInHours yX0_isInHours, Cond.code yX0_isInHours cX0_isInHours 5 (some .boolean), Cond.fieldLink RX0 13 "CurfewDesk" "orderAhead" "[I", Cond.fieldLink RX0 16 "CurfewDesk" "orderBehind" "[I", Cond.methodLink RX0 122 yX0_duskOf, Cond.instanceMethod yX0_duskOf, Cond.selects RX0 yX0_duskOf yX0_duskOf, Cond.code yX0_duskOf cX0_duskOf 2 (some .int), Cond.fieldLink RX0 86 "CurfewDesk" "duskShift" "I", Cond.methodLink RX0 184 yX0_tideOf, Cond.static yX0_tideOf, Cond.code yX0_tideOf cX0_tideOf 2 (some .int), Cond.methodLink RX0 125 yX0_dawnOf, Cond.static yX0_dawnOf, Cond.code yX0_dawnOf cX0_dawnOf 1 (some .int)]
def wsX0_halfHoursUntilFree : List Cond := .code yX0_halfHoursUntilFree cX0_halfHoursUntilFree 4 (some .int) :: ((wsX0_halfHoursUntilFree_r1 ++ wsX0_halfHoursUntilFree_r2) ++ wsX00 ++ (vx_atS RX0 194 "java/lang/IndexOutOfBoundsException" ["java/lang/RuntimeException", "java/lang/Exception"]).filter goodWord)
def wsX0_halfHoursOn_r1 : List Cond := [Cond.fieldLink RX0 101 "CurfewDesk" "now" "I", Cond.methodLink RX0 79 yX0_requireOrder, Cond.instanceMethod yX0_requireOrder, Cond.selects RX0 yX0_requireOrder yX0_requireOrder, Cond.initialized RX0, Cond.code yX0_requireOrder cX0_requireOrder 2 none, Cond.classLink RX0 190 "java/lang/IndexOutOfBoundsException", Cond.initialized "java/lang/IndexOutOfBoundsException", Cond.fieldLink RX0 74 "CurfewDesk" "orderCount" "I", Cond.methodLink RX0 139 yX0_isInHours, Cond.instanceMethod yX0_isInHours, Cond.selects RX0 yX0_isInHours yX0_isInHours, Cond.code yX0_isInHours cX0_isInHours 5 (some .boolean), Cond.fieldLink RX0 13 "CurfewDesk" "orderAhead" "[I", Cond.fieldLink RX0 16 "CurfewDesk" "orderBehind" "[I", Cond.methodLink RX0 122 yX0_duskOf, Cond.instanceMethod yX0_duskOf, Cond.selects RX0 yX0_duskOf yX0_duskOf, Cond.code yX0_duskOf cX0_duskOf 2 (some .int), Cond.fieldLink RX0 86 "CurfewDesk" "duskShift" "I", Cond.methodLink RX0 184 yX0_tideOf, Cond.static yX0_tideOf, Cond.code yX0_tideOf cX0_tideOf 2 (some .int), Cond.methodLink RX0 125 yX0_dawnOf]
def wsX0_halfHoursOn_r2 : List Cond := [Cond.static yX0_dawnOf, Cond.code yX0_dawnOf cX0_dawnOf 1 (some .int)]
def wsX0_halfHoursOn : List Cond := .code yX0_halfHoursOn cX0_halfHoursOn 4 (some .int) :: ((wsX0_halfHoursOn_r1 ++ wsX0_halfHoursOn_r2) ++ wsX00 ++ (vx_atS RX0 194 "java/lang/IndexOutOfBoundsException" ["java/lang/RuntimeException", "java/lang/Exception"]).filter goodWord)
def wsX0_meanDebt : List Cond := .code yX0_meanDebt cX0_meanDebt 1 (some .double) :: ([.fieldLink RX0 59 "CurfewDesk" "personCount" "I", .methodLink RX0 145 yX0_allOwe, .instanceMethod yX0_allOwe, .selects RX0 yX0_allOwe yX0_allOwe, .initialized RX0, .code yX0_allOwe cX0_allOwe 3 (some .int), .fieldLink RX0 35 "CurfewDesk" "personOwes" "[I"] ++ wsX00)
def wsX1_init : List Cond := .code yX1_init cX1_init 1 none :: ([.methodLink RX1 1 objectInit, .instanceMethod objectInit, .code objectInit ⟨#[0xb1]⟩ 1 none, .classLink RX1 7 "[[I", .arrayClass .int, .fieldLink RX1 9 "CurfewDeskLaw$Sim" "order" "[[I", .fieldLink RX1 14 "CurfewDeskLaw$Sim" "person" "[[I", .fieldLink RX1 17 "CurfewDeskLaw$Sim" "used" "[I"] ++ wsX10)
def wsX1_tide : List Cond := .code yX1_tide cX1_tide 3 (some .int) :: ([.arrayClass .int])
def wsX1_isAt : List Cond := .code yX1_isAt cX1_isAt 4 (some .boolean) :: ([.fieldLink RX1 9 "CurfewDeskLaw$Sim" "order" "[[I", .fieldLink RX1 25 "CurfewDeskLaw$Sim" "shift" "I", .methodLink RX1 21 yX1_tide, .static yX1_tide, .initialized RX1, .code yX1_tide cX1_tide 3 (some .int), .arrayClass .int] ++ wsX10)
def wsX1_isOn : List Cond := .code yX1_isOn cX1_isOn 2 (some .boolean) :: ([.fieldLink RX1 9 "CurfewDeskLaw$Sim" "order" "[[I", .fieldLink RX1 29 "CurfewDeskLaw$Sim" "day" "I", .fieldLink RX1 32 "CurfewDeskLaw$Sim" "half" "I", .methodLink RX1 35 yX1_isAt, .instanceMethod yX1_isAt, .selects RX1 yX1_isAt yX1_isAt, .initialized RX1, .code yX1_isAt cX1_isAt 4 (some .boolean), .fieldLink RX1 25 "CurfewDeskLaw$Sim" "shift" "I", .methodLink RX1 21 yX1_tide, .static yX1_tide, .code yX1_tide cX1_tide 3 (some .int), .arrayClass .int] ++ wsX10)
def wsX1_bars : List Cond := .code yX1_bars cX1_bars 4 (some .boolean) :: ([.fieldLink RX1 9 "CurfewDeskLaw$Sim" "order" "[[I", .fieldLink RX1 14 "CurfewDeskLaw$Sim" "person" "[[I", .methodLink RX1 39 yX1_isOn, .instanceMethod yX1_isOn, .selects RX1 yX1_isOn yX1_isOn, .initialized RX1, .code yX1_isOn cX1_isOn 2 (some .boolean), .fieldLink RX1 29 "CurfewDeskLaw$Sim" "day" "I", .fieldLink RX1 32 "CurfewDeskLaw$Sim" "half" "I", .methodLink RX1 35 yX1_isAt, .instanceMethod yX1_isAt, .selects RX1 yX1_isAt yX1_isAt, .code yX1_isAt cX1_isAt 4 (some .boolean), .fieldLink RX1 25 "CurfewDeskLaw$Sim" "shift" "I", .methodLink RX1 21 yX1_tide, .static yX1_tide, .code yX1_tide cX1_tide 3 (some .int), .arrayClass .int] ++ wsX10)
def wsX1_against : List Cond := .code yX1_against cX1_against 5 (some .int) :: ([.fieldLink RX1 43 "CurfewDeskLaw$Sim" "orders" "I", .methodLink RX1 46 yX1_bars, .instanceMethod yX1_bars, .selects RX1 yX1_bars yX1_bars, .initialized RX1, .code yX1_bars cX1_bars 4 (some .boolean), .fieldLink RX1 9 "CurfewDeskLaw$Sim" "order" "[[I", .fieldLink RX1 14 "CurfewDeskLaw$Sim" "person" "[[I", .methodLink RX1 39 yX1_isOn, .instanceMethod yX1_isOn, .selects RX1 yX1_isOn yX1_isOn, .code yX1_isOn cX1_isOn 2 (some .boolean), .fieldLink RX1 29 "CurfewDeskLaw$Sim" "day" "I", .fieldLink RX1 32 "CurfewDeskLaw$Sim" "half" "I", .methodLink RX1 35 yX1_isAt, .instanceMethod yX1_isAt, .selects RX1 yX1_isAt yX1_isAt, .code yX1_isAt cX1_isAt 4 (some .boolean), .fieldLink RX1 25 "CurfewDeskLaw$Sim" "shift" "I", .methodLink RX1 21 yX1_tide, .static yX1_tide, .code yX1_tide cX1_tide 3 (some .int), .arrayClass .int] ++ wsX10)
def wsX1_missing : List Cond := .code yX1_missing cX1_missing 7 (some .int) :: ([.fieldLink RX1 43 "CurfewDeskLaw$Sim" "orders" "I", .fieldLink RX1 9 "CurfewDeskLaw$Sim" "order" "[[I", .fieldLink RX1 14 "CurfewDeskLaw$Sim" "person" "[[I", .methodLink RX1 46 yX1_bars, .instanceMethod yX1_bars, .selects RX1 yX1_bars yX1_bars, .initialized RX1, .code yX1_bars cX1_bars 4 (some .boolean), .methodLink RX1 39 yX1_isOn, .instanceMethod yX1_isOn, .selects RX1 yX1_isOn yX1_isOn, .code yX1_isOn cX1_isOn 2 (some .boolean), .fieldLink RX1 29 "CurfewDeskLaw$Sim" "day" "I", .fieldLink RX1 32 "CurfewDeskLaw$Sim" "half" "I", .methodLink RX1 35 yX1_isAt, .instanceMethod yX1_isAt, .selects RX1 yX1_isAt yX1_isAt, .code yX1_isAt cX1_isAt 4 (some .boolean), .fieldLink RX1 25 "CurfewDeskLaw$Sim" "shift" "I", .methodLink RX1 21 yX1_tide, .static yX1_tide, .code yX1_tide cX1_tide 3 (some .int), .arrayClass .int] ++ wsX10)
def wsX1_on : List Cond := .code yX1_on cX1_on 3 (some .int) :: ([.fieldLink RX1 43 "CurfewDeskLaw$Sim" "orders" "I", .methodLink RX1 39 yX1_isOn, .instanceMethod yX1_isOn, .selects RX1 yX1_isOn yX1_isOn, .initialized RX1, .code yX1_isOn cX1_isOn 2 (some .boolean), .fieldLink RX1 9 "CurfewDeskLaw$Sim" "order" "[[I", .fieldLink RX1 29 "CurfewDeskLaw$Sim" "day" "I", .fieldLink RX1 32 "CurfewDeskLaw$Sim" "half" "I", .methodLink RX1 35 yX1_isAt, .instanceMethod yX1_isAt, .selects RX1 yX1_isAt yX1_isAt, .code yX1_isAt cX1_isAt 4 (some .boolean), .fieldLink RX1 25 "CurfewDeskLaw$Sim" "shift" "I", .methodLink RX1 21 yX1_tide, .static yX1_tide, .code yX1_tide cX1_tide 3 (some .int), .arrayClass .int] ++ wsX10)
def wsX1_pass : List Cond := .code yX1_pass cX1_pass 4 (some .int) :: ([.fieldLink RX1 43 "CurfewDeskLaw$Sim" "orders" "I", .arrayClass .boolean, .fieldLink RX1 32 "CurfewDeskLaw$Sim" "half" "I", .fieldLink RX1 29 "CurfewDeskLaw$Sim" "day" "I", .methodLink RX1 39 yX1_isOn, .instanceMethod yX1_isOn, .selects RX1 yX1_isOn yX1_isOn, .initialized RX1, .code yX1_isOn cX1_isOn 2 (some .boolean), .fieldLink RX1 9 "CurfewDeskLaw$Sim" "order" "[[I", .methodLink RX1 35 yX1_isAt, .instanceMethod yX1_isAt, .selects RX1 yX1_isAt yX1_isAt, .code yX1_isAt cX1_isAt 4 (some .boolean), .fieldLink RX1 25 "CurfewDeskLaw$Sim" "shift" "I", .methodLink RX1 21 yX1_tide, .static yX1_tide, .code yX1_tide cX1_tide 3 (some .int), .arrayClass .int] ++ wsX10)
def wsX1_isSame_r1 : List Cond := [Cond.fieldLink RX1 29 "CurfewDeskLaw$Sim" "day" "I", Cond.fieldLink RX1 32 "CurfewDeskLaw$Sim" "half" "I", Cond.fieldLink RX1 25 "CurfewDeskLaw$Sim" "shift" "I", Cond.fieldLink RX1 52 "CurfewDeskLaw$Sim" "quarters" "I", Cond.fieldLink RX1 43 "CurfewDeskLaw$Sim" "orders" "I", Cond.fieldLink RX1 49 "CurfewDeskLaw$Sim" "people" "I", Cond.fieldLink RX1 17 "CurfewDeskLaw$Sim" "used" "[I", Cond.fieldLink RX1 9 "CurfewDeskLaw$Sim" "order" "[[I", Cond.fieldLink RX1 14 "CurfewDeskLaw$Sim" "person" "[[I", Cond.methodLink RX1 59 yX0_day, Cond.instanceMethod yX0_day, Cond.selects RX0 yX0_day yX0_day, Cond.initialized RX0, Cond.code yX0_day cX0_day 1 (some .int), Cond.fieldLink RX0 101 "CurfewDesk" "now" "I", Cond.methodLink RX1 64 yX0_halfHour, Cond.instanceMethod yX0_halfHour, Cond.selects RX0 yX0_halfHour yX0_halfHour, Cond.code yX0_halfHour cX0_halfHour 1 (some .int), Cond.methodLink RX1 67 yX0_duskIn, Cond.instanceMethod yX0_duskIn, Cond.selects RX0 yX0_duskIn yX0_duskIn, Cond.code yX0_duskIn cX0_duskIn 2 (some .int), Cond.methodLink RX0 70 yX0_requireWithin]
def wsX1_isSame_r2 : List Cond := [Cond.static yX0_requireWithin, Cond.code yX0_requireWithin cX0_requireWithin 3 none, Cond.classLink RX0 203 "java/lang/IllegalArgumentException", Cond.initialized "java/lang/IllegalArgumentException", Cond.methodLink RX0 118 yX0_day, Cond.methodLink RX0 122 yX0_duskOf, Cond.instanceMethod yX0_duskOf, Cond.selects RX0 yX0_duskOf yX0_duskOf, Cond.code yX0_duskOf cX0_duskOf 2 (some .int), Cond.fieldLink RX0 86 "CurfewDesk" "duskShift" "I", Cond.methodLink RX0 184 yX0_tideOf, Cond.static yX0_tideOf, Cond.code yX0_tideOf cX0_tideOf 2 (some .int), Cond.methodLink RX1 21 yX1_tide, Cond.static yX1_tide, Cond.initialized RX1, Cond.code yX1_tide cX1_tide 3 (some .int), Cond.arrayClass .int, Cond.methodLink RX1 70 yX0_dawnIn, Cond.instanceMethod yX0_dawnIn, Cond.selects RX0 yX0_dawnIn yX0_dawnIn, Cond.code yX0_dawnIn cX0_dawnIn 2 (some .int), Cond.methodLink RX0 125 yX0_dawnOf, Cond.static yX0_dawnOf]
def wsX1_isSame_r3 : List Cond := [Cond.code yX0_dawnOf cX0_dawnOf 1 (some .int), Cond.methodLink RX1 73 yX0_quarters, Cond.instanceMethod yX0_quarters, Cond.selects RX0 yX0_quarters yX0_quarters, Cond.code yX0_quarters cX0_quarters 1 (some .int), Cond.fieldLink RX0 44 "CurfewDesk" "quarterCount" "I", Cond.methodLink RX1 75 yX0_orders, Cond.instanceMethod yX0_orders, Cond.selects RX0 yX0_orders yX0_orders, Cond.code yX0_orders cX0_orders 1 (some .int), Cond.fieldLink RX0 74 "CurfewDesk" "orderCount" "I", Cond.methodLink RX1 77 yX0_people, Cond.instanceMethod yX0_people, Cond.selects RX0 yX0_people yX0_people, Cond.code yX0_people cX0_people 1 (some .int), Cond.fieldLink RX0 59 "CurfewDesk" "personCount" "I", Cond.methodLink RX1 79 yX0_ordersOn, Cond.instanceMethod yX0_ordersOn, Cond.selects RX0 yX0_ordersOn yX0_ordersOn, Cond.code yX0_ordersOn cX0_ordersOn 3 (some .int), Cond.methodLink RX0 128 yX0_isOnAt, Cond.instanceMethod yX0_isOnAt, Cond.selects RX0 yX0_isOnAt yX0_isOnAt, Cond.code yX0_isOnAt cX0_isOnAt 3 (some .boolean)]
def wsX1_isSame_r4 : List Cond := [Cond.fieldLink RX0 22 "CurfewDesk" "orderInForce" "[Z", Cond.methodLink RX0 139 yX0_isInHours, Cond.instanceMethod yX0_isInHours, Cond.selects RX0 yX0_isInHours yX0_isInHours, Cond.code yX0_isInHours cX0_isInHours 5 (some .boolean), Cond.fieldLink RX0 13 "CurfewDesk" "orderAhead" "[I", Cond.fieldLink RX0 16 "CurfewDesk" "orderBehind" "[I", Cond.methodLink RX1 82 yX1_on, Cond.instanceMethod yX1_on, Cond.selects RX1 yX1_on yX1_on, Cond.code yX1_on cX1_on 3 (some .int), Cond.methodLink RX1 39 yX1_isOn, Cond.instanceMethod yX1_isOn, Cond.selects RX1 yX1_isOn yX1_isOn, Cond.code yX1_isOn cX1_isOn 2 (some .boolean), Cond.methodLink RX1 35 yX1_isAt, Cond.instanceMethod yX1_isAt, Cond.selects RX1 yX1_isAt yX1_isAt, Cond.code yX1_isAt cX1_isAt 4 (some .boolean), Cond.methodLink RX1 85 yX0_shift, Cond.instanceMethod yX0_shift, Cond.selects RX0 yX0_shift yX0_shift, Cond.code yX0_shift cX0_shift 1 (some .int), Cond.methodLink RX1 87 yX0_stampsUsed]
def wsX1_isSame_r5 : List Cond := [Cond.instanceMethod yX0_stampsUsed, Cond.selects RX0 yX0_stampsUsed yX0_stampsUsed, Cond.code yX0_stampsUsed cX0_stampsUsed 2 (some .int), Cond.fieldLink RX0 41 "CurfewDesk" "usedStamps" "[I", Cond.methodLink RX0 67 yX0_requireColour, Cond.static yX0_requireColour, Cond.code yX0_requireColour cX0_requireColour 1 none, Cond.classLink RX0 190 "java/lang/IndexOutOfBoundsException", Cond.initialized "java/lang/IndexOutOfBoundsException", Cond.methodLink RX1 46 yX1_bars, Cond.instanceMethod yX1_bars, Cond.selects RX1 yX1_bars yX1_bars, Cond.code yX1_bars cX1_bars 4 (some .boolean), Cond.methodLink RX1 90 yX0_quarterOf, Cond.instanceMethod yX0_quarterOf, Cond.selects RX0 yX0_quarterOf yX0_quarterOf, Cond.code yX0_quarterOf cX0_quarterOf 2 (some .int), Cond.fieldLink RX0 9 "CurfewDesk" "orderQuarter" "[I", Cond.methodLink RX0 79 yX0_requireOrder, Cond.instanceMethod yX0_requireOrder, Cond.selects RX0 yX0_requireOrder yX0_requireOrder, Cond.code yX0_requireOrder cX0_requireOrder 2 none, Cond.methodLink RX1 93 yX0_colourOf, Cond.instanceMethod yX0_colourOf]
def wsX1_isSame_r6 : List Cond := [Cond.selects RX0 yX0_colourOf yX0_colourOf, Cond.code yX0_colourOf cX0_colourOf 2 (some .int), Cond.fieldLink RX0 19 "CurfewDesk" "orderColour" "[I", Cond.methodLink RX1 96 yX0_isInForce, Cond.instanceMethod yX0_isInForce, Cond.selects RX0 yX0_isInForce yX0_isInForce, Cond.code yX0_isInForce cX0_isInForce 2 (some .boolean), Cond.methodLink RX1 99 yX0_isOn, Cond.instanceMethod yX0_isOn, Cond.selects RX0 yX0_isOn yX0_isOn, Cond.code yX0_isOn cX0_isOn 2 (some .boolean), Cond.methodLink RX1 100 yX0_barredBy, Cond.instanceMethod yX0_barredBy, Cond.selects RX0 yX0_barredBy yX0_barredBy, Cond.code yX0_barredBy cX0_barredBy 4 (some .int), Cond.methodLink RX0 104 yX0_bars, Cond.instanceMethod yX0_bars, Cond.selects RX0 yX0_bars yX0_bars, Cond.code yX0_bars cX0_bars 5 (some .boolean), Cond.fieldLink RX0 29 "CurfewDesk" "personTrade" "[I", Cond.methodLink RX0 82 yX0_exempts, Cond.instanceMethod yX0_exempts, Cond.selects RX0 yX0_exempts yX0_exempts, Cond.code yX0_exempts cX0_exempts 3 (some .boolean)]
def wsX1_isSame_r7 : List Cond := [Cond.fieldLink RX0 26 "CurfewDesk" "orderExempt" "[I", Cond.methodLink RX1 103 yX0_isExempt, Cond.instanceMethod yX0_isExempt, Cond.selects RX0 yX0_isExempt yX0_isExempt, Cond.code yX0_isExempt cX0_isExempt 3 (some .boolean), Cond.methodLink RX0 55 yX0_requireTrade, Cond.static yX0_requireTrade, Cond.code yX0_requireTrade cX0_requireTrade 1 none, Cond.methodLink RX1 107 yX0_tradeOf, Cond.instanceMethod yX0_tradeOf, Cond.selects RX0 yX0_tradeOf yX0_tradeOf, Cond.code yX0_tradeOf cX0_tradeOf 2 (some .int), Cond.methodLink RX0 89 yX0_requirePerson, Cond.instanceMethod yX0_requirePerson, Cond.selects RX0 yX0_requirePerson yX0_requirePerson, Cond.code yX0_requirePerson cX0_requirePerson 2 none, Cond.methodLink RX1 110 yX0_timesFined, Cond.instanceMethod yX0_timesFined, Cond.selects RX0 yX0_timesFined yX0_timesFined, Cond.code yX0_timesFined cX0_timesFined 2 (some .int), Cond.fieldLink RX0 32 "CurfewDesk" "personFined" "[I", Cond.methodLink RX1 113 yX0_owes, Cond.instanceMethod yX0_owes, Cond.selects RX0 yX0_owes yX0_owes]
def wsX1_isSame_r8 : List Cond := [Cond.code yX0_owes cX0_owes 2 (some .int), Cond.fieldLink RX0 35 "CurfewDesk" "personOwes" "[I", Cond.methodLink RX1 116 yX0_stampsOf, Cond.instanceMethod yX0_stampsOf, Cond.selects RX0 yX0_stampsOf yX0_stampsOf, Cond.code yX0_stampsOf cX0_stampsOf 3 (some .int), Cond.fieldLink RX0 38 "CurfewDesk" "personStamps" "[I", Cond.methodLink RX0 92 yX0_stampPlace, Cond.static yX0_stampPlace, Cond.code yX0_stampPlace cX0_stampPlace 2 (some .int), Cond.methodLink RX1 119 yX0_ordersAgainst, Cond.instanceMethod yX0_ordersAgainst, Cond.selects RX0 yX0_ordersAgainst yX0_ordersAgainst, Cond.code yX0_ordersAgainst cX0_ordersAgainst 5 (some .int), Cond.methodLink RX0 64 yX0_requireQuarter, Cond.instanceMethod yX0_requireQuarter, Cond.selects RX0 yX0_requireQuarter yX0_requireQuarter, Cond.code yX0_requireQuarter cX0_requireQuarter 2 none, Cond.methodLink RX1 122 yX1_against, Cond.instanceMethod yX1_against, Cond.selects RX1 yX1_against yX1_against, Cond.code yX1_against cX1_against 5 (some .int), Cond.methodLink RX1 125 yX0_stampsMissing, Cond.instanceMethod yX0_stampsMissing]
def wsX1_isSame_r9 : List Cond := [Cond.selects RX0 yX0_stampsMissing yX0_stampsMissing, Cond.code yX0_stampsMissing cX0_stampsMissing 3 (some .int), Cond.methodLink RX0 131 yX0_missing, Cond.instanceMethod yX0_missing, Cond.selects RX0 yX0_missing yX0_missing, Cond.code yX0_missing cX0_missing 8 (some .int), Cond.methodLink RX0 187 Lib.Math.max.name, Cond.static Lib.Math.max.name, Cond.initialized "java/lang/Math", Cond.code Lib.Math.max.name Lib.Math.max.code 2 (some .int), Cond.methodLink RX1 55 yX1_missing, Cond.instanceMethod yX1_missing, Cond.selects RX1 yX1_missing yX1_missing, Cond.code yX1_missing cX1_missing 7 (some .int), Cond.methodLink RX1 128 yX0_mayGo, Cond.instanceMethod yX0_mayGo, Cond.selects RX0 yX0_mayGo yX0_mayGo, Cond.code yX0_mayGo cX0_mayGo 3 (some .boolean), Cond.methodLink RX1 131 yX0_allOwe, Cond.instanceMethod yX0_allOwe, Cond.selects RX0 yX0_allOwe yX0_allOwe, Cond.code yX0_allOwe cX0_allOwe 3 (some .int), Cond.methodLink RX1 134 yX0_meanDebt, Cond.instanceMethod yX0_meanDebt]
def wsX1_isSame_r10 : List Cond := [Cond.selects RX0 yX0_meanDebt yX0_meanDebt, Cond.code yX0_meanDebt cX0_meanDebt 1 (some .double), Cond.methodLink RX0 145 yX0_allOwe]
def wsX1_isSame : List Cond := .code yX1_isSame cX1_isSame 5 (some .boolean) :: ((wsX1_isSame_r1 ++ (wsX1_isSame_r2 ++ (wsX1_isSame_r3 ++ (wsX1_isSame_r4 ++ (wsX1_isSame_r5 ++ (wsX1_isSame_r6 ++ (wsX1_isSame_r7 ++ (wsX1_isSame_r8 ++ (wsX1_isSame_r9 ++ wsX1_isSame_r10))))))))) ++ wsX10 ++ wsX00 ++ (vx_atS RX0 207 "java/lang/IllegalArgumentException" ["java/lang/RuntimeException", "java/lang/Exception"]).filter goodWord ++ (vx_atS RX0 194 "java/lang/IndexOutOfBoundsException" ["java/lang/RuntimeException", "java/lang/Exception"]).filter goodWord)
def wsJ9_max_7cf53 : List Cond := .code yJ9_max_7cf53 cJ9_max_7cf53 2 (some .int) :: ([])
def wsJ9_min_7cf53 : List Cond := .code yJ9_min_7cf53 cJ9_min_7cf53 2 (some .int) :: ([])
def wsL_below : List Cond := .code yL_below cL_below 2 (some .int) :: ([.constant RL 7 (2147483647)])
def wsL_cell : List Cond := .code yL_cell cL_cell 2 (some .int) :: ([.constant RL 8 (790386105)])
def wsL_act_r1 : List Cond := [Cond.fieldLink RL 15 "CurfewDeskLaw$Sim" "quarters" "I", Cond.fieldLink RL 27 "CurfewDeskLaw$Sim" "people" "I", Cond.fieldLink RL 30 "CurfewDeskLaw$Sim" "person" "[[I", Cond.fieldLink RL 38 "CurfewDeskLaw$Sim" "orders" "I", Cond.fieldLink RL 41 "CurfewDeskLaw$Sim" "order" "[[I", Cond.fieldLink RL 56 "CurfewDeskLaw$Sim" "shift" "I", Cond.methodLink RL 62 Lib.Math.min.name, Cond.static Lib.Math.min.name, Cond.initialized "java/lang/Math", Cond.code Lib.Math.min.name Lib.Math.min.code 2 (some .int), Cond.fieldLink RL 81 "CurfewDeskLaw$Sim" "used" "[I", Cond.methodLink RL 9 yL_below, Cond.static yL_below, Cond.initialized RL, Cond.code yL_below cL_below 2 (some .int), Cond.constant RL 7 (2147483647), Cond.methodLink RL 21 yX0_addQuarter, Cond.instanceMethod yX0_addQuarter, Cond.selects RX0 yX0_addQuarter yX0_addQuarter, Cond.initialized RX0, Cond.code yX0_addQuarter cX0_addQuarter 2 (some .int), Cond.classLink RX0 48 "java/lang/IllegalStateException", Cond.initialized "java/lang/IllegalStateException", Cond.fieldLink RX0 44 "CurfewDesk" "quarterCount" "I"]
def wsL_act_r2 : List Cond := [Cond.methodLink RL 34 yX0_addPerson, Cond.instanceMethod yX0_addPerson, Cond.selects RX0 yX0_addPerson yX0_addPerson, Cond.code yX0_addPerson cX0_addPerson 3 (some .int), Cond.fieldLink RX0 59 "CurfewDesk" "personCount" "I", Cond.fieldLink RX0 29 "CurfewDesk" "personTrade" "[I", Cond.methodLink RX0 55 yX0_requireTrade, Cond.static yX0_requireTrade, Cond.code yX0_requireTrade cX0_requireTrade 1 none, Cond.classLink RX0 190 "java/lang/IndexOutOfBoundsException", Cond.initialized "java/lang/IndexOutOfBoundsException", Cond.methodLink RL 44 yX0_addOrder, Cond.instanceMethod yX0_addOrder, Cond.selects RX0 yX0_addOrder yX0_addOrder, Cond.code yX0_addOrder cX0_addOrder 6 (some .int), Cond.fieldLink RX0 74 "CurfewDesk" "orderCount" "I", Cond.fieldLink RX0 9 "CurfewDesk" "orderQuarter" "[I", Cond.fieldLink RX0 13 "CurfewDesk" "orderAhead" "[I", Cond.fieldLink RX0 16 "CurfewDesk" "orderBehind" "[I", Cond.fieldLink RX0 19 "CurfewDesk" "orderColour" "[I", Cond.fieldLink RX0 22 "CurfewDesk" "orderInForce" "[Z", Cond.methodLink RX0 64 yX0_requireQuarter, Cond.instanceMethod yX0_requireQuarter, Cond.selects RX0 yX0_requireQuarter yX0_requireQuarter]
def wsL_act_r3 : List Cond := [Cond.code yX0_requireQuarter cX0_requireQuarter 2 none, Cond.methodLink RX0 67 yX0_requireColour, Cond.static yX0_requireColour, Cond.code yX0_requireColour cX0_requireColour 1 none, Cond.methodLink RX0 70 yX0_requireWithin, Cond.static yX0_requireWithin, Cond.code yX0_requireWithin cX0_requireWithin 3 none, Cond.classLink RX0 203 "java/lang/IllegalArgumentException", Cond.initialized "java/lang/IllegalArgumentException", Cond.methodLink RL 48 yX0_turnExempt, Cond.instanceMethod yX0_turnExempt, Cond.selects RX0 yX0_turnExempt yX0_turnExempt, Cond.code yX0_turnExempt cX0_turnExempt 3 (some .boolean), Cond.fieldLink RX0 26 "CurfewDesk" "orderExempt" "[I", Cond.methodLink RX0 79 yX0_requireOrder, Cond.instanceMethod yX0_requireOrder, Cond.selects RX0 yX0_requireOrder yX0_requireOrder, Cond.code yX0_requireOrder cX0_requireOrder 2 none, Cond.methodLink RX0 82 yX0_exempts, Cond.instanceMethod yX0_exempts, Cond.selects RX0 yX0_exempts yX0_exempts, Cond.code yX0_exempts cX0_exempts 3 (some .boolean), Cond.methodLink RL 52 yX0_turnOrder, Cond.instanceMethod yX0_turnOrder]
def wsL_act_r4 : List Cond := [Cond.selects RX0 yX0_turnOrder yX0_turnOrder, Cond.code yX0_turnOrder cX0_turnOrder 2 (some .boolean), Cond.methodLink RL 59 yX0_setShift, Cond.instanceMethod yX0_setShift, Cond.selects RX0 yX0_setShift yX0_setShift, Cond.code yX0_setShift cX0_setShift 3 (some .int), Cond.fieldLink RX0 86 "CurfewDesk" "duskShift" "I", Cond.methodLink RL 67 yX0_givePass, Cond.instanceMethod yX0_givePass, Cond.selects RX0 yX0_givePass yX0_givePass, Cond.code yX0_givePass cX0_givePass 5 (some .int), Cond.fieldLink RX0 38 "CurfewDesk" "personStamps" "[I", Cond.methodLink RX0 96 Lib.Math.min.name, Cond.methodLink RX0 89 yX0_requirePerson, Cond.instanceMethod yX0_requirePerson, Cond.selects RX0 yX0_requirePerson yX0_requirePerson, Cond.code yX0_requirePerson cX0_requirePerson 2 none, Cond.methodLink RX0 92 yX0_stampPlace, Cond.static yX0_stampPlace, Cond.code yX0_stampPlace cX0_stampPlace 2 (some .int), Cond.methodLink RL 71 yX0_takePass, Cond.instanceMethod yX0_takePass, Cond.selects RX0 yX0_takePass yX0_takePass, Cond.code yX0_takePass cX0_takePass 5 (some .int)]
def wsL_act_r5 : List Cond := [Cond.methodLink RL 74 yX1_missing, Cond.instanceMethod yX1_missing, Cond.selects RX1 yX1_missing yX1_missing, Cond.initialized RX1, Cond.code yX1_missing cX1_missing 7 (some .int), Cond.fieldLink RX1 43 "CurfewDeskLaw$Sim" "orders" "I", Cond.fieldLink RX1 9 "CurfewDeskLaw$Sim" "order" "[[I", Cond.fieldLink RX1 14 "CurfewDeskLaw$Sim" "person" "[[I", Cond.methodLink RX1 46 yX1_bars, Cond.instanceMethod yX1_bars, Cond.selects RX1 yX1_bars yX1_bars, Cond.code yX1_bars cX1_bars 4 (some .boolean), Cond.methodLink RX1 39 yX1_isOn, Cond.instanceMethod yX1_isOn, Cond.selects RX1 yX1_isOn yX1_isOn, Cond.code yX1_isOn cX1_isOn 2 (some .boolean), Cond.fieldLink RX1 29 "CurfewDeskLaw$Sim" "day" "I", Cond.fieldLink RX1 32 "CurfewDeskLaw$Sim" "half" "I", Cond.methodLink RX1 35 yX1_isAt, Cond.instanceMethod yX1_isAt, Cond.selects RX1 yX1_isAt yX1_isAt, Cond.code yX1_isAt cX1_isAt 4 (some .boolean), Cond.fieldLink RX1 25 "CurfewDeskLaw$Sim" "shift" "I", Cond.methodLink RX1 21 yX1_tide]
def wsL_act_r6 : List Cond := [Cond.static yX1_tide, Cond.code yX1_tide cX1_tide 3 (some .int), Cond.arrayClass .int, Cond.methodLink RL 77 yX1_bars, Cond.methodLink RL 85 yX0_goOut, Cond.instanceMethod yX0_goOut, Cond.selects RX0 yX0_goOut yX0_goOut, Cond.code yX0_goOut cX0_goOut 5 (some .int), Cond.fieldLink RX0 101 "CurfewDesk" "now" "I", Cond.methodLink RX0 104 yX0_bars, Cond.instanceMethod yX0_bars, Cond.selects RX0 yX0_bars yX0_bars, Cond.code yX0_bars cX0_bars 5 (some .boolean), Cond.methodLink RX0 139 yX0_isInHours, Cond.instanceMethod yX0_isInHours, Cond.selects RX0 yX0_isInHours yX0_isInHours, Cond.code yX0_isInHours cX0_isInHours 5 (some .boolean), Cond.methodLink RX0 122 yX0_duskOf, Cond.instanceMethod yX0_duskOf, Cond.selects RX0 yX0_duskOf yX0_duskOf, Cond.code yX0_duskOf cX0_duskOf 2 (some .int), Cond.methodLink RX0 184 yX0_tideOf, Cond.static yX0_tideOf, Cond.code yX0_tideOf cX0_tideOf 2 (some .int)]
def wsL_act_r7 : List Cond := [Cond.methodLink RX0 125 yX0_dawnOf, Cond.static yX0_dawnOf, Cond.code yX0_dawnOf cX0_dawnOf 1 (some .int), Cond.methodLink RX0 108 yX0_useStamp, Cond.instanceMethod yX0_useStamp, Cond.selects RX0 yX0_useStamp yX0_useStamp, Cond.code yX0_useStamp cX0_useStamp 4 (some .boolean), Cond.fieldLink RX0 41 "CurfewDesk" "usedStamps" "[I", Cond.methodLink RX0 111 yX0_fineOnce, Cond.instanceMethod yX0_fineOnce, Cond.selects RX0 yX0_fineOnce yX0_fineOnce, Cond.code yX0_fineOnce cX0_fineOnce 3 (some .int), Cond.fieldLink RX0 32 "CurfewDesk" "personFined" "[I", Cond.fieldLink RX0 35 "CurfewDesk" "personOwes" "[I", Cond.methodLink RL 88 yX1_pass, Cond.instanceMethod yX1_pass, Cond.selects RX1 yX1_pass yX1_pass, Cond.code yX1_pass cX1_pass 4 (some .int), Cond.arrayClass .boolean, Cond.methodLink RL 91 yX0_pass, Cond.instanceMethod yX0_pass, Cond.selects RX0 yX0_pass yX0_pass, Cond.code yX0_pass cX0_pass 4 (some .int), Cond.methodLink RX0 115 yX0_timesBegun]
def wsL_act_r8 : List Cond := [Cond.instanceMethod yX0_timesBegun, Cond.selects RX0 yX0_timesBegun yX0_timesBegun, Cond.code yX0_timesBegun cX0_timesBegun 7 (some .int), Cond.methodLink RX0 128 yX0_isOnAt, Cond.instanceMethod yX0_isOnAt, Cond.selects RX0 yX0_isOnAt yX0_isOnAt, Cond.code yX0_isOnAt cX0_isOnAt 3 (some .boolean)]
def wsL_act : List Cond := .code yL_act cL_act 16 (some .boolean) :: ((wsL_act_r1 ++ (wsL_act_r2 ++ (wsL_act_r3 ++ (wsL_act_r4 ++ (wsL_act_r5 ++ (wsL_act_r6 ++ (wsL_act_r7 ++ wsL_act_r8))))))) ++ wsX10 ++ wsX00 ++ (vx_atS RX0 52 "java/lang/IllegalStateException" ["java/lang/RuntimeException", "java/lang/Exception"]).filter goodWord ++ (vx_atS RX0 194 "java/lang/IndexOutOfBoundsException" ["java/lang/RuntimeException", "java/lang/Exception"]).filter goodWord ++ (vx_atS RX0 207 "java/lang/IllegalArgumentException" ["java/lang/RuntimeException", "java/lang/Exception"]).filter goodWord)
def wsL_build_r1 : List Cond := [Cond.classLink RL 16 RX1, Cond.instantiable RX1 9, Cond.initialized RX1, Cond.instanceMethod yX1_init, Cond.code yX1_init cX1_init 1 none, Cond.methodLink RX1 1 objectInit, Cond.instanceMethod objectInit, Cond.code objectInit ⟨#[0xb1]⟩ 1 none, Cond.classLink RX1 7 "[[I", Cond.arrayClass .int, Cond.fieldLink RX1 9 "CurfewDeskLaw$Sim" "order" "[[I", Cond.fieldLink RX1 14 "CurfewDeskLaw$Sim" "person" "[[I", Cond.fieldLink RX1 17 "CurfewDeskLaw$Sim" "used" "[I", Cond.methodLink RL 94 yL_cell, Cond.static yL_cell, Cond.initialized RL, Cond.code yL_cell cL_cell 2 (some .int), Cond.constant RL 8 (790386105), Cond.methodLink RL 9 yL_below, Cond.static yL_below, Cond.code yL_below cL_below 2 (some .int), Cond.constant RL 7 (2147483647), Cond.methodLink RL 98 yL_act, Cond.static yL_act]
def wsL_build_r2 : List Cond := [Cond.code yL_act cL_act 16 (some .boolean), Cond.fieldLink RL 15 "CurfewDeskLaw$Sim" "quarters" "I", Cond.fieldLink RL 27 "CurfewDeskLaw$Sim" "people" "I", Cond.fieldLink RL 30 "CurfewDeskLaw$Sim" "person" "[[I", Cond.fieldLink RL 38 "CurfewDeskLaw$Sim" "orders" "I", Cond.fieldLink RL 41 "CurfewDeskLaw$Sim" "order" "[[I", Cond.fieldLink RL 56 "CurfewDeskLaw$Sim" "shift" "I", Cond.methodLink RL 62 Lib.Math.min.name, Cond.static Lib.Math.min.name, Cond.initialized "java/lang/Math", Cond.code Lib.Math.min.name Lib.Math.min.code 2 (some .int), Cond.fieldLink RL 81 "CurfewDeskLaw$Sim" "used" "[I", Cond.methodLink RL 21 yX0_addQuarter, Cond.instanceMethod yX0_addQuarter, Cond.selects RX0 yX0_addQuarter yX0_addQuarter, Cond.initialized RX0, Cond.code yX0_addQuarter cX0_addQuarter 2 (some .int), Cond.classLink RX0 48 "java/lang/IllegalStateException", Cond.initialized "java/lang/IllegalStateException", Cond.fieldLink RX0 44 "CurfewDesk" "quarterCount" "I", Cond.methodLink RL 34 yX0_addPerson, Cond.instanceMethod yX0_addPerson, Cond.selects RX0 yX0_addPerson yX0_addPerson, Cond.code yX0_addPerson cX0_addPerson 3 (some .int)]
def wsL_build_r3 : List Cond := [Cond.fieldLink RX0 59 "CurfewDesk" "personCount" "I", Cond.fieldLink RX0 29 "CurfewDesk" "personTrade" "[I", Cond.methodLink RX0 55 yX0_requireTrade, Cond.static yX0_requireTrade, Cond.code yX0_requireTrade cX0_requireTrade 1 none, Cond.classLink RX0 190 "java/lang/IndexOutOfBoundsException", Cond.initialized "java/lang/IndexOutOfBoundsException", Cond.methodLink RL 44 yX0_addOrder, Cond.instanceMethod yX0_addOrder, Cond.selects RX0 yX0_addOrder yX0_addOrder, Cond.code yX0_addOrder cX0_addOrder 6 (some .int), Cond.fieldLink RX0 74 "CurfewDesk" "orderCount" "I", Cond.fieldLink RX0 9 "CurfewDesk" "orderQuarter" "[I", Cond.fieldLink RX0 13 "CurfewDesk" "orderAhead" "[I", Cond.fieldLink RX0 16 "CurfewDesk" "orderBehind" "[I", Cond.fieldLink RX0 19 "CurfewDesk" "orderColour" "[I", Cond.fieldLink RX0 22 "CurfewDesk" "orderInForce" "[Z", Cond.methodLink RX0 64 yX0_requireQuarter, Cond.instanceMethod yX0_requireQuarter, Cond.selects RX0 yX0_requireQuarter yX0_requireQuarter, Cond.code yX0_requireQuarter cX0_requireQuarter 2 none, Cond.methodLink RX0 67 yX0_requireColour, Cond.static yX0_requireColour, Cond.code yX0_requireColour cX0_requireColour 1 none]
def wsL_build_r4 : List Cond := [Cond.methodLink RX0 70 yX0_requireWithin, Cond.static yX0_requireWithin, Cond.code yX0_requireWithin cX0_requireWithin 3 none, Cond.classLink RX0 203 "java/lang/IllegalArgumentException", Cond.initialized "java/lang/IllegalArgumentException", Cond.methodLink RL 48 yX0_turnExempt, Cond.instanceMethod yX0_turnExempt, Cond.selects RX0 yX0_turnExempt yX0_turnExempt, Cond.code yX0_turnExempt cX0_turnExempt 3 (some .boolean), Cond.fieldLink RX0 26 "CurfewDesk" "orderExempt" "[I", Cond.methodLink RX0 79 yX0_requireOrder, Cond.instanceMethod yX0_requireOrder, Cond.selects RX0 yX0_requireOrder yX0_requireOrder, Cond.code yX0_requireOrder cX0_requireOrder 2 none, Cond.methodLink RX0 82 yX0_exempts, Cond.instanceMethod yX0_exempts, Cond.selects RX0 yX0_exempts yX0_exempts, Cond.code yX0_exempts cX0_exempts 3 (some .boolean), Cond.methodLink RL 52 yX0_turnOrder, Cond.instanceMethod yX0_turnOrder, Cond.selects RX0 yX0_turnOrder yX0_turnOrder, Cond.code yX0_turnOrder cX0_turnOrder 2 (some .boolean), Cond.methodLink RL 59 yX0_setShift, Cond.instanceMethod yX0_setShift]
def wsL_build_r5 : List Cond := [Cond.selects RX0 yX0_setShift yX0_setShift, Cond.code yX0_setShift cX0_setShift 3 (some .int), Cond.fieldLink RX0 86 "CurfewDesk" "duskShift" "I", Cond.methodLink RL 67 yX0_givePass, Cond.instanceMethod yX0_givePass, Cond.selects RX0 yX0_givePass yX0_givePass, Cond.code yX0_givePass cX0_givePass 5 (some .int), Cond.fieldLink RX0 38 "CurfewDesk" "personStamps" "[I", Cond.methodLink RX0 96 Lib.Math.min.name, Cond.methodLink RX0 89 yX0_requirePerson, Cond.instanceMethod yX0_requirePerson, Cond.selects RX0 yX0_requirePerson yX0_requirePerson, Cond.code yX0_requirePerson cX0_requirePerson 2 none, Cond.methodLink RX0 92 yX0_stampPlace, Cond.static yX0_stampPlace, Cond.code yX0_stampPlace cX0_stampPlace 2 (some .int), Cond.methodLink RL 71 yX0_takePass, Cond.instanceMethod yX0_takePass, Cond.selects RX0 yX0_takePass yX0_takePass, Cond.code yX0_takePass cX0_takePass 5 (some .int), Cond.methodLink RL 74 yX1_missing, Cond.instanceMethod yX1_missing, Cond.selects RX1 yX1_missing yX1_missing, Cond.code yX1_missing cX1_missing 7 (some .int)]
def wsL_build_r6 : List Cond := [Cond.fieldLink RX1 43 "CurfewDeskLaw$Sim" "orders" "I", Cond.methodLink RX1 46 yX1_bars, Cond.instanceMethod yX1_bars, Cond.selects RX1 yX1_bars yX1_bars, Cond.code yX1_bars cX1_bars 4 (some .boolean), Cond.methodLink RX1 39 yX1_isOn, Cond.instanceMethod yX1_isOn, Cond.selects RX1 yX1_isOn yX1_isOn, Cond.code yX1_isOn cX1_isOn 2 (some .boolean), Cond.fieldLink RX1 29 "CurfewDeskLaw$Sim" "day" "I", Cond.fieldLink RX1 32 "CurfewDeskLaw$Sim" "half" "I", Cond.methodLink RX1 35 yX1_isAt, Cond.instanceMethod yX1_isAt, Cond.selects RX1 yX1_isAt yX1_isAt, Cond.code yX1_isAt cX1_isAt 4 (some .boolean), Cond.fieldLink RX1 25 "CurfewDeskLaw$Sim" "shift" "I", Cond.methodLink RX1 21 yX1_tide, Cond.static yX1_tide, Cond.code yX1_tide cX1_tide 3 (some .int), Cond.methodLink RL 77 yX1_bars, Cond.methodLink RL 85 yX0_goOut, Cond.instanceMethod yX0_goOut, Cond.selects RX0 yX0_goOut yX0_goOut, Cond.code yX0_goOut cX0_goOut 5 (some .int)]
def wsL_build_r7 : List Cond := [Cond.fieldLink RX0 101 "CurfewDesk" "now" "I", Cond.methodLink RX0 104 yX0_bars, Cond.instanceMethod yX0_bars, Cond.selects RX0 yX0_bars yX0_bars, Cond.code yX0_bars cX0_bars 5 (some .boolean), Cond.methodLink RX0 139 yX0_isInHours, Cond.instanceMethod yX0_isInHours, Cond.selects RX0 yX0_isInHours yX0_isInHours, Cond.code yX0_isInHours cX0_isInHours 5 (some .boolean), Cond.methodLink RX0 122 yX0_duskOf, Cond.instanceMethod yX0_duskOf, Cond.selects RX0 yX0_duskOf yX0_duskOf, Cond.code yX0_duskOf cX0_duskOf 2 (some .int), Cond.methodLink RX0 184 yX0_tideOf, Cond.static yX0_tideOf, Cond.code yX0_tideOf cX0_tideOf 2 (some .int), Cond.methodLink RX0 125 yX0_dawnOf, Cond.static yX0_dawnOf, Cond.code yX0_dawnOf cX0_dawnOf 1 (some .int), Cond.methodLink RX0 108 yX0_useStamp, Cond.instanceMethod yX0_useStamp, Cond.selects RX0 yX0_useStamp yX0_useStamp, Cond.code yX0_useStamp cX0_useStamp 4 (some .boolean), Cond.fieldLink RX0 41 "CurfewDesk" "usedStamps" "[I"]
def wsL_build_r8 : List Cond := [Cond.methodLink RX0 111 yX0_fineOnce, Cond.instanceMethod yX0_fineOnce, Cond.selects RX0 yX0_fineOnce yX0_fineOnce, Cond.code yX0_fineOnce cX0_fineOnce 3 (some .int), Cond.fieldLink RX0 32 "CurfewDesk" "personFined" "[I", Cond.fieldLink RX0 35 "CurfewDesk" "personOwes" "[I", Cond.methodLink RL 88 yX1_pass, Cond.instanceMethod yX1_pass, Cond.selects RX1 yX1_pass yX1_pass, Cond.code yX1_pass cX1_pass 4 (some .int), Cond.arrayClass .boolean, Cond.methodLink RL 91 yX0_pass, Cond.instanceMethod yX0_pass, Cond.selects RX0 yX0_pass yX0_pass, Cond.code yX0_pass cX0_pass 4 (some .int), Cond.methodLink RX0 115 yX0_timesBegun, Cond.instanceMethod yX0_timesBegun, Cond.selects RX0 yX0_timesBegun yX0_timesBegun, Cond.code yX0_timesBegun cX0_timesBegun 7 (some .int), Cond.methodLink RX0 128 yX0_isOnAt, Cond.instanceMethod yX0_isOnAt, Cond.selects RX0 yX0_isOnAt yX0_isOnAt, Cond.code yX0_isOnAt cX0_isOnAt 3 (some .boolean)]
def wsL_build : List Cond := .code yL_build cL_build 5 (some (.object "CurfewDeskLaw$Sim")) :: ((wsL_build_r1 ++ (wsL_build_r2 ++ (wsL_build_r3 ++ (wsL_build_r4 ++ (wsL_build_r5 ++ (wsL_build_r6 ++ (wsL_build_r7 ++ wsL_build_r8))))))) ++ wsX10 ++ wsX00 ++ (vx_atS RX0 52 "java/lang/IllegalStateException" ["java/lang/RuntimeException", "java/lang/Exception"]).filter goodWord ++ (vx_atS RX0 194 "java/lang/IndexOutOfBoundsException" ["java/lang/RuntimeException", "java/lang/Exception"]).filter goodWord ++ (vx_atS RX0 207 "java/lang/IllegalArgumentException" ["java/lang/RuntimeException", "java/lang/Exception"]).filter goodWord)
def wsL_law0_r1 : List Cond := [Cond.classLink RL 22 RX0, Cond.instantiable RX0 16, Cond.initialized RX0, Cond.methodLink RL 102 yX0_init, Cond.instanceMethod yX0_init, Cond.code yX0_init cX0_init 1 none, Cond.methodLink RX0 1 objectInit, Cond.instanceMethod objectInit, Cond.code objectInit ⟨#[0xb1]⟩ 1 none, Cond.arrayClass .int, Cond.fieldLink RX0 9 "CurfewDesk" "orderQuarter" "[I", Cond.fieldLink RX0 13 "CurfewDesk" "orderAhead" "[I", Cond.fieldLink RX0 16 "CurfewDesk" "orderBehind" "[I", Cond.fieldLink RX0 19 "CurfewDesk" "orderColour" "[I", Cond.arrayClass .boolean, Cond.fieldLink RX0 22 "CurfewDesk" "orderInForce" "[Z", Cond.fieldLink RX0 26 "CurfewDesk" "orderExempt" "[I", Cond.fieldLink RX0 29 "CurfewDesk" "personTrade" "[I", Cond.fieldLink RX0 32 "CurfewDesk" "personFined" "[I", Cond.fieldLink RX0 35 "CurfewDesk" "personOwes" "[I", Cond.fieldLink RX0 38 "CurfewDesk" "personStamps" "[I", Cond.fieldLink RX0 41 "CurfewDesk" "usedStamps" "[I", Cond.methodLink RL 103 yL_build, Cond.static yL_build]
def wsL_law0_r2 : List Cond := [Cond.initialized RL, Cond.code yL_build cL_build 5 (some (.object "CurfewDeskLaw$Sim")), Cond.classLink RL 16 RX1, Cond.instantiable RX1 9, Cond.initialized RX1, Cond.instanceMethod yX1_init, Cond.code yX1_init cX1_init 1 none, Cond.methodLink RX1 1 objectInit, Cond.classLink RX1 7 "[[I", Cond.fieldLink RX1 9 "CurfewDeskLaw$Sim" "order" "[[I", Cond.fieldLink RX1 14 "CurfewDeskLaw$Sim" "person" "[[I", Cond.fieldLink RX1 17 "CurfewDeskLaw$Sim" "used" "[I", Cond.methodLink RL 94 yL_cell, Cond.static yL_cell, Cond.code yL_cell cL_cell 2 (some .int), Cond.constant RL 8 (790386105), Cond.methodLink RL 9 yL_below, Cond.static yL_below, Cond.code yL_below cL_below 2 (some .int), Cond.constant RL 7 (2147483647), Cond.methodLink RL 98 yL_act, Cond.static yL_act, Cond.code yL_act cL_act 16 (some .boolean), Cond.fieldLink RL 15 "CurfewDeskLaw$Sim" "quarters" "I"]
def wsL_law0_r3 : List Cond := [Cond.fieldLink RL 27 "CurfewDeskLaw$Sim" "people" "I", Cond.fieldLink RL 30 "CurfewDeskLaw$Sim" "person" "[[I", Cond.fieldLink RL 38 "CurfewDeskLaw$Sim" "orders" "I", Cond.fieldLink RL 41 "CurfewDeskLaw$Sim" "order" "[[I", Cond.fieldLink RL 56 "CurfewDeskLaw$Sim" "shift" "I", Cond.methodLink RL 62 Lib.Math.min.name, Cond.static Lib.Math.min.name, Cond.initialized "java/lang/Math", Cond.code Lib.Math.min.name Lib.Math.min.code 2 (some .int), Cond.fieldLink RL 81 "CurfewDeskLaw$Sim" "used" "[I", Cond.methodLink RL 21 yX0_addQuarter, Cond.instanceMethod yX0_addQuarter, Cond.selects RX0 yX0_addQuarter yX0_addQuarter, Cond.code yX0_addQuarter cX0_addQuarter 2 (some .int), Cond.classLink RX0 48 "java/lang/IllegalStateException", Cond.initialized "java/lang/IllegalStateException", Cond.fieldLink RX0 44 "CurfewDesk" "quarterCount" "I", Cond.methodLink RL 34 yX0_addPerson, Cond.instanceMethod yX0_addPerson, Cond.selects RX0 yX0_addPerson yX0_addPerson, Cond.code yX0_addPerson cX0_addPerson 3 (some .int), Cond.fieldLink RX0 59 "CurfewDesk" "personCount" "I", Cond.methodLink RX0 55 yX0_requireTrade, Cond.static yX0_requireTrade]
def wsL_law0_r4 : List Cond := [Cond.code yX0_requireTrade cX0_requireTrade 1 none, Cond.classLink RX0 190 "java/lang/IndexOutOfBoundsException", Cond.initialized "java/lang/IndexOutOfBoundsException", Cond.methodLink RL 44 yX0_addOrder, Cond.instanceMethod yX0_addOrder, Cond.selects RX0 yX0_addOrder yX0_addOrder, Cond.code yX0_addOrder cX0_addOrder 6 (some .int), Cond.fieldLink RX0 74 "CurfewDesk" "orderCount" "I", Cond.methodLink RX0 64 yX0_requireQuarter, Cond.instanceMethod yX0_requireQuarter, Cond.selects RX0 yX0_requireQuarter yX0_requireQuarter, Cond.code yX0_requireQuarter cX0_requireQuarter 2 none, Cond.methodLink RX0 67 yX0_requireColour, Cond.static yX0_requireColour, Cond.code yX0_requireColour cX0_requireColour 1 none, Cond.methodLink RX0 70 yX0_requireWithin, Cond.static yX0_requireWithin, Cond.code yX0_requireWithin cX0_requireWithin 3 none, Cond.classLink RX0 203 "java/lang/IllegalArgumentException", Cond.initialized "java/lang/IllegalArgumentException", Cond.methodLink RL 48 yX0_turnExempt, Cond.instanceMethod yX0_turnExempt, Cond.selects RX0 yX0_turnExempt yX0_turnExempt, Cond.code yX0_turnExempt cX0_turnExempt 3 (some .boolean)]
def wsL_law0_r5 : List Cond := [Cond.methodLink RX0 79 yX0_requireOrder, Cond.instanceMethod yX0_requireOrder, Cond.selects RX0 yX0_requireOrder yX0_requireOrder, Cond.code yX0_requireOrder cX0_requireOrder 2 none, Cond.methodLink RX0 82 yX0_exempts, Cond.instanceMethod yX0_exempts, Cond.selects RX0 yX0_exempts yX0_exempts, Cond.code yX0_exempts cX0_exempts 3 (some .boolean), Cond.methodLink RL 52 yX0_turnOrder, Cond.instanceMethod yX0_turnOrder, Cond.selects RX0 yX0_turnOrder yX0_turnOrder, Cond.code yX0_turnOrder cX0_turnOrder 2 (some .boolean), Cond.methodLink RL 59 yX0_setShift, Cond.instanceMethod yX0_setShift, Cond.selects RX0 yX0_setShift yX0_setShift, Cond.code yX0_setShift cX0_setShift 3 (some .int), Cond.fieldLink RX0 86 "CurfewDesk" "duskShift" "I", Cond.methodLink RL 67 yX0_givePass, Cond.instanceMethod yX0_givePass, Cond.selects RX0 yX0_givePass yX0_givePass, Cond.code yX0_givePass cX0_givePass 5 (some .int), Cond.methodLink RX0 96 Lib.Math.min.name, Cond.methodLink RX0 89 yX0_requirePerson, Cond.instanceMethod yX0_requirePerson]
def wsL_law0_r6 : List Cond := [Cond.selects RX0 yX0_requirePerson yX0_requirePerson, Cond.code yX0_requirePerson cX0_requirePerson 2 none, Cond.methodLink RX0 92 yX0_stampPlace, Cond.static yX0_stampPlace, Cond.code yX0_stampPlace cX0_stampPlace 2 (some .int), Cond.methodLink RL 71 yX0_takePass, Cond.instanceMethod yX0_takePass, Cond.selects RX0 yX0_takePass yX0_takePass, Cond.code yX0_takePass cX0_takePass 5 (some .int), Cond.methodLink RL 74 yX1_missing, Cond.instanceMethod yX1_missing, Cond.selects RX1 yX1_missing yX1_missing, Cond.code yX1_missing cX1_missing 7 (some .int), Cond.fieldLink RX1 43 "CurfewDeskLaw$Sim" "orders" "I", Cond.methodLink RX1 46 yX1_bars, Cond.instanceMethod yX1_bars, Cond.selects RX1 yX1_bars yX1_bars, Cond.code yX1_bars cX1_bars 4 (some .boolean), Cond.methodLink RX1 39 yX1_isOn, Cond.instanceMethod yX1_isOn, Cond.selects RX1 yX1_isOn yX1_isOn, Cond.code yX1_isOn cX1_isOn 2 (some .boolean), Cond.fieldLink RX1 29 "CurfewDeskLaw$Sim" "day" "I", Cond.fieldLink RX1 32 "CurfewDeskLaw$Sim" "half" "I"]
def wsL_law0_r7 : List Cond := [Cond.methodLink RX1 35 yX1_isAt, Cond.instanceMethod yX1_isAt, Cond.selects RX1 yX1_isAt yX1_isAt, Cond.code yX1_isAt cX1_isAt 4 (some .boolean), Cond.fieldLink RX1 25 "CurfewDeskLaw$Sim" "shift" "I", Cond.methodLink RX1 21 yX1_tide, Cond.static yX1_tide, Cond.code yX1_tide cX1_tide 3 (some .int), Cond.methodLink RL 77 yX1_bars, Cond.methodLink RL 85 yX0_goOut, Cond.instanceMethod yX0_goOut, Cond.selects RX0 yX0_goOut yX0_goOut, Cond.code yX0_goOut cX0_goOut 5 (some .int), Cond.fieldLink RX0 101 "CurfewDesk" "now" "I", Cond.methodLink RX0 104 yX0_bars, Cond.instanceMethod yX0_bars, Cond.selects RX0 yX0_bars yX0_bars, Cond.code yX0_bars cX0_bars 5 (some .boolean), Cond.methodLink RX0 139 yX0_isInHours, Cond.instanceMethod yX0_isInHours, Cond.selects RX0 yX0_isInHours yX0_isInHours, Cond.code yX0_isInHours cX0_isInHours 5 (some .boolean), Cond.methodLink RX0 122 yX0_duskOf, Cond.instanceMethod yX0_duskOf]
def wsL_law0_r8 : List Cond := [Cond.selects RX0 yX0_duskOf yX0_duskOf, Cond.code yX0_duskOf cX0_duskOf 2 (some .int), Cond.methodLink RX0 184 yX0_tideOf, Cond.static yX0_tideOf, Cond.code yX0_tideOf cX0_tideOf 2 (some .int), Cond.methodLink RX0 125 yX0_dawnOf, Cond.static yX0_dawnOf, Cond.code yX0_dawnOf cX0_dawnOf 1 (some .int), Cond.methodLink RX0 108 yX0_useStamp, Cond.instanceMethod yX0_useStamp, Cond.selects RX0 yX0_useStamp yX0_useStamp, Cond.code yX0_useStamp cX0_useStamp 4 (some .boolean), Cond.methodLink RX0 111 yX0_fineOnce, Cond.instanceMethod yX0_fineOnce, Cond.selects RX0 yX0_fineOnce yX0_fineOnce, Cond.code yX0_fineOnce cX0_fineOnce 3 (some .int), Cond.methodLink RL 88 yX1_pass, Cond.instanceMethod yX1_pass, Cond.selects RX1 yX1_pass yX1_pass, Cond.code yX1_pass cX1_pass 4 (some .int), Cond.methodLink RL 91 yX0_pass, Cond.instanceMethod yX0_pass, Cond.selects RX0 yX0_pass yX0_pass, Cond.code yX0_pass cX0_pass 4 (some .int)]
def wsL_law0_r9 : List Cond := [Cond.methodLink RX0 115 yX0_timesBegun, Cond.instanceMethod yX0_timesBegun, Cond.selects RX0 yX0_timesBegun yX0_timesBegun, Cond.code yX0_timesBegun cX0_timesBegun 7 (some .int), Cond.methodLink RX0 128 yX0_isOnAt, Cond.instanceMethod yX0_isOnAt, Cond.selects RX0 yX0_isOnAt yX0_isOnAt, Cond.code yX0_isOnAt cX0_isOnAt 3 (some .boolean), Cond.methodLink RL 107 yX0_halfHour, Cond.instanceMethod yX0_halfHour, Cond.selects RX0 yX0_halfHour yX0_halfHour, Cond.code yX0_halfHour cX0_halfHour 1 (some .int), Cond.methodLink RL 110 yX0_dawnIn, Cond.instanceMethod yX0_dawnIn, Cond.selects RX0 yX0_dawnIn yX0_dawnIn, Cond.code yX0_dawnIn cX0_dawnIn 2 (some .int), Cond.methodLink RX0 118 yX0_day, Cond.instanceMethod yX0_day, Cond.selects RX0 yX0_day yX0_day, Cond.code yX0_day cX0_day 1 (some .int), Cond.methodLink RL 113 yX0_duskIn, Cond.instanceMethod yX0_duskIn, Cond.selects RX0 yX0_duskIn yX0_duskIn, Cond.code yX0_duskIn cX0_duskIn 2 (some .int)]
def wsL_law0_r10 : List Cond := [Cond.methodLink RL 116 yX0_shift, Cond.instanceMethod yX0_shift, Cond.selects RX0 yX0_shift yX0_shift, Cond.code yX0_shift cX0_shift 1 (some .int), Cond.methodLink RL 118 yX0_orders, Cond.instanceMethod yX0_orders, Cond.selects RX0 yX0_orders yX0_orders, Cond.code yX0_orders cX0_orders 1 (some .int), Cond.methodLink RL 120 yX0_isOn, Cond.instanceMethod yX0_isOn, Cond.selects RX0 yX0_isOn yX0_isOn, Cond.code yX0_isOn cX0_isOn 2 (some .boolean), Cond.methodLink RL 123 yX0_isInForce, Cond.instanceMethod yX0_isInForce, Cond.selects RX0 yX0_isInForce yX0_isInForce, Cond.code yX0_isInForce cX0_isInForce 2 (some .boolean), Cond.methodLink RL 126 yX0_halfHoursOn, Cond.instanceMethod yX0_halfHoursOn, Cond.selects RX0 yX0_halfHoursOn yX0_halfHoursOn, Cond.code yX0_halfHoursOn cX0_halfHoursOn 4 (some .int), Cond.methodLink RL 129 yX0_people, Cond.instanceMethod yX0_people, Cond.selects RX0 yX0_people yX0_people, Cond.code yX0_people cX0_people 1 (some .int)]
def wsL_law0_r11 : List Cond := [Cond.methodLink RL 131 yX0_tradeOf, Cond.instanceMethod yX0_tradeOf, Cond.selects RX0 yX0_tradeOf yX0_tradeOf, Cond.code yX0_tradeOf cX0_tradeOf 2 (some .int), Cond.methodLink RL 134 yX0_isExempt, Cond.instanceMethod yX0_isExempt, Cond.selects RX0 yX0_isExempt yX0_isExempt, Cond.code yX0_isExempt cX0_isExempt 3 (some .boolean), Cond.methodLink RL 137 yX0_barredBy, Cond.instanceMethod yX0_barredBy, Cond.selects RX0 yX0_barredBy yX0_barredBy, Cond.code yX0_barredBy cX0_barredBy 4 (some .int), Cond.methodLink RL 140 yX0_timesFined, Cond.instanceMethod yX0_timesFined, Cond.selects RX0 yX0_timesFined yX0_timesFined, Cond.code yX0_timesFined cX0_timesFined 2 (some .int), Cond.methodLink RL 143 yX0_owes, Cond.instanceMethod yX0_owes, Cond.selects RX0 yX0_owes yX0_owes, Cond.code yX0_owes cX0_owes 2 (some .int), Cond.methodLink RL 146 yX0_stampsOf, Cond.instanceMethod yX0_stampsOf, Cond.selects RX0 yX0_stampsOf yX0_stampsOf, Cond.code yX0_stampsOf cX0_stampsOf 3 (some .int)]
def wsL_law0_r12 : List Cond := [Cond.methodLink RL 149 yX0_quarters, Cond.instanceMethod yX0_quarters, Cond.selects RX0 yX0_quarters yX0_quarters, Cond.code yX0_quarters cX0_quarters 1 (some .int), Cond.methodLink RL 151 yX0_ordersAgainst, Cond.instanceMethod yX0_ordersAgainst, Cond.selects RX0 yX0_ordersAgainst yX0_ordersAgainst, Cond.code yX0_ordersAgainst cX0_ordersAgainst 5 (some .int), Cond.methodLink RL 154 yX0_stampsMissing, Cond.instanceMethod yX0_stampsMissing, Cond.selects RX0 yX0_stampsMissing yX0_stampsMissing, Cond.code yX0_stampsMissing cX0_stampsMissing 3 (some .int), Cond.methodLink RX0 131 yX0_missing, Cond.instanceMethod yX0_missing, Cond.selects RX0 yX0_missing yX0_missing, Cond.code yX0_missing cX0_missing 8 (some .int), Cond.methodLink RX0 187 Lib.Math.max.name, Cond.static Lib.Math.max.name, Cond.code Lib.Math.max.name Lib.Math.max.code 2 (some .int), Cond.methodLink RL 157 yX0_mayGo, Cond.instanceMethod yX0_mayGo, Cond.selects RX0 yX0_mayGo yX0_mayGo, Cond.code yX0_mayGo cX0_mayGo 3 (some .boolean), Cond.methodLink RL 160 yX0_halfHoursUntilFree]
def wsL_law0_r13 : List Cond := [Cond.instanceMethod yX0_halfHoursUntilFree, Cond.selects RX0 yX0_halfHoursUntilFree yX0_halfHoursUntilFree, Cond.code yX0_halfHoursUntilFree cX0_halfHoursUntilFree 4 (some .int), Cond.methodLink RX0 135 yX0_isFreeAt, Cond.instanceMethod yX0_isFreeAt, Cond.selects RX0 yX0_isFreeAt yX0_isFreeAt, Cond.code yX0_isFreeAt cX0_isFreeAt 5 (some .boolean), Cond.methodLink RL 163 yX0_ordersOn, Cond.instanceMethod yX0_ordersOn, Cond.selects RX0 yX0_ordersOn yX0_ordersOn, Cond.code yX0_ordersOn cX0_ordersOn 3 (some .int), Cond.methodLink RL 166 yX0_allOwe, Cond.instanceMethod yX0_allOwe, Cond.selects RX0 yX0_allOwe yX0_allOwe, Cond.code yX0_allOwe cX0_allOwe 3 (some .int), Cond.methodLink RL 169 yX1_isSame, Cond.instanceMethod yX1_isSame, Cond.selects RX1 yX1_isSame yX1_isSame, Cond.code yX1_isSame cX1_isSame 5 (some .boolean), Cond.fieldLink RX1 52 "CurfewDeskLaw$Sim" "quarters" "I", Cond.fieldLink RX1 49 "CurfewDeskLaw$Sim" "people" "I", Cond.methodLink RX1 59 yX0_day, Cond.methodLink RX1 64 yX0_halfHour, Cond.methodLink RX1 67 yX0_duskIn]
def wsL_law0_r14 : List Cond := [Cond.methodLink RX1 70 yX0_dawnIn, Cond.methodLink RX1 73 yX0_quarters, Cond.methodLink RX1 75 yX0_orders, Cond.methodLink RX1 77 yX0_people, Cond.methodLink RX1 79 yX0_ordersOn, Cond.methodLink RX1 82 yX1_on, Cond.instanceMethod yX1_on, Cond.selects RX1 yX1_on yX1_on, Cond.code yX1_on cX1_on 3 (some .int), Cond.methodLink RX1 85 yX0_shift, Cond.methodLink RX1 87 yX0_stampsUsed, Cond.instanceMethod yX0_stampsUsed, Cond.selects RX0 yX0_stampsUsed yX0_stampsUsed, Cond.code yX0_stampsUsed cX0_stampsUsed 2 (some .int), Cond.methodLink RX1 90 yX0_quarterOf, Cond.instanceMethod yX0_quarterOf, Cond.selects RX0 yX0_quarterOf yX0_quarterOf, Cond.code yX0_quarterOf cX0_quarterOf 2 (some .int), Cond.methodLink RX1 93 yX0_colourOf, Cond.instanceMethod yX0_colourOf, Cond.selects RX0 yX0_colourOf yX0_colourOf, Cond.code yX0_colourOf cX0_colourOf 2 (some .int), Cond.methodLink RX1 96 yX0_isInForce, Cond.methodLink RX1 99 yX0_isOn]
def wsL_law0_r15 : List Cond := [Cond.methodLink RX1 100 yX0_barredBy, Cond.methodLink RX1 103 yX0_isExempt, Cond.methodLink RX1 107 yX0_tradeOf, Cond.methodLink RX1 110 yX0_timesFined, Cond.methodLink RX1 113 yX0_owes, Cond.methodLink RX1 116 yX0_stampsOf, Cond.methodLink RX1 119 yX0_ordersAgainst, Cond.methodLink RX1 122 yX1_against, Cond.instanceMethod yX1_against, Cond.selects RX1 yX1_against yX1_against, Cond.code yX1_against cX1_against 5 (some .int), Cond.methodLink RX1 125 yX0_stampsMissing, Cond.methodLink RX1 55 yX1_missing, Cond.methodLink RX1 128 yX0_mayGo, Cond.methodLink RX1 131 yX0_allOwe, Cond.methodLink RX1 134 yX0_meanDebt, Cond.instanceMethod yX0_meanDebt, Cond.selects RX0 yX0_meanDebt yX0_meanDebt, Cond.code yX0_meanDebt cX0_meanDebt 1 (some .double), Cond.methodLink RX0 145 yX0_allOwe]
def wsL_law0 : List Cond := (wsL_law0_r1 ++ (wsL_law0_r2 ++ (wsL_law0_r3 ++ (wsL_law0_r4 ++ (wsL_law0_r5 ++ (wsL_law0_r6 ++ (wsL_law0_r7 ++ (wsL_law0_r8 ++ (wsL_law0_r9 ++ (wsL_law0_r10 ++ (wsL_law0_r11 ++ (wsL_law0_r12 ++ (wsL_law0_r13 ++ (wsL_law0_r14 ++ wsL_law0_r15)))))))))))))) ++ wsX00 ++ wsX10 ++ ([] : List Cond)
def wsL_law : List Cond := wsL_law0 ++ (vx_atS RX0 52 "java/lang/IllegalStateException" ["java/lang/RuntimeException", "java/lang/Exception"]).filter goodWord ++ (vx_atS RX0 194 "java/lang/IndexOutOfBoundsException" ["java/lang/RuntimeException", "java/lang/Exception"]).filter goodWord ++ (vx_atS RX0 207 "java/lang/IllegalArgumentException" ["java/lang/RuntimeException", "java/lang/Exception"]).filter goodWord
abbrev vwCl : List vw_C := [(RX0, TX0, 16), (RX1, TX1, 9)]
end
section
theorem lw_app2 {a b : List Cond} (ha : ∀ w ∈ a, w ∈ lw_tbl) (hb : ∀ w ∈ b, w ∈ lw_tbl) : ∀ w ∈ a ++ b, w ∈ lw_tbl := fun w h => (List.mem_append.mp h).elim (ha w) (hb w)
def wsL_in_r1_0w : List Cond := [Cond.classLink RL 22 RX0, Cond.instantiable RX0 16, Cond.initialized RX0, Cond.methodLink RL 102 yX0_init, Cond.instanceMethod yX0_init]
set_option maxRecDepth 20000 in
theorem wsL_in_r1_0 : ∀ w ∈ wsL_in_r1_0w, w ∈ lw_tbl := fun w h => (goodIn_p wsL_in_r1_0w [] (by decide +kernel) (by decide +kernel) w h).1
def wsL_in_r1_1w : List Cond := [Cond.code yX0_init cX0_init 1 none]
set_option maxRecDepth 20000 in
theorem wsL_in_r1_1 : ∀ w ∈ wsL_in_r1_1w, w ∈ lw_tbl := fun w h => by
  rw [List.mem_singleton.mp h]
  exact List.mem_of_getElem? (i := 28) rfl
def wsL_in_r1_2w : List Cond := [Cond.methodLink RX0 1 objectInit, Cond.instanceMethod objectInit]
set_option maxRecDepth 20000 in
theorem wsL_in_r1_2 : ∀ w ∈ wsL_in_r1_2w, w ∈ lw_tbl := fun w h => (goodIn_p wsL_in_r1_2w [] (by decide +kernel) (by decide +kernel) w h).1
def wsL_in_r1_3w : List Cond := [Cond.code objectInit ⟨#[0xb1]⟩ 1 none]
set_option maxRecDepth 20000 in
theorem wsL_in_r1_3 : ∀ w ∈ wsL_in_r1_3w, w ∈ lw_tbl := fun w h => by
  rw [List.mem_singleton.mp h]
  exact List.mem_of_getElem? (i := 31) rfl
def wsL_in_r1_4w : List Cond := [Cond.arrayClass .int, Cond.fieldLink RX0 9 "CurfewDesk" "orderQuarter" "[I", Cond.fieldLink RX0 13 "CurfewDesk" "orderAhead" "[I", Cond.fieldLink RX0 16 "CurfewDesk" "orderBehind" "[I", Cond.fieldLink RX0 19 "CurfewDesk" "orderColour" "[I", Cond.arrayClass .boolean, Cond.fieldLink RX0 22 "CurfewDesk" "orderInForce" "[Z", Cond.fieldLink RX0 26 "CurfewDesk" "orderExempt" "[I", Cond.fieldLink RX0 29 "CurfewDesk" "personTrade" "[I"]
set_option maxRecDepth 20000 in
theorem wsL_in_r1_4 : ∀ w ∈ wsL_in_r1_4w, w ∈ lw_tbl := fun w h => (goodIn_p wsL_in_r1_4w [] (by decide +kernel) (by decide +kernel) w h).1
def wsL_in_r1_5w : List Cond := [Cond.fieldLink RX0 32 "CurfewDesk" "personFined" "[I", Cond.fieldLink RX0 35 "CurfewDesk" "personOwes" "[I", Cond.fieldLink RX0 38 "CurfewDesk" "personStamps" "[I", Cond.fieldLink RX0 41 "CurfewDesk" "usedStamps" "[I", Cond.methodLink RL 103 yL_build, Cond.static yL_build]
set_option maxRecDepth 20000 in
theorem wsL_in_r1_5 : ∀ w ∈ wsL_in_r1_5w, w ∈ lw_tbl := fun w h => (goodIn_p wsL_in_r1_5w [] (by decide +kernel) (by decide +kernel) w h).1
theorem wsL_in_r1 : ∀ w ∈ wsL_law0_r1, w ∈ lw_tbl := lw_app2 wsL_in_r1_0 (lw_app2 wsL_in_r1_1 (lw_app2 wsL_in_r1_2 (lw_app2 wsL_in_r1_3 (lw_app2 wsL_in_r1_4 (wsL_in_r1_5)))))
def wsL_in_r2_0w : List Cond := [Cond.initialized RL]
set_option maxRecDepth 20000 in
theorem wsL_in_r2_0 : ∀ w ∈ wsL_in_r2_0w, w ∈ lw_tbl := fun w h => (goodIn_p wsL_in_r2_0w [] (by decide +kernel) (by decide +kernel) w h).1
def wsL_in_r2_1w : List Cond := [Cond.code yL_build cL_build 5 (some (.object "CurfewDeskLaw$Sim"))]
set_option maxRecDepth 20000 in
theorem wsL_in_r2_1 : ∀ w ∈ wsL_in_r2_1w, w ∈ lw_tbl := fun w h => by
  rw [List.mem_singleton.mp h]
  exact List.mem_of_getElem? (i := 486) rfl
def wsL_in_r2_2w : List Cond := [Cond.classLink RL 16 RX1, Cond.instantiable RX1 9, Cond.initialized RX1, Cond.instanceMethod yX1_init]
set_option maxRecDepth 20000 in
theorem wsL_in_r2_2 : ∀ w ∈ wsL_in_r2_2w, w ∈ lw_tbl := fun w h => (goodIn_p wsL_in_r2_2w [] (by decide +kernel) (by decide +kernel) w h).1
def wsL_in_r2_3w : List Cond := [Cond.code yX1_init cX1_init 1 none]
set_option maxRecDepth 20000 in
theorem wsL_in_r2_3 : ∀ w ∈ wsL_in_r2_3w, w ∈ lw_tbl := fun w h => by
  rw [List.mem_singleton.mp h]
  exact List.mem_of_getElem? (i := 491) rfl
def wsL_in_r2_4w : List Cond := [Cond.methodLink RX1 1 objectInit, Cond.classLink RX1 7 "[[I", Cond.fieldLink RX1 9 "CurfewDeskLaw$Sim" "order" "[[I", Cond.fieldLink RX1 14 "CurfewDeskLaw$Sim" "person" "[[I", Cond.fieldLink RX1 17 "CurfewDeskLaw$Sim" "used" "[I", Cond.methodLink RL 94 yL_cell, Cond.static yL_cell]
set_option maxRecDepth 20000 in
theorem wsL_in_r2_4 : ∀ w ∈ wsL_in_r2_4w, w ∈ lw_tbl := fun w h => (goodIn_p wsL_in_r2_4w [] (by decide +kernel) (by decide +kernel) w h).1
def wsL_in_r2_5w : List Cond := [Cond.code yL_cell cL_cell 2 (some .int)]
set_option maxRecDepth 20000 in
theorem wsL_in_r2_5 : ∀ w ∈ wsL_in_r2_5w, w ∈ lw_tbl := fun w h => by
  rw [List.mem_singleton.mp h]
  exact List.mem_of_getElem? (i := 395) rfl
def wsL_in_r2_6w : List Cond := [Cond.constant RL 8 (790386105)]
set_option maxRecDepth 20000 in
theorem wsL_in_r2_6 : ∀ w ∈ wsL_in_r2_6w, w ∈ lw_tbl := fun w h => by
  rw [List.mem_singleton.mp h]
  exact List.mem_of_getElem? (i := 396) rfl
def wsL_in_r2_7w : List Cond := [Cond.methodLink RL 9 yL_below, Cond.static yL_below]
set_option maxRecDepth 20000 in
theorem wsL_in_r2_7 : ∀ w ∈ wsL_in_r2_7w, w ∈ lw_tbl := fun w h => (goodIn_p wsL_in_r2_7w [] (by decide +kernel) (by decide +kernel) w h).1
def wsL_in_r2_8w : List Cond := [Cond.code yL_below cL_below 2 (some .int)]
set_option maxRecDepth 20000 in
theorem wsL_in_r2_8 : ∀ w ∈ wsL_in_r2_8w, w ∈ lw_tbl := fun w h => by
  rw [List.mem_singleton.mp h]
  exact List.mem_of_getElem? (i := 402) rfl
def wsL_in_r2_9w : List Cond := [Cond.constant RL 7 (2147483647)]
set_option maxRecDepth 20000 in
theorem wsL_in_r2_9 : ∀ w ∈ wsL_in_r2_9w, w ∈ lw_tbl := fun w h => by
  rw [List.mem_singleton.mp h]
  exact List.mem_of_getElem? (i := 403) rfl
def wsL_in_r2_10w : List Cond := [Cond.methodLink RL 98 yL_act, Cond.static yL_act]
set_option maxRecDepth 20000 in
theorem wsL_in_r2_10 : ∀ w ∈ wsL_in_r2_10w, w ∈ lw_tbl := fun w h => (goodIn_p wsL_in_r2_10w [] (by decide +kernel) (by decide +kernel) w h).1
def wsL_in_r2_11w : List Cond := [Cond.code yL_act cL_act 16 (some .boolean)]
set_option maxRecDepth 20000 in
theorem wsL_in_r2_11 : ∀ w ∈ wsL_in_r2_11w, w ∈ lw_tbl := fun w h => by
  rw [List.mem_singleton.mp h]
  exact List.mem_of_getElem? (i := 399) rfl
def wsL_in_r2_12w : List Cond := [Cond.fieldLink RL 15 "CurfewDeskLaw$Sim" "quarters" "I"]
set_option maxRecDepth 20000 in
theorem wsL_in_r2_12 : ∀ w ∈ wsL_in_r2_12w, w ∈ lw_tbl := fun w h => (goodIn_p wsL_in_r2_12w [] (by decide +kernel) (by decide +kernel) w h).1
theorem wsL_in_r2 : ∀ w ∈ wsL_law0_r2, w ∈ lw_tbl := lw_app2 wsL_in_r2_0 (lw_app2 wsL_in_r2_1 (lw_app2 wsL_in_r2_2 (lw_app2 wsL_in_r2_3 (lw_app2 wsL_in_r2_4 (lw_app2 wsL_in_r2_5 (lw_app2 wsL_in_r2_6 (lw_app2 wsL_in_r2_7 (lw_app2 wsL_in_r2_8 (lw_app2 wsL_in_r2_9 (lw_app2 wsL_in_r2_10 (lw_app2 wsL_in_r2_11 (wsL_in_r2_12))))))))))))
def wsL_in_r3_0w : List Cond := [Cond.fieldLink RL 27 "CurfewDeskLaw$Sim" "people" "I", Cond.fieldLink RL 30 "CurfewDeskLaw$Sim" "person" "[[I", Cond.fieldLink RL 38 "CurfewDeskLaw$Sim" "orders" "I", Cond.fieldLink RL 41 "CurfewDeskLaw$Sim" "order" "[[I", Cond.fieldLink RL 56 "CurfewDeskLaw$Sim" "shift" "I", Cond.methodLink RL 62 Lib.Math.min.name, Cond.static Lib.Math.min.name, Cond.initialized "java/lang/Math"]
set_option maxRecDepth 20000 in
theorem wsL_in_r3_0 : ∀ w ∈ wsL_in_r3_0w, w ∈ lw_tbl := fun w h => (goodIn_p wsL_in_r3_0w [] (by decide +kernel) (by decide +kernel) w h).1
def wsL_in_r3_1w : List Cond := [Cond.code Lib.Math.min.name Lib.Math.min.code 2 (some .int)]
set_option maxRecDepth 20000 in
theorem wsL_in_r3_1 : ∀ w ∈ wsL_in_r3_1w, w ∈ lw_tbl := fun w h => by
  rw [List.mem_singleton.mp h]
  exact List.mem_of_getElem? (i := 448) rfl
def wsL_in_r3_2w : List Cond := [Cond.fieldLink RL 81 "CurfewDeskLaw$Sim" "used" "[I", Cond.methodLink RL 21 yX0_addQuarter, Cond.instanceMethod yX0_addQuarter, Cond.selects RX0 yX0_addQuarter yX0_addQuarter]
set_option maxRecDepth 20000 in
theorem wsL_in_r3_2 : ∀ w ∈ wsL_in_r3_2w, w ∈ lw_tbl := fun w h => (goodIn_p wsL_in_r3_2w [] (by decide +kernel) (by decide +kernel) w h).1
def wsL_in_r3_3w : List Cond := [Cond.code yX0_addQuarter cX0_addQuarter 2 (some .int)]
set_option maxRecDepth 20000 in
theorem wsL_in_r3_3 : ∀ w ∈ wsL_in_r3_3w, w ∈ lw_tbl := fun w h => by
  rw [List.mem_singleton.mp h]
  exact List.mem_of_getElem? (i := 407) rfl
def wsL_in_r3_4w : List Cond := [Cond.classLink RX0 48 "java/lang/IllegalStateException", Cond.initialized "java/lang/IllegalStateException", Cond.fieldLink RX0 44 "CurfewDesk" "quarterCount" "I", Cond.methodLink RL 34 yX0_addPerson, Cond.instanceMethod yX0_addPerson, Cond.selects RX0 yX0_addPerson yX0_addPerson]
set_option maxRecDepth 20000 in
theorem wsL_in_r3_4 : ∀ w ∈ wsL_in_r3_4w, w ∈ lw_tbl := fun w h => (goodIn_p wsL_in_r3_4w [] (by decide +kernel) (by decide +kernel) w h).1
def wsL_in_r3_5w : List Cond := [Cond.code yX0_addPerson cX0_addPerson 3 (some .int)]
set_option maxRecDepth 20000 in
theorem wsL_in_r3_5 : ∀ w ∈ wsL_in_r3_5w, w ∈ lw_tbl := fun w h => by
  rw [List.mem_singleton.mp h]
  exact List.mem_of_getElem? (i := 427) rfl
def wsL_in_r3_6w : List Cond := [Cond.fieldLink RX0 59 "CurfewDesk" "personCount" "I", Cond.methodLink RX0 55 yX0_requireTrade, Cond.static yX0_requireTrade]
set_option maxRecDepth 20000 in
theorem wsL_in_r3_6 : ∀ w ∈ wsL_in_r3_6w, w ∈ lw_tbl := fun w h => (goodIn_p wsL_in_r3_6w [] (by decide +kernel) (by decide +kernel) w h).1
theorem wsL_in_r3 : ∀ w ∈ wsL_law0_r3, w ∈ lw_tbl := lw_app2 wsL_in_r3_0 (lw_app2 wsL_in_r3_1 (lw_app2 wsL_in_r3_2 (lw_app2 wsL_in_r3_3 (lw_app2 wsL_in_r3_4 (lw_app2 wsL_in_r3_5 (wsL_in_r3_6))))))
def wsL_in_r4_0w : List Cond := [Cond.code yX0_requireTrade cX0_requireTrade 1 none]
set_option maxRecDepth 20000 in
theorem wsL_in_r4_0 : ∀ w ∈ wsL_in_r4_0w, w ∈ lw_tbl := fun w h => by
  rw [List.mem_singleton.mp h]
  exact List.mem_of_getElem? (i := 222) rfl
def wsL_in_r4_1w : List Cond := [Cond.classLink RX0 190 "java/lang/IndexOutOfBoundsException", Cond.initialized "java/lang/IndexOutOfBoundsException", Cond.methodLink RL 44 yX0_addOrder, Cond.instanceMethod yX0_addOrder, Cond.selects RX0 yX0_addOrder yX0_addOrder]
set_option maxRecDepth 20000 in
theorem wsL_in_r4_1 : ∀ w ∈ wsL_in_r4_1w, w ∈ lw_tbl := fun w h => (goodIn_p wsL_in_r4_1w [] (by decide +kernel) (by decide +kernel) w h).1
def wsL_in_r4_2w : List Cond := [Cond.code yX0_addOrder cX0_addOrder 6 (some .int)]
set_option maxRecDepth 20000 in
theorem wsL_in_r4_2 : ∀ w ∈ wsL_in_r4_2w, w ∈ lw_tbl := fun w h => by
  rw [List.mem_singleton.mp h]
  exact List.mem_of_getElem? (i := 432) rfl
def wsL_in_r4_3w : List Cond := [Cond.fieldLink RX0 74 "CurfewDesk" "orderCount" "I", Cond.methodLink RX0 64 yX0_requireQuarter, Cond.instanceMethod yX0_requireQuarter, Cond.selects RX0 yX0_requireQuarter yX0_requireQuarter]
set_option maxRecDepth 20000 in
theorem wsL_in_r4_3 : ∀ w ∈ wsL_in_r4_3w, w ∈ lw_tbl := fun w h => (goodIn_p wsL_in_r4_3w [] (by decide +kernel) (by decide +kernel) w h).1
def wsL_in_r4_4w : List Cond := [Cond.code yX0_requireQuarter cX0_requireQuarter 2 none]
set_option maxRecDepth 20000 in
theorem wsL_in_r4_4 : ∀ w ∈ wsL_in_r4_4w, w ∈ lw_tbl := fun w h => by
  rw [List.mem_singleton.mp h]
  exact List.mem_of_getElem? (i := 271) rfl
def wsL_in_r4_5w : List Cond := [Cond.methodLink RX0 67 yX0_requireColour, Cond.static yX0_requireColour]
set_option maxRecDepth 20000 in
theorem wsL_in_r4_5 : ∀ w ∈ wsL_in_r4_5w, w ∈ lw_tbl := fun w h => (goodIn_p wsL_in_r4_5w [] (by decide +kernel) (by decide +kernel) w h).1
def wsL_in_r4_6w : List Cond := [Cond.code yX0_requireColour cX0_requireColour 1 none]
set_option maxRecDepth 20000 in
theorem wsL_in_r4_6 : ∀ w ∈ wsL_in_r4_6w, w ∈ lw_tbl := fun w h => by
  rw [List.mem_singleton.mp h]
  exact List.mem_of_getElem? (i := 251) rfl
end
section
def wsL_in_r4_7w : List Cond := [Cond.methodLink RX0 70 yX0_requireWithin, Cond.static yX0_requireWithin]
set_option maxRecDepth 20000 in
theorem wsL_in_r4_7 : ∀ w ∈ wsL_in_r4_7w, w ∈ lw_tbl := fun w h => (goodIn_p wsL_in_r4_7w [] (by decide +kernel) (by decide +kernel) w h).1
def wsL_in_r4_8w : List Cond := [Cond.code yX0_requireWithin cX0_requireWithin 3 none]
set_option maxRecDepth 20000 in
theorem wsL_in_r4_8 : ∀ w ∈ wsL_in_r4_8w, w ∈ lw_tbl := fun w h => by
  rw [List.mem_singleton.mp h]
  exact List.mem_of_getElem? (i := 93) rfl
def wsL_in_r4_9w : List Cond := [Cond.classLink RX0 203 "java/lang/IllegalArgumentException", Cond.initialized "java/lang/IllegalArgumentException", Cond.methodLink RL 48 yX0_turnExempt, Cond.instanceMethod yX0_turnExempt, Cond.selects RX0 yX0_turnExempt yX0_turnExempt]
set_option maxRecDepth 20000 in
theorem wsL_in_r4_9 : ∀ w ∈ wsL_in_r4_9w, w ∈ lw_tbl := fun w h => (goodIn_p wsL_in_r4_9w [] (by decide +kernel) (by decide +kernel) w h).1
def wsL_in_r4_10w : List Cond := [Cond.code yX0_turnExempt cX0_turnExempt 3 (some .boolean)]
set_option maxRecDepth 20000 in
theorem wsL_in_r4_10 : ∀ w ∈ wsL_in_r4_10w, w ∈ lw_tbl := fun w h => by
  rw [List.mem_singleton.mp h]
  exact List.mem_of_getElem? (i := 437) rfl
theorem wsL_in_r4 : ∀ w ∈ wsL_law0_r4, w ∈ lw_tbl := lw_app2 wsL_in_r4_0 (lw_app2 wsL_in_r4_1 (lw_app2 wsL_in_r4_2 (lw_app2 wsL_in_r4_3 (lw_app2 wsL_in_r4_4 (lw_app2 wsL_in_r4_5 (lw_app2 wsL_in_r4_6 (lw_app2 wsL_in_r4_7 (lw_app2 wsL_in_r4_8 (lw_app2 wsL_in_r4_9 (wsL_in_r4_10))))))))))
def wsL_in_r5_0w : List Cond := [Cond.methodLink RX0 79 yX0_requireOrder, Cond.instanceMethod yX0_requireOrder, Cond.selects RX0 yX0_requireOrder yX0_requireOrder]
set_option maxRecDepth 20000 in
theorem wsL_in_r5_0 : ∀ w ∈ wsL_in_r5_0w, w ∈ lw_tbl := fun w h => (goodIn_p wsL_in_r5_0w [] (by decide +kernel) (by decide +kernel) w h).1
def wsL_in_r5_1w : List Cond := [Cond.code yX0_requireOrder cX0_requireOrder 2 none]
set_option maxRecDepth 20000 in
theorem wsL_in_r5_1 : ∀ w ∈ wsL_in_r5_1w, w ∈ lw_tbl := fun w h => by
  rw [List.mem_singleton.mp h]
  exact List.mem_of_getElem? (i := 187) rfl
def wsL_in_r5_2w : List Cond := [Cond.methodLink RX0 82 yX0_exempts, Cond.instanceMethod yX0_exempts, Cond.selects RX0 yX0_exempts yX0_exempts]
set_option maxRecDepth 20000 in
theorem wsL_in_r5_2 : ∀ w ∈ wsL_in_r5_2w, w ∈ lw_tbl := fun w h => (goodIn_p wsL_in_r5_2w [] (by decide +kernel) (by decide +kernel) w h).1
def wsL_in_r5_3w : List Cond := [Cond.code yX0_exempts cX0_exempts 3 (some .boolean)]
set_option maxRecDepth 20000 in
theorem wsL_in_r5_3 : ∀ w ∈ wsL_in_r5_3w, w ∈ lw_tbl := fun w h => by
  rw [List.mem_singleton.mp h]
  exact List.mem_of_getElem? (i := 227) rfl
def wsL_in_r5_4w : List Cond := [Cond.methodLink RL 52 yX0_turnOrder, Cond.instanceMethod yX0_turnOrder, Cond.selects RX0 yX0_turnOrder yX0_turnOrder]
set_option maxRecDepth 20000 in
theorem wsL_in_r5_4 : ∀ w ∈ wsL_in_r5_4w, w ∈ lw_tbl := fun w h => (goodIn_p wsL_in_r5_4w [] (by decide +kernel) (by decide +kernel) w h).1
def wsL_in_r5_5w : List Cond := [Cond.code yX0_turnOrder cX0_turnOrder 2 (some .boolean)]
set_option maxRecDepth 20000 in
theorem wsL_in_r5_5 : ∀ w ∈ wsL_in_r5_5w, w ∈ lw_tbl := fun w h => by
  rw [List.mem_singleton.mp h]
  exact List.mem_of_getElem? (i := 441) rfl
def wsL_in_r5_6w : List Cond := [Cond.methodLink RL 59 yX0_setShift, Cond.instanceMethod yX0_setShift, Cond.selects RX0 yX0_setShift yX0_setShift]
set_option maxRecDepth 20000 in
theorem wsL_in_r5_6 : ∀ w ∈ wsL_in_r5_6w, w ∈ lw_tbl := fun w h => (goodIn_p wsL_in_r5_6w [] (by decide +kernel) (by decide +kernel) w h).1
def wsL_in_r5_7w : List Cond := [Cond.code yX0_setShift cX0_setShift 3 (some .int)]
set_option maxRecDepth 20000 in
theorem wsL_in_r5_7 : ∀ w ∈ wsL_in_r5_7w, w ∈ lw_tbl := fun w h => by
  rw [List.mem_singleton.mp h]
  exact List.mem_of_getElem? (i := 445) rfl
def wsL_in_r5_8w : List Cond := [Cond.fieldLink RX0 86 "CurfewDesk" "duskShift" "I", Cond.methodLink RL 67 yX0_givePass, Cond.instanceMethod yX0_givePass, Cond.selects RX0 yX0_givePass yX0_givePass]
set_option maxRecDepth 20000 in
theorem wsL_in_r5_8 : ∀ w ∈ wsL_in_r5_8w, w ∈ lw_tbl := fun w h => (goodIn_p wsL_in_r5_8w [] (by decide +kernel) (by decide +kernel) w h).1
def wsL_in_r5_9w : List Cond := [Cond.code yX0_givePass cX0_givePass 5 (some .int)]
set_option maxRecDepth 20000 in
theorem wsL_in_r5_9 : ∀ w ∈ wsL_in_r5_9w, w ∈ lw_tbl := fun w h => by
  rw [List.mem_singleton.mp h]
  exact List.mem_of_getElem? (i := 452) rfl
def wsL_in_r5_10w : List Cond := [Cond.methodLink RX0 96 Lib.Math.min.name, Cond.methodLink RX0 89 yX0_requirePerson, Cond.instanceMethod yX0_requirePerson]
set_option maxRecDepth 20000 in
theorem wsL_in_r5_10 : ∀ w ∈ wsL_in_r5_10w, w ∈ lw_tbl := fun w h => (goodIn_p wsL_in_r5_10w [] (by decide +kernel) (by decide +kernel) w h).1
theorem wsL_in_r5 : ∀ w ∈ wsL_law0_r5, w ∈ lw_tbl := lw_app2 wsL_in_r5_0 (lw_app2 wsL_in_r5_1 (lw_app2 wsL_in_r5_2 (lw_app2 wsL_in_r5_3 (lw_app2 wsL_in_r5_4 (lw_app2 wsL_in_r5_5 (lw_app2 wsL_in_r5_6 (lw_app2 wsL_in_r5_7 (lw_app2 wsL_in_r5_8 (lw_app2 wsL_in_r5_9 (wsL_in_r5_10))))))))))
def wsL_in_r6_0w : List Cond := [Cond.selects RX0 yX0_requirePerson yX0_requirePerson]
set_option maxRecDepth 20000 in
theorem wsL_in_r6_0 : ∀ w ∈ wsL_in_r6_0w, w ∈ lw_tbl := fun w h => (goodIn_p wsL_in_r6_0w [] (by decide +kernel) (by decide +kernel) w h).1
def wsL_in_r6_1w : List Cond := [Cond.code yX0_requirePerson cX0_requirePerson 2 none]
set_option maxRecDepth 20000 in
theorem wsL_in_r6_1 : ∀ w ∈ wsL_in_r6_1w, w ∈ lw_tbl := fun w h => by
  rw [List.mem_singleton.mp h]
  exact List.mem_of_getElem? (i := 243) rfl
def wsL_in_r6_2w : List Cond := [Cond.methodLink RX0 92 yX0_stampPlace, Cond.static yX0_stampPlace]
set_option maxRecDepth 20000 in
theorem wsL_in_r6_2 : ∀ w ∈ wsL_in_r6_2w, w ∈ lw_tbl := fun w h => (goodIn_p wsL_in_r6_2w [] (by decide +kernel) (by decide +kernel) w h).1
def wsL_in_r6_3w : List Cond := [Cond.code yX0_stampPlace cX0_stampPlace 2 (some .int)]
set_option maxRecDepth 20000 in
theorem wsL_in_r6_3 : ∀ w ∈ wsL_in_r6_3w, w ∈ lw_tbl := fun w h => by
  rw [List.mem_singleton.mp h]
  exact List.mem_of_getElem? (i := 255) rfl
def wsL_in_r6_4w : List Cond := [Cond.methodLink RL 71 yX0_takePass, Cond.instanceMethod yX0_takePass, Cond.selects RX0 yX0_takePass yX0_takePass]
set_option maxRecDepth 20000 in
theorem wsL_in_r6_4 : ∀ w ∈ wsL_in_r6_4w, w ∈ lw_tbl := fun w h => (goodIn_p wsL_in_r6_4w [] (by decide +kernel) (by decide +kernel) w h).1
def wsL_in_r6_5w : List Cond := [Cond.code yX0_takePass cX0_takePass 5 (some .int)]
set_option maxRecDepth 20000 in
theorem wsL_in_r6_5 : ∀ w ∈ wsL_in_r6_5w, w ∈ lw_tbl := fun w h => by
  rw [List.mem_singleton.mp h]
  exact List.mem_of_getElem? (i := 457) rfl
def wsL_in_r6_6w : List Cond := [Cond.methodLink RL 74 yX1_missing, Cond.instanceMethod yX1_missing, Cond.selects RX1 yX1_missing yX1_missing]
set_option maxRecDepth 20000 in
theorem wsL_in_r6_6 : ∀ w ∈ wsL_in_r6_6w, w ∈ lw_tbl := fun w h => (goodIn_p wsL_in_r6_6w [] (by decide +kernel) (by decide +kernel) w h).1
def wsL_in_r6_7w : List Cond := [Cond.code yX1_missing cX1_missing 7 (some .int)]
set_option maxRecDepth 20000 in
theorem wsL_in_r6_7 : ∀ w ∈ wsL_in_r6_7w, w ∈ lw_tbl := fun w h => by
  rw [List.mem_singleton.mp h]
  exact List.mem_of_getElem? (i := 385) rfl
def wsL_in_r6_8w : List Cond := [Cond.fieldLink RX1 43 "CurfewDeskLaw$Sim" "orders" "I", Cond.methodLink RX1 46 yX1_bars, Cond.instanceMethod yX1_bars, Cond.selects RX1 yX1_bars yX1_bars]
set_option maxRecDepth 20000 in
theorem wsL_in_r6_8 : ∀ w ∈ wsL_in_r6_8w, w ∈ lw_tbl := fun w h => (goodIn_p wsL_in_r6_8w [] (by decide +kernel) (by decide +kernel) w h).1
def wsL_in_r6_9w : List Cond := [Cond.code yX1_bars cX1_bars 4 (some .boolean)]
set_option maxRecDepth 20000 in
theorem wsL_in_r6_9 : ∀ w ∈ wsL_in_r6_9w, w ∈ lw_tbl := fun w h => by
  rw [List.mem_singleton.mp h]
  exact List.mem_of_getElem? (i := 359) rfl
def wsL_in_r6_10w : List Cond := [Cond.methodLink RX1 39 yX1_isOn, Cond.instanceMethod yX1_isOn, Cond.selects RX1 yX1_isOn yX1_isOn]
set_option maxRecDepth 20000 in
theorem wsL_in_r6_10 : ∀ w ∈ wsL_in_r6_10w, w ∈ lw_tbl := fun w h => (goodIn_p wsL_in_r6_10w [] (by decide +kernel) (by decide +kernel) w h).1
def wsL_in_r6_11w : List Cond := [Cond.code yX1_isOn cX1_isOn 2 (some .boolean)]
set_option maxRecDepth 20000 in
theorem wsL_in_r6_11 : ∀ w ∈ wsL_in_r6_11w, w ∈ lw_tbl := fun w h => by
  rw [List.mem_singleton.mp h]
  exact List.mem_of_getElem? (i := 346) rfl
def wsL_in_r6_12w : List Cond := [Cond.fieldLink RX1 29 "CurfewDeskLaw$Sim" "day" "I", Cond.fieldLink RX1 32 "CurfewDeskLaw$Sim" "half" "I"]
set_option maxRecDepth 20000 in
theorem wsL_in_r6_12 : ∀ w ∈ wsL_in_r6_12w, w ∈ lw_tbl := fun w h => (goodIn_p wsL_in_r6_12w [] (by decide +kernel) (by decide +kernel) w h).1
theorem wsL_in_r6 : ∀ w ∈ wsL_law0_r6, w ∈ lw_tbl := lw_app2 wsL_in_r6_0 (lw_app2 wsL_in_r6_1 (lw_app2 wsL_in_r6_2 (lw_app2 wsL_in_r6_3 (lw_app2 wsL_in_r6_4 (lw_app2 wsL_in_r6_5 (lw_app2 wsL_in_r6_6 (lw_app2 wsL_in_r6_7 (lw_app2 wsL_in_r6_8 (lw_app2 wsL_in_r6_9 (lw_app2 wsL_in_r6_10 (lw_app2 wsL_in_r6_11 (wsL_in_r6_12))))))))))))
def wsL_in_r7_0w : List Cond := [Cond.methodLink RX1 35 yX1_isAt, Cond.instanceMethod yX1_isAt, Cond.selects RX1 yX1_isAt yX1_isAt]
set_option maxRecDepth 20000 in
theorem wsL_in_r7_0 : ∀ w ∈ wsL_in_r7_0w, w ∈ lw_tbl := fun w h => (goodIn_p wsL_in_r7_0w [] (by decide +kernel) (by decide +kernel) w h).1
def wsL_in_r7_1w : List Cond := [Cond.code yX1_isAt cX1_isAt 4 (some .boolean)]
set_option maxRecDepth 20000 in
theorem wsL_in_r7_1 : ∀ w ∈ wsL_in_r7_1w, w ∈ lw_tbl := fun w h => by
  rw [List.mem_singleton.mp h]
  exact List.mem_of_getElem? (i := 350) rfl
def wsL_in_r7_2w : List Cond := [Cond.fieldLink RX1 25 "CurfewDeskLaw$Sim" "shift" "I", Cond.methodLink RX1 21 yX1_tide, Cond.static yX1_tide]
set_option maxRecDepth 20000 in
theorem wsL_in_r7_2 : ∀ w ∈ wsL_in_r7_2w, w ∈ lw_tbl := fun w h => (goodIn_p wsL_in_r7_2w [] (by decide +kernel) (by decide +kernel) w h).1
def wsL_in_r7_3w : List Cond := [Cond.code yX1_tide cX1_tide 3 (some .int)]
set_option maxRecDepth 20000 in
theorem wsL_in_r7_3 : ∀ w ∈ wsL_in_r7_3w, w ∈ lw_tbl := fun w h => by
  rw [List.mem_singleton.mp h]
  exact List.mem_of_getElem? (i := 333) rfl
def wsL_in_r7_4w : List Cond := [Cond.methodLink RL 77 yX1_bars, Cond.methodLink RL 85 yX0_goOut, Cond.instanceMethod yX0_goOut, Cond.selects RX0 yX0_goOut yX0_goOut]
set_option maxRecDepth 20000 in
theorem wsL_in_r7_4 : ∀ w ∈ wsL_in_r7_4w, w ∈ lw_tbl := fun w h => (goodIn_p wsL_in_r7_4w [] (by decide +kernel) (by decide +kernel) w h).1
end
section
def wsL_in_r7_5w : List Cond := [Cond.code yX0_goOut cX0_goOut 5 (some .int)]
set_option maxRecDepth 20000 in
theorem wsL_in_r7_5 : ∀ w ∈ wsL_in_r7_5w, w ∈ lw_tbl := fun w h => by
  rw [List.mem_singleton.mp h]
  exact List.mem_of_getElem? (i := 463) rfl
def wsL_in_r7_6w : List Cond := [Cond.fieldLink RX0 101 "CurfewDesk" "now" "I", Cond.methodLink RX0 104 yX0_bars, Cond.instanceMethod yX0_bars, Cond.selects RX0 yX0_bars yX0_bars]
set_option maxRecDepth 20000 in
theorem wsL_in_r7_6 : ∀ w ∈ wsL_in_r7_6w, w ∈ lw_tbl := fun w h => (goodIn_p wsL_in_r7_6w [] (by decide +kernel) (by decide +kernel) w h).1
def wsL_in_r7_7w : List Cond := [Cond.code yX0_bars cX0_bars 5 (some .boolean)]
set_option maxRecDepth 20000 in
theorem wsL_in_r7_7 : ∀ w ∈ wsL_in_r7_7w, w ∈ lw_tbl := fun w h => by
  rw [List.mem_singleton.mp h]
  exact List.mem_of_getElem? (i := 235) rfl
def wsL_in_r7_8w : List Cond := [Cond.methodLink RX0 139 yX0_isInHours, Cond.instanceMethod yX0_isInHours, Cond.selects RX0 yX0_isInHours yX0_isInHours]
set_option maxRecDepth 20000 in
theorem wsL_in_r7_8 : ∀ w ∈ wsL_in_r7_8w, w ∈ lw_tbl := fun w h => (goodIn_p wsL_in_r7_8w [] (by decide +kernel) (by decide +kernel) w h).1
def wsL_in_r7_9w : List Cond := [Cond.code yX0_isInHours cX0_isInHours 5 (some .boolean)]
set_option maxRecDepth 20000 in
theorem wsL_in_r7_9 : ∀ w ∈ wsL_in_r7_9w, w ∈ lw_tbl := fun w h => by
  rw [List.mem_singleton.mp h]
  exact List.mem_of_getElem? (i := 215) rfl
def wsL_in_r7_10w : List Cond := [Cond.methodLink RX0 122 yX0_duskOf, Cond.instanceMethod yX0_duskOf]
set_option maxRecDepth 20000 in
theorem wsL_in_r7_10 : ∀ w ∈ wsL_in_r7_10w, w ∈ lw_tbl := fun w h => (goodIn_p wsL_in_r7_10w [] (by decide +kernel) (by decide +kernel) w h).1
theorem wsL_in_r7 : ∀ w ∈ wsL_law0_r7, w ∈ lw_tbl := lw_app2 wsL_in_r7_0 (lw_app2 wsL_in_r7_1 (lw_app2 wsL_in_r7_2 (lw_app2 wsL_in_r7_3 (lw_app2 wsL_in_r7_4 (lw_app2 wsL_in_r7_5 (lw_app2 wsL_in_r7_6 (lw_app2 wsL_in_r7_7 (lw_app2 wsL_in_r7_8 (lw_app2 wsL_in_r7_9 (wsL_in_r7_10))))))))))
def wsL_in_r8_0w : List Cond := [Cond.selects RX0 yX0_duskOf yX0_duskOf]
set_option maxRecDepth 20000 in
theorem wsL_in_r8_0 : ∀ w ∈ wsL_in_r8_0w, w ∈ lw_tbl := fun w h => (goodIn_p wsL_in_r8_0w [] (by decide +kernel) (by decide +kernel) w h).1
def wsL_in_r8_1w : List Cond := [Cond.code yX0_duskOf cX0_duskOf 2 (some .int)]
set_option maxRecDepth 20000 in
theorem wsL_in_r8_1 : ∀ w ∈ wsL_in_r8_1w, w ∈ lw_tbl := fun w h => by
  rw [List.mem_singleton.mp h]
  exact List.mem_of_getElem? (i := 169) rfl
def wsL_in_r8_2w : List Cond := [Cond.methodLink RX0 184 yX0_tideOf, Cond.static yX0_tideOf]
set_option maxRecDepth 20000 in
theorem wsL_in_r8_2 : ∀ w ∈ wsL_in_r8_2w, w ∈ lw_tbl := fun w h => (goodIn_p wsL_in_r8_2w [] (by decide +kernel) (by decide +kernel) w h).1
def wsL_in_r8_3w : List Cond := [Cond.code yX0_tideOf cX0_tideOf 2 (some .int)]
set_option maxRecDepth 20000 in
theorem wsL_in_r8_3 : ∀ w ∈ wsL_in_r8_3w, w ∈ lw_tbl := fun w h => by
  rw [List.mem_singleton.mp h]
  exact List.mem_of_getElem? (i := 172) rfl
def wsL_in_r8_4w : List Cond := [Cond.methodLink RX0 125 yX0_dawnOf, Cond.static yX0_dawnOf]
set_option maxRecDepth 20000 in
theorem wsL_in_r8_4 : ∀ w ∈ wsL_in_r8_4w, w ∈ lw_tbl := fun w h => (goodIn_p wsL_in_r8_4w [] (by decide +kernel) (by decide +kernel) w h).1
def wsL_in_r8_5w : List Cond := [Cond.code yX0_dawnOf cX0_dawnOf 1 (some .int)]
set_option maxRecDepth 20000 in
theorem wsL_in_r8_5 : ∀ w ∈ wsL_in_r8_5w, w ∈ lw_tbl := fun w h => by
  rw [List.mem_singleton.mp h]
  exact List.mem_of_getElem? (i := 179) rfl
def wsL_in_r8_6w : List Cond := [Cond.methodLink RX0 108 yX0_useStamp, Cond.instanceMethod yX0_useStamp, Cond.selects RX0 yX0_useStamp yX0_useStamp]
set_option maxRecDepth 20000 in
theorem wsL_in_r8_6 : ∀ w ∈ wsL_in_r8_6w, w ∈ lw_tbl := fun w h => (goodIn_p wsL_in_r8_6w [] (by decide +kernel) (by decide +kernel) w h).1
def wsL_in_r8_7w : List Cond := [Cond.code yX0_useStamp cX0_useStamp 4 (some .boolean)]
set_option maxRecDepth 20000 in
theorem wsL_in_r8_7 : ∀ w ∈ wsL_in_r8_7w, w ∈ lw_tbl := fun w h => by
  rw [List.mem_singleton.mp h]
  exact List.mem_of_getElem? (i := 467) rfl
def wsL_in_r8_8w : List Cond := [Cond.methodLink RX0 111 yX0_fineOnce, Cond.instanceMethod yX0_fineOnce, Cond.selects RX0 yX0_fineOnce yX0_fineOnce]
set_option maxRecDepth 20000 in
theorem wsL_in_r8_8 : ∀ w ∈ wsL_in_r8_8w, w ∈ lw_tbl := fun w h => (goodIn_p wsL_in_r8_8w [] (by decide +kernel) (by decide +kernel) w h).1
def wsL_in_r8_9w : List Cond := [Cond.code yX0_fineOnce cX0_fineOnce 3 (some .int)]
set_option maxRecDepth 20000 in
theorem wsL_in_r8_9 : ∀ w ∈ wsL_in_r8_9w, w ∈ lw_tbl := fun w h => by
  rw [List.mem_singleton.mp h]
  exact List.mem_of_getElem? (i := 471) rfl
def wsL_in_r8_10w : List Cond := [Cond.methodLink RL 88 yX1_pass, Cond.instanceMethod yX1_pass, Cond.selects RX1 yX1_pass yX1_pass]
set_option maxRecDepth 20000 in
theorem wsL_in_r8_10 : ∀ w ∈ wsL_in_r8_10w, w ∈ lw_tbl := fun w h => (goodIn_p wsL_in_r8_10w [] (by decide +kernel) (by decide +kernel) w h).1
def wsL_in_r8_11w : List Cond := [Cond.code yX1_pass cX1_pass 4 (some .int)]
set_option maxRecDepth 20000 in
theorem wsL_in_r8_11 : ∀ w ∈ wsL_in_r8_11w, w ∈ lw_tbl := fun w h => by
  rw [List.mem_singleton.mp h]
  exact List.mem_of_getElem? (i := 475) rfl
def wsL_in_r8_12w : List Cond := [Cond.methodLink RL 91 yX0_pass, Cond.instanceMethod yX0_pass, Cond.selects RX0 yX0_pass yX0_pass]
set_option maxRecDepth 20000 in
theorem wsL_in_r8_12 : ∀ w ∈ wsL_in_r8_12w, w ∈ lw_tbl := fun w h => (goodIn_p wsL_in_r8_12w [] (by decide +kernel) (by decide +kernel) w h).1
def wsL_in_r8_13w : List Cond := [Cond.code yX0_pass cX0_pass 4 (some .int)]
set_option maxRecDepth 20000 in
theorem wsL_in_r8_13 : ∀ w ∈ wsL_in_r8_13w, w ∈ lw_tbl := fun w h => by
  rw [List.mem_singleton.mp h]
  exact List.mem_of_getElem? (i := 479) rfl
theorem wsL_in_r8 : ∀ w ∈ wsL_law0_r8, w ∈ lw_tbl := lw_app2 wsL_in_r8_0 (lw_app2 wsL_in_r8_1 (lw_app2 wsL_in_r8_2 (lw_app2 wsL_in_r8_3 (lw_app2 wsL_in_r8_4 (lw_app2 wsL_in_r8_5 (lw_app2 wsL_in_r8_6 (lw_app2 wsL_in_r8_7 (lw_app2 wsL_in_r8_8 (lw_app2 wsL_in_r8_9 (lw_app2 wsL_in_r8_10 (lw_app2 wsL_in_r8_11 (lw_app2 wsL_in_r8_12 (wsL_in_r8_13)))))))))))))
def wsL_in_r9_0w : List Cond := [Cond.methodLink RX0 115 yX0_timesBegun, Cond.instanceMethod yX0_timesBegun, Cond.selects RX0 yX0_timesBegun yX0_timesBegun]
set_option maxRecDepth 20000 in
theorem wsL_in_r9_0 : ∀ w ∈ wsL_in_r9_0w, w ∈ lw_tbl := fun w h => (goodIn_p wsL_in_r9_0w [] (by decide +kernel) (by decide +kernel) w h).1
def wsL_in_r9_1w : List Cond := [Cond.code yX0_timesBegun cX0_timesBegun 7 (some .int)]
set_option maxRecDepth 20000 in
theorem wsL_in_r9_1 : ∀ w ∈ wsL_in_r9_1w, w ∈ lw_tbl := fun w h => by
  rw [List.mem_singleton.mp h]
  exact List.mem_of_getElem? (i := 483) rfl
def wsL_in_r9_2w : List Cond := [Cond.methodLink RX0 128 yX0_isOnAt, Cond.instanceMethod yX0_isOnAt, Cond.selects RX0 yX0_isOnAt yX0_isOnAt]
set_option maxRecDepth 20000 in
theorem wsL_in_r9_2 : ∀ w ∈ wsL_in_r9_2w, w ∈ lw_tbl := fun w h => (goodIn_p wsL_in_r9_2w [] (by decide +kernel) (by decide +kernel) w h).1
def wsL_in_r9_3w : List Cond := [Cond.code yX0_isOnAt cX0_isOnAt 3 (some .boolean)]
set_option maxRecDepth 20000 in
theorem wsL_in_r9_3 : ∀ w ∈ wsL_in_r9_3w, w ∈ lw_tbl := fun w h => by
  rw [List.mem_singleton.mp h]
  exact List.mem_of_getElem? (i := 211) rfl
def wsL_in_r9_4w : List Cond := [Cond.methodLink RL 107 yX0_halfHour, Cond.instanceMethod yX0_halfHour, Cond.selects RX0 yX0_halfHour yX0_halfHour]
set_option maxRecDepth 20000 in
theorem wsL_in_r9_4 : ∀ w ∈ wsL_in_r9_4w, w ∈ lw_tbl := fun w h => (goodIn_p wsL_in_r9_4w [] (by decide +kernel) (by decide +kernel) w h).1
def wsL_in_r9_5w : List Cond := [Cond.code yX0_halfHour cX0_halfHour 1 (some .int)]
set_option maxRecDepth 20000 in
theorem wsL_in_r9_5 : ∀ w ∈ wsL_in_r9_5w, w ∈ lw_tbl := fun w h => by
  rw [List.mem_singleton.mp h]
  exact List.mem_of_getElem? (i := 86) rfl
def wsL_in_r9_6w : List Cond := [Cond.methodLink RL 110 yX0_dawnIn, Cond.instanceMethod yX0_dawnIn, Cond.selects RX0 yX0_dawnIn yX0_dawnIn]
set_option maxRecDepth 20000 in
theorem wsL_in_r9_6 : ∀ w ∈ wsL_in_r9_6w, w ∈ lw_tbl := fun w h => (goodIn_p wsL_in_r9_6w [] (by decide +kernel) (by decide +kernel) w h).1
def wsL_in_r9_7w : List Cond := [Cond.code yX0_dawnIn cX0_dawnIn 2 (some .int)]
set_option maxRecDepth 20000 in
theorem wsL_in_r9_7 : ∀ w ∈ wsL_in_r9_7w, w ∈ lw_tbl := fun w h => by
  rw [List.mem_singleton.mp h]
  exact List.mem_of_getElem? (i := 176) rfl
def wsL_in_r9_8w : List Cond := [Cond.methodLink RX0 118 yX0_day, Cond.instanceMethod yX0_day, Cond.selects RX0 yX0_day yX0_day]
set_option maxRecDepth 20000 in
theorem wsL_in_r9_8 : ∀ w ∈ wsL_in_r9_8w, w ∈ lw_tbl := fun w h => (goodIn_p wsL_in_r9_8w [] (by decide +kernel) (by decide +kernel) w h).1
def wsL_in_r9_9w : List Cond := [Cond.code yX0_day cX0_day 1 (some .int)]
set_option maxRecDepth 20000 in
theorem wsL_in_r9_9 : ∀ w ∈ wsL_in_r9_9w, w ∈ lw_tbl := fun w h => by
  rw [List.mem_singleton.mp h]
  exact List.mem_of_getElem? (i := 165) rfl
def wsL_in_r9_10w : List Cond := [Cond.methodLink RL 113 yX0_duskIn, Cond.instanceMethod yX0_duskIn, Cond.selects RX0 yX0_duskIn yX0_duskIn]
set_option maxRecDepth 20000 in
theorem wsL_in_r9_10 : ∀ w ∈ wsL_in_r9_10w, w ∈ lw_tbl := fun w h => (goodIn_p wsL_in_r9_10w [] (by decide +kernel) (by decide +kernel) w h).1
def wsL_in_r9_11w : List Cond := [Cond.code yX0_duskIn cX0_duskIn 2 (some .int)]
set_option maxRecDepth 20000 in
theorem wsL_in_r9_11 : ∀ w ∈ wsL_in_r9_11w, w ∈ lw_tbl := fun w h => by
  rw [List.mem_singleton.mp h]
  exact List.mem_of_getElem? (i := 90) rfl
theorem wsL_in_r9 : ∀ w ∈ wsL_law0_r9, w ∈ lw_tbl := lw_app2 wsL_in_r9_0 (lw_app2 wsL_in_r9_1 (lw_app2 wsL_in_r9_2 (lw_app2 wsL_in_r9_3 (lw_app2 wsL_in_r9_4 (lw_app2 wsL_in_r9_5 (lw_app2 wsL_in_r9_6 (lw_app2 wsL_in_r9_7 (lw_app2 wsL_in_r9_8 (lw_app2 wsL_in_r9_9 (lw_app2 wsL_in_r9_10 (wsL_in_r9_11)))))))))))
def wsL_in_r10_0w : List Cond := [Cond.methodLink RL 116 yX0_shift, Cond.instanceMethod yX0_shift, Cond.selects RX0 yX0_shift yX0_shift]
set_option maxRecDepth 20000 in
theorem wsL_in_r10_0 : ∀ w ∈ wsL_in_r10_0w, w ∈ lw_tbl := fun w h => (goodIn_p wsL_in_r10_0w [] (by decide +kernel) (by decide +kernel) w h).1
end
section
def wsL_in_r10_1w : List Cond := [Cond.code yX0_shift cX0_shift 1 (some .int)]
set_option maxRecDepth 20000 in
theorem wsL_in_r10_1 : ∀ w ∈ wsL_in_r10_1w, w ∈ lw_tbl := fun w h => by
  rw [List.mem_singleton.mp h]
  exact List.mem_of_getElem? (i := 307) rfl
def wsL_in_r10_2w : List Cond := [Cond.methodLink RL 118 yX0_orders, Cond.instanceMethod yX0_orders, Cond.selects RX0 yX0_orders yX0_orders]
set_option maxRecDepth 20000 in
theorem wsL_in_r10_2 : ∀ w ∈ wsL_in_r10_2w, w ∈ lw_tbl := fun w h => (goodIn_p wsL_in_r10_2w [] (by decide +kernel) (by decide +kernel) w h).1
def wsL_in_r10_3w : List Cond := [Cond.code yX0_orders cX0_orders 1 (some .int)]
set_option maxRecDepth 20000 in
theorem wsL_in_r10_3 : ∀ w ∈ wsL_in_r10_3w, w ∈ lw_tbl := fun w h => by
  rw [List.mem_singleton.mp h]
  exact List.mem_of_getElem? (i := 295) rfl
def wsL_in_r10_4w : List Cond := [Cond.methodLink RL 120 yX0_isOn, Cond.instanceMethod yX0_isOn, Cond.selects RX0 yX0_isOn yX0_isOn]
set_option maxRecDepth 20000 in
theorem wsL_in_r10_4 : ∀ w ∈ wsL_in_r10_4w, w ∈ lw_tbl := fun w h => (goodIn_p wsL_in_r10_4w [] (by decide +kernel) (by decide +kernel) w h).1
def wsL_in_r10_5w : List Cond := [Cond.code yX0_isOn cX0_isOn 2 (some .boolean)]
set_option maxRecDepth 20000 in
theorem wsL_in_r10_5 : ∀ w ∈ wsL_in_r10_5w, w ∈ lw_tbl := fun w h => by
  rw [List.mem_singleton.mp h]
  exact List.mem_of_getElem? (i := 207) rfl
def wsL_in_r10_6w : List Cond := [Cond.methodLink RL 123 yX0_isInForce, Cond.instanceMethod yX0_isInForce, Cond.selects RX0 yX0_isInForce yX0_isInForce]
set_option maxRecDepth 20000 in
theorem wsL_in_r10_6 : ∀ w ∈ wsL_in_r10_6w, w ∈ lw_tbl := fun w h => (goodIn_p wsL_in_r10_6w [] (by decide +kernel) (by decide +kernel) w h).1
def wsL_in_r10_7w : List Cond := [Cond.code yX0_isInForce cX0_isInForce 2 (some .boolean)]
set_option maxRecDepth 20000 in
theorem wsL_in_r10_7 : ∀ w ∈ wsL_in_r10_7w, w ∈ lw_tbl := fun w h => by
  rw [List.mem_singleton.mp h]
  exact List.mem_of_getElem? (i := 183) rfl
def wsL_in_r10_8w : List Cond := [Cond.methodLink RL 126 yX0_halfHoursOn, Cond.instanceMethod yX0_halfHoursOn, Cond.selects RX0 yX0_halfHoursOn yX0_halfHoursOn]
set_option maxRecDepth 20000 in
theorem wsL_in_r10_8 : ∀ w ∈ wsL_in_r10_8w, w ∈ lw_tbl := fun w h => (goodIn_p wsL_in_r10_8w [] (by decide +kernel) (by decide +kernel) w h).1
def wsL_in_r10_9w : List Cond := [Cond.code yX0_halfHoursOn cX0_halfHoursOn 4 (some .int)]
set_option maxRecDepth 20000 in
theorem wsL_in_r10_9 : ∀ w ∈ wsL_in_r10_9w, w ∈ lw_tbl := fun w h => by
  rw [List.mem_singleton.mp h]
  exact List.mem_of_getElem? (i := 323) rfl
def wsL_in_r10_10w : List Cond := [Cond.methodLink RL 129 yX0_people, Cond.instanceMethod yX0_people, Cond.selects RX0 yX0_people yX0_people]
set_option maxRecDepth 20000 in
theorem wsL_in_r10_10 : ∀ w ∈ wsL_in_r10_10w, w ∈ lw_tbl := fun w h => (goodIn_p wsL_in_r10_10w [] (by decide +kernel) (by decide +kernel) w h).1
def wsL_in_r10_11w : List Cond := [Cond.code yX0_people cX0_people 1 (some .int)]
set_option maxRecDepth 20000 in
theorem wsL_in_r10_11 : ∀ w ∈ wsL_in_r10_11w, w ∈ lw_tbl := fun w h => by
  rw [List.mem_singleton.mp h]
  exact List.mem_of_getElem? (i := 299) rfl
theorem wsL_in_r10 : ∀ w ∈ wsL_law0_r10, w ∈ lw_tbl := lw_app2 wsL_in_r10_0 (lw_app2 wsL_in_r10_1 (lw_app2 wsL_in_r10_2 (lw_app2 wsL_in_r10_3 (lw_app2 wsL_in_r10_4 (lw_app2 wsL_in_r10_5 (lw_app2 wsL_in_r10_6 (lw_app2 wsL_in_r10_7 (lw_app2 wsL_in_r10_8 (lw_app2 wsL_in_r10_9 (lw_app2 wsL_in_r10_10 (wsL_in_r10_11)))))))))))
def wsL_in_r11_0w : List Cond := [Cond.methodLink RL 131 yX0_tradeOf, Cond.instanceMethod yX0_tradeOf, Cond.selects RX0 yX0_tradeOf yX0_tradeOf]
set_option maxRecDepth 20000 in
theorem wsL_in_r11_0 : ∀ w ∈ wsL_in_r11_0w, w ∈ lw_tbl := fun w h => (goodIn_p wsL_in_r11_0w [] (by decide +kernel) (by decide +kernel) w h).1
def wsL_in_r11_1w : List Cond := [Cond.code yX0_tradeOf cX0_tradeOf 2 (some .int)]
set_option maxRecDepth 20000 in
theorem wsL_in_r11_1 : ∀ w ∈ wsL_in_r11_1w, w ∈ lw_tbl := fun w h => by
  rw [List.mem_singleton.mp h]
  exact List.mem_of_getElem? (i := 239) rfl
def wsL_in_r11_2w : List Cond := [Cond.methodLink RL 134 yX0_isExempt, Cond.instanceMethod yX0_isExempt, Cond.selects RX0 yX0_isExempt yX0_isExempt]
set_option maxRecDepth 20000 in
theorem wsL_in_r11_2 : ∀ w ∈ wsL_in_r11_2w, w ∈ lw_tbl := fun w h => (goodIn_p wsL_in_r11_2w [] (by decide +kernel) (by decide +kernel) w h).1
def wsL_in_r11_3w : List Cond := [Cond.code yX0_isExempt cX0_isExempt 3 (some .boolean)]
set_option maxRecDepth 20000 in
theorem wsL_in_r11_3 : ∀ w ∈ wsL_in_r11_3w, w ∈ lw_tbl := fun w h => by
  rw [List.mem_singleton.mp h]
  exact List.mem_of_getElem? (i := 219) rfl
def wsL_in_r11_4w : List Cond := [Cond.methodLink RL 137 yX0_barredBy, Cond.instanceMethod yX0_barredBy, Cond.selects RX0 yX0_barredBy yX0_barredBy]
set_option maxRecDepth 20000 in
theorem wsL_in_r11_4 : ∀ w ∈ wsL_in_r11_4w, w ∈ lw_tbl := fun w h => (goodIn_p wsL_in_r11_4w [] (by decide +kernel) (by decide +kernel) w h).1
def wsL_in_r11_5w : List Cond := [Cond.code yX0_barredBy cX0_barredBy 4 (some .int)]
set_option maxRecDepth 20000 in
theorem wsL_in_r11_5 : ∀ w ∈ wsL_in_r11_5w, w ∈ lw_tbl := fun w h => by
  rw [List.mem_singleton.mp h]
  exact List.mem_of_getElem? (i := 231) rfl
def wsL_in_r11_6w : List Cond := [Cond.methodLink RL 140 yX0_timesFined, Cond.instanceMethod yX0_timesFined, Cond.selects RX0 yX0_timesFined yX0_timesFined]
set_option maxRecDepth 20000 in
theorem wsL_in_r11_6 : ∀ w ∈ wsL_in_r11_6w, w ∈ lw_tbl := fun w h => (goodIn_p wsL_in_r11_6w [] (by decide +kernel) (by decide +kernel) w h).1
def wsL_in_r11_7w : List Cond := [Cond.code yX0_timesFined cX0_timesFined 2 (some .int)]
set_option maxRecDepth 20000 in
theorem wsL_in_r11_7 : ∀ w ∈ wsL_in_r11_7w, w ∈ lw_tbl := fun w h => by
  rw [List.mem_singleton.mp h]
  exact List.mem_of_getElem? (i := 263) rfl
def wsL_in_r11_8w : List Cond := [Cond.methodLink RL 143 yX0_owes, Cond.instanceMethod yX0_owes, Cond.selects RX0 yX0_owes yX0_owes]
set_option maxRecDepth 20000 in
theorem wsL_in_r11_8 : ∀ w ∈ wsL_in_r11_8w, w ∈ lw_tbl := fun w h => (goodIn_p wsL_in_r11_8w [] (by decide +kernel) (by decide +kernel) w h).1
def wsL_in_r11_9w : List Cond := [Cond.code yX0_owes cX0_owes 2 (some .int)]
set_option maxRecDepth 20000 in
theorem wsL_in_r11_9 : ∀ w ∈ wsL_in_r11_9w, w ∈ lw_tbl := fun w h => by
  rw [List.mem_singleton.mp h]
  exact List.mem_of_getElem? (i := 259) rfl
def wsL_in_r11_10w : List Cond := [Cond.methodLink RL 146 yX0_stampsOf, Cond.instanceMethod yX0_stampsOf, Cond.selects RX0 yX0_stampsOf yX0_stampsOf]
set_option maxRecDepth 20000 in
theorem wsL_in_r11_10 : ∀ w ∈ wsL_in_r11_10w, w ∈ lw_tbl := fun w h => (goodIn_p wsL_in_r11_10w [] (by decide +kernel) (by decide +kernel) w h).1
def wsL_in_r11_11w : List Cond := [Cond.code yX0_stampsOf cX0_stampsOf 3 (some .int)]
set_option maxRecDepth 20000 in
theorem wsL_in_r11_11 : ∀ w ∈ wsL_in_r11_11w, w ∈ lw_tbl := fun w h => by
  rw [List.mem_singleton.mp h]
  exact List.mem_of_getElem? (i := 248) rfl
theorem wsL_in_r11 : ∀ w ∈ wsL_law0_r11, w ∈ lw_tbl := lw_app2 wsL_in_r11_0 (lw_app2 wsL_in_r11_1 (lw_app2 wsL_in_r11_2 (lw_app2 wsL_in_r11_3 (lw_app2 wsL_in_r11_4 (lw_app2 wsL_in_r11_5 (lw_app2 wsL_in_r11_6 (lw_app2 wsL_in_r11_7 (lw_app2 wsL_in_r11_8 (lw_app2 wsL_in_r11_9 (lw_app2 wsL_in_r11_10 (wsL_in_r11_11)))))))))))
def wsL_in_r12_0w : List Cond := [Cond.methodLink RL 149 yX0_quarters, Cond.instanceMethod yX0_quarters, Cond.selects RX0 yX0_quarters yX0_quarters]
set_option maxRecDepth 20000 in
theorem wsL_in_r12_0 : ∀ w ∈ wsL_in_r12_0w, w ∈ lw_tbl := fun w h => (goodIn_p wsL_in_r12_0w [] (by decide +kernel) (by decide +kernel) w h).1
def wsL_in_r12_1w : List Cond := [Cond.code yX0_quarters cX0_quarters 1 (some .int)]
set_option maxRecDepth 20000 in
theorem wsL_in_r12_1 : ∀ w ∈ wsL_in_r12_1w, w ∈ lw_tbl := fun w h => by
  rw [List.mem_singleton.mp h]
  exact List.mem_of_getElem? (i := 291) rfl
def wsL_in_r12_2w : List Cond := [Cond.methodLink RL 151 yX0_ordersAgainst, Cond.instanceMethod yX0_ordersAgainst, Cond.selects RX0 yX0_ordersAgainst yX0_ordersAgainst]
set_option maxRecDepth 20000 in
theorem wsL_in_r12_2 : ∀ w ∈ wsL_in_r12_2w, w ∈ lw_tbl := fun w h => (goodIn_p wsL_in_r12_2w [] (by decide +kernel) (by decide +kernel) w h).1
def wsL_in_r12_3w : List Cond := [Cond.code yX0_ordersAgainst cX0_ordersAgainst 5 (some .int)]
set_option maxRecDepth 20000 in
theorem wsL_in_r12_3 : ∀ w ∈ wsL_in_r12_3w, w ∈ lw_tbl := fun w h => by
  rw [List.mem_singleton.mp h]
  exact List.mem_of_getElem? (i := 267) rfl
def wsL_in_r12_4w : List Cond := [Cond.methodLink RL 154 yX0_stampsMissing, Cond.instanceMethod yX0_stampsMissing, Cond.selects RX0 yX0_stampsMissing yX0_stampsMissing]
set_option maxRecDepth 20000 in
theorem wsL_in_r12_4 : ∀ w ∈ wsL_in_r12_4w, w ∈ lw_tbl := fun w h => (goodIn_p wsL_in_r12_4w [] (by decide +kernel) (by decide +kernel) w h).1
def wsL_in_r12_5w : List Cond := [Cond.code yX0_stampsMissing cX0_stampsMissing 3 (some .int)]
set_option maxRecDepth 20000 in
theorem wsL_in_r12_5 : ∀ w ∈ wsL_in_r12_5w, w ∈ lw_tbl := fun w h => by
  rw [List.mem_singleton.mp h]
  exact List.mem_of_getElem? (i := 287) rfl
def wsL_in_r12_6w : List Cond := [Cond.methodLink RX0 131 yX0_missing, Cond.instanceMethod yX0_missing, Cond.selects RX0 yX0_missing yX0_missing]
set_option maxRecDepth 20000 in
theorem wsL_in_r12_6 : ∀ w ∈ wsL_in_r12_6w, w ∈ lw_tbl := fun w h => (goodIn_p wsL_in_r12_6w [] (by decide +kernel) (by decide +kernel) w h).1
def wsL_in_r12_7w : List Cond := [Cond.code yX0_missing cX0_missing 8 (some .int)]
set_option maxRecDepth 20000 in
theorem wsL_in_r12_7 : ∀ w ∈ wsL_in_r12_7w, w ∈ lw_tbl := fun w h => by
  rw [List.mem_singleton.mp h]
  exact List.mem_of_getElem? (i := 280) rfl
def wsL_in_r12_8w : List Cond := [Cond.methodLink RX0 187 Lib.Math.max.name, Cond.static Lib.Math.max.name]
set_option maxRecDepth 20000 in
theorem wsL_in_r12_8 : ∀ w ∈ wsL_in_r12_8w, w ∈ lw_tbl := fun w h => (goodIn_p wsL_in_r12_8w [] (by decide +kernel) (by decide +kernel) w h).1
def wsL_in_r12_9w : List Cond := [Cond.code Lib.Math.max.name Lib.Math.max.code 2 (some .int)]
set_option maxRecDepth 20000 in
theorem wsL_in_r12_9 : ∀ w ∈ wsL_in_r12_9w, w ∈ lw_tbl := fun w h => by
  rw [List.mem_singleton.mp h]
  exact List.mem_of_getElem? (i := 283) rfl
def wsL_in_r12_10w : List Cond := [Cond.methodLink RL 157 yX0_mayGo, Cond.instanceMethod yX0_mayGo, Cond.selects RX0 yX0_mayGo yX0_mayGo]
set_option maxRecDepth 20000 in
theorem wsL_in_r12_10 : ∀ w ∈ wsL_in_r12_10w, w ∈ lw_tbl := fun w h => (goodIn_p wsL_in_r12_10w [] (by decide +kernel) (by decide +kernel) w h).1
end
section
def wsL_in_r12_11w : List Cond := [Cond.code yX0_mayGo cX0_mayGo 3 (some .boolean)]
set_option maxRecDepth 20000 in
theorem wsL_in_r12_11 : ∀ w ∈ wsL_in_r12_11w, w ∈ lw_tbl := fun w h => by
  rw [List.mem_singleton.mp h]
  exact List.mem_of_getElem? (i := 276) rfl
def wsL_in_r12_12w : List Cond := [Cond.methodLink RL 160 yX0_halfHoursUntilFree]
set_option maxRecDepth 20000 in
theorem wsL_in_r12_12 : ∀ w ∈ wsL_in_r12_12w, w ∈ lw_tbl := fun w h => (goodIn_p wsL_in_r12_12w [] (by decide +kernel) (by decide +kernel) w h).1
theorem wsL_in_r12 : ∀ w ∈ wsL_law0_r12, w ∈ lw_tbl := lw_app2 wsL_in_r12_0 (lw_app2 wsL_in_r12_1 (lw_app2 wsL_in_r12_2 (lw_app2 wsL_in_r12_3 (lw_app2 wsL_in_r12_4 (lw_app2 wsL_in_r12_5 (lw_app2 wsL_in_r12_6 (lw_app2 wsL_in_r12_7 (lw_app2 wsL_in_r12_8 (lw_app2 wsL_in_r12_9 (lw_app2 wsL_in_r12_10 (lw_app2 wsL_in_r12_11 (wsL_in_r12_12))))))))))))
def wsL_in_r13_0w : List Cond := [Cond.instanceMethod yX0_halfHoursUntilFree, Cond.selects RX0 yX0_halfHoursUntilFree yX0_halfHoursUntilFree]
set_option maxRecDepth 20000 in
theorem wsL_in_r13_0 : ∀ w ∈ wsL_in_r13_0w, w ∈ lw_tbl := fun w h => (goodIn_p wsL_in_r13_0w [] (by decide +kernel) (by decide +kernel) w h).1
def wsL_in_r13_1w : List Cond := [Cond.code yX0_halfHoursUntilFree cX0_halfHoursUntilFree 4 (some .int)]
set_option maxRecDepth 20000 in
theorem wsL_in_r13_1 : ∀ w ∈ wsL_in_r13_1w, w ∈ lw_tbl := fun w h => by
  rw [List.mem_singleton.mp h]
  exact List.mem_of_getElem? (i := 315) rfl
def wsL_in_r13_2w : List Cond := [Cond.methodLink RX0 135 yX0_isFreeAt, Cond.instanceMethod yX0_isFreeAt, Cond.selects RX0 yX0_isFreeAt yX0_isFreeAt]
set_option maxRecDepth 20000 in
theorem wsL_in_r13_2 : ∀ w ∈ wsL_in_r13_2w, w ∈ lw_tbl := fun w h => (goodIn_p wsL_in_r13_2w [] (by decide +kernel) (by decide +kernel) w h).1
def wsL_in_r13_3w : List Cond := [Cond.code yX0_isFreeAt cX0_isFreeAt 5 (some .boolean)]
set_option maxRecDepth 20000 in
theorem wsL_in_r13_3 : ∀ w ∈ wsL_in_r13_3w, w ∈ lw_tbl := fun w h => by
  rw [List.mem_singleton.mp h]
  exact List.mem_of_getElem? (i := 319) rfl
def wsL_in_r13_4w : List Cond := [Cond.methodLink RL 163 yX0_ordersOn, Cond.instanceMethod yX0_ordersOn, Cond.selects RX0 yX0_ordersOn yX0_ordersOn]
set_option maxRecDepth 20000 in
theorem wsL_in_r13_4 : ∀ w ∈ wsL_in_r13_4w, w ∈ lw_tbl := fun w h => (goodIn_p wsL_in_r13_4w [] (by decide +kernel) (by decide +kernel) w h).1
def wsL_in_r13_5w : List Cond := [Cond.code yX0_ordersOn cX0_ordersOn 3 (some .int)]
set_option maxRecDepth 20000 in
theorem wsL_in_r13_5 : ∀ w ∈ wsL_in_r13_5w, w ∈ lw_tbl := fun w h => by
  rw [List.mem_singleton.mp h]
  exact List.mem_of_getElem? (i := 303) rfl
def wsL_in_r13_6w : List Cond := [Cond.methodLink RL 166 yX0_allOwe, Cond.instanceMethod yX0_allOwe, Cond.selects RX0 yX0_allOwe yX0_allOwe]
set_option maxRecDepth 20000 in
theorem wsL_in_r13_6 : ∀ w ∈ wsL_in_r13_6w, w ∈ lw_tbl := fun w h => (goodIn_p wsL_in_r13_6w [] (by decide +kernel) (by decide +kernel) w h).1
def wsL_in_r13_7w : List Cond := [Cond.code yX0_allOwe cX0_allOwe 3 (some .int)]
set_option maxRecDepth 20000 in
theorem wsL_in_r13_7 : ∀ w ∈ wsL_in_r13_7w, w ∈ lw_tbl := fun w h => by
  rw [List.mem_singleton.mp h]
  exact List.mem_of_getElem? (i := 311) rfl
def wsL_in_r13_8w : List Cond := [Cond.methodLink RL 169 yX1_isSame, Cond.instanceMethod yX1_isSame, Cond.selects RX1 yX1_isSame yX1_isSame]
set_option maxRecDepth 20000 in
theorem wsL_in_r13_8 : ∀ w ∈ wsL_in_r13_8w, w ∈ lw_tbl := fun w h => (goodIn_p wsL_in_r13_8w [] (by decide +kernel) (by decide +kernel) w h).1
def wsL_in_r13_9w : List Cond := [Cond.code yX1_isSame cX1_isSame 5 (some .boolean)]
set_option maxRecDepth 20000 in
theorem wsL_in_r13_9 : ∀ w ∈ wsL_in_r13_9w, w ∈ lw_tbl := fun w h => by
  rw [List.mem_singleton.mp h]
  exact List.mem_of_getElem? (i := 327) rfl
def wsL_in_r13_10w : List Cond := [Cond.fieldLink RX1 52 "CurfewDeskLaw$Sim" "quarters" "I", Cond.fieldLink RX1 49 "CurfewDeskLaw$Sim" "people" "I", Cond.methodLink RX1 59 yX0_day, Cond.methodLink RX1 64 yX0_halfHour, Cond.methodLink RX1 67 yX0_duskIn]
set_option maxRecDepth 20000 in
theorem wsL_in_r13_10 : ∀ w ∈ wsL_in_r13_10w, w ∈ lw_tbl := fun w h => (goodIn_p wsL_in_r13_10w [] (by decide +kernel) (by decide +kernel) w h).1
theorem wsL_in_r13 : ∀ w ∈ wsL_law0_r13, w ∈ lw_tbl := lw_app2 wsL_in_r13_0 (lw_app2 wsL_in_r13_1 (lw_app2 wsL_in_r13_2 (lw_app2 wsL_in_r13_3 (lw_app2 wsL_in_r13_4 (lw_app2 wsL_in_r13_5 (lw_app2 wsL_in_r13_6 (lw_app2 wsL_in_r13_7 (lw_app2 wsL_in_r13_8 (lw_app2 wsL_in_r13_9 (wsL_in_r13_10))))))))))
def wsL_in_r14_0w : List Cond := [Cond.methodLink RX1 70 yX0_dawnIn, Cond.methodLink RX1 73 yX0_quarters, Cond.methodLink RX1 75 yX0_orders, Cond.methodLink RX1 77 yX0_people, Cond.methodLink RX1 79 yX0_ordersOn, Cond.methodLink RX1 82 yX1_on, Cond.instanceMethod yX1_on, Cond.selects RX1 yX1_on yX1_on]
set_option maxRecDepth 20000 in
theorem wsL_in_r14_0 : ∀ w ∈ wsL_in_r14_0w, w ∈ lw_tbl := fun w h => (goodIn_p wsL_in_r14_0w [] (by decide +kernel) (by decide +kernel) w h).1
def wsL_in_r14_1w : List Cond := [Cond.code yX1_on cX1_on 3 (some .int)]
set_option maxRecDepth 20000 in
theorem wsL_in_r14_1 : ∀ w ∈ wsL_in_r14_1w, w ∈ lw_tbl := fun w h => by
  rw [List.mem_singleton.mp h]
  exact List.mem_of_getElem? (i := 342) rfl
def wsL_in_r14_2w : List Cond := [Cond.methodLink RX1 85 yX0_shift, Cond.methodLink RX1 87 yX0_stampsUsed, Cond.instanceMethod yX0_stampsUsed, Cond.selects RX0 yX0_stampsUsed yX0_stampsUsed]
set_option maxRecDepth 20000 in
theorem wsL_in_r14_2 : ∀ w ∈ wsL_in_r14_2w, w ∈ lw_tbl := fun w h => (goodIn_p wsL_in_r14_2w [] (by decide +kernel) (by decide +kernel) w h).1
def wsL_in_r14_3w : List Cond := [Cond.code yX0_stampsUsed cX0_stampsUsed 2 (some .int)]
set_option maxRecDepth 20000 in
theorem wsL_in_r14_3 : ∀ w ∈ wsL_in_r14_3w, w ∈ lw_tbl := fun w h => by
  rw [List.mem_singleton.mp h]
  exact List.mem_of_getElem? (i := 355) rfl
def wsL_in_r14_4w : List Cond := [Cond.methodLink RX1 90 yX0_quarterOf, Cond.instanceMethod yX0_quarterOf, Cond.selects RX0 yX0_quarterOf yX0_quarterOf]
set_option maxRecDepth 20000 in
theorem wsL_in_r14_4 : ∀ w ∈ wsL_in_r14_4w, w ∈ lw_tbl := fun w h => (goodIn_p wsL_in_r14_4w [] (by decide +kernel) (by decide +kernel) w h).1
def wsL_in_r14_5w : List Cond := [Cond.code yX0_quarterOf cX0_quarterOf 2 (some .int)]
set_option maxRecDepth 20000 in
theorem wsL_in_r14_5 : ∀ w ∈ wsL_in_r14_5w, w ∈ lw_tbl := fun w h => by
  rw [List.mem_singleton.mp h]
  exact List.mem_of_getElem? (i := 363) rfl
def wsL_in_r14_6w : List Cond := [Cond.methodLink RX1 93 yX0_colourOf, Cond.instanceMethod yX0_colourOf, Cond.selects RX0 yX0_colourOf yX0_colourOf]
set_option maxRecDepth 20000 in
theorem wsL_in_r14_6 : ∀ w ∈ wsL_in_r14_6w, w ∈ lw_tbl := fun w h => (goodIn_p wsL_in_r14_6w [] (by decide +kernel) (by decide +kernel) w h).1
def wsL_in_r14_7w : List Cond := [Cond.code yX0_colourOf cX0_colourOf 2 (some .int)]
set_option maxRecDepth 20000 in
theorem wsL_in_r14_7 : ∀ w ∈ wsL_in_r14_7w, w ∈ lw_tbl := fun w h => by
  rw [List.mem_singleton.mp h]
  exact List.mem_of_getElem? (i := 367) rfl
def wsL_in_r14_8w : List Cond := [Cond.methodLink RX1 96 yX0_isInForce, Cond.methodLink RX1 99 yX0_isOn]
set_option maxRecDepth 20000 in
theorem wsL_in_r14_8 : ∀ w ∈ wsL_in_r14_8w, w ∈ lw_tbl := fun w h => (goodIn_p wsL_in_r14_8w [] (by decide +kernel) (by decide +kernel) w h).1
theorem wsL_in_r14 : ∀ w ∈ wsL_law0_r14, w ∈ lw_tbl := lw_app2 wsL_in_r14_0 (lw_app2 wsL_in_r14_1 (lw_app2 wsL_in_r14_2 (lw_app2 wsL_in_r14_3 (lw_app2 wsL_in_r14_4 (lw_app2 wsL_in_r14_5 (lw_app2 wsL_in_r14_6 (lw_app2 wsL_in_r14_7 (wsL_in_r14_8))))))))
def wsL_in_r15_0w : List Cond := [Cond.methodLink RX1 100 yX0_barredBy, Cond.methodLink RX1 103 yX0_isExempt, Cond.methodLink RX1 107 yX0_tradeOf, Cond.methodLink RX1 110 yX0_timesFined, Cond.methodLink RX1 113 yX0_owes, Cond.methodLink RX1 116 yX0_stampsOf, Cond.methodLink RX1 119 yX0_ordersAgainst, Cond.methodLink RX1 122 yX1_against, Cond.instanceMethod yX1_against]
set_option maxRecDepth 20000 in
theorem wsL_in_r15_0 : ∀ w ∈ wsL_in_r15_0w, w ∈ lw_tbl := fun w h => (goodIn_p wsL_in_r15_0w [] (by decide +kernel) (by decide +kernel) w h).1
def wsL_in_r15_1w : List Cond := [Cond.selects RX1 yX1_against yX1_against]
set_option maxRecDepth 20000 in
theorem wsL_in_r15_1 : ∀ w ∈ wsL_in_r15_1w, w ∈ lw_tbl := fun w h => (goodIn_p wsL_in_r15_1w [] (by decide +kernel) (by decide +kernel) w h).1
def wsL_in_r15_2w : List Cond := [Cond.code yX1_against cX1_against 5 (some .int)]
set_option maxRecDepth 20000 in
theorem wsL_in_r15_2 : ∀ w ∈ wsL_in_r15_2w, w ∈ lw_tbl := fun w h => by
  rw [List.mem_singleton.mp h]
  exact List.mem_of_getElem? (i := 380) rfl
def wsL_in_r15_3w : List Cond := [Cond.methodLink RX1 125 yX0_stampsMissing, Cond.methodLink RX1 55 yX1_missing, Cond.methodLink RX1 128 yX0_mayGo, Cond.methodLink RX1 131 yX0_allOwe, Cond.methodLink RX1 134 yX0_meanDebt, Cond.instanceMethod yX0_meanDebt, Cond.selects RX0 yX0_meanDebt yX0_meanDebt]
set_option maxRecDepth 20000 in
theorem wsL_in_r15_3 : ∀ w ∈ wsL_in_r15_3w, w ∈ lw_tbl := fun w h => (goodIn_p wsL_in_r15_3w [] (by decide +kernel) (by decide +kernel) w h).1
def wsL_in_r15_4w : List Cond := [Cond.code yX0_meanDebt cX0_meanDebt 1 (some .double)]
set_option maxRecDepth 20000 in
theorem wsL_in_r15_4 : ∀ w ∈ wsL_in_r15_4w, w ∈ lw_tbl := fun w h => by
  rw [List.mem_singleton.mp h]
  exact List.mem_of_getElem? (i := 391) rfl
def wsL_in_r15_5w : List Cond := [Cond.methodLink RX0 145 yX0_allOwe]
set_option maxRecDepth 20000 in
theorem wsL_in_r15_5 : ∀ w ∈ wsL_in_r15_5w, w ∈ lw_tbl := fun w h => (goodIn_p wsL_in_r15_5w [] (by decide +kernel) (by decide +kernel) w h).1
theorem wsL_in_r15 : ∀ w ∈ wsL_law0_r15, w ∈ lw_tbl := lw_app2 wsL_in_r15_0 (lw_app2 wsL_in_r15_1 (lw_app2 wsL_in_r15_2 (lw_app2 wsL_in_r15_3 (lw_app2 wsL_in_r15_4 (wsL_in_r15_5)))))
end
section
theorem wsX0_inT : ∀ w ∈ wsX00, w ∈ lw_tbl := by decide +kernel
theorem wsX1_inT : ∀ w ∈ wsX10, w ∈ lw_tbl := by decide +kernel
set_option maxRecDepth 20000 in
theorem wsL_law_in0 : ∀ w ∈ wsL_law0, w ∈ lw_tbl := by
  have q15 := wsL_in_r15
  have q14 := lw_app2 wsL_in_r14 q15
  have q13 := lw_app2 wsL_in_r13 q14
  have q12 := lw_app2 wsL_in_r12 q13
  have q11 := lw_app2 wsL_in_r11 q12
  have q10 := lw_app2 wsL_in_r10 q11
  have q9 := lw_app2 wsL_in_r9 q10
  have q8 := lw_app2 wsL_in_r8 q9
  have q7 := lw_app2 wsL_in_r7 q8
  have q6 := lw_app2 wsL_in_r6 q7
  have q5 := lw_app2 wsL_in_r5 q6
  have q4 := lw_app2 wsL_in_r4 q5
  have q3 := lw_app2 wsL_in_r3 q4
  have q2 := lw_app2 wsL_in_r2 q3
  have q1 := lw_app2 wsL_in_r1 q2
  unfold wsL_law0
  exact lw_app2 (lw_app2 (lw_app2 q1 wsX0_inT) wsX1_inT) (fun w h => absurd h List.not_mem_nil)
theorem wsL_law_x0 : ∀ w ∈ (vx_atS RX0 52 "java/lang/IllegalStateException" ["java/lang/RuntimeException", "java/lang/Exception"]).filter goodWord, w ∈ lw_tbl := by decide +kernel
theorem wsL_law_x1 : ∀ w ∈ (vx_atS RX0 194 "java/lang/IndexOutOfBoundsException" ["java/lang/RuntimeException", "java/lang/Exception"]).filter goodWord, w ∈ lw_tbl := by decide +kernel
theorem wsL_law_x2 : ∀ w ∈ (vx_atS RX0 207 "java/lang/IllegalArgumentException" ["java/lang/RuntimeException", "java/lang/Exception"]).filter goodWord, w ∈ lw_tbl := by decide +kernel
theorem wsL_law_in : ∀ w ∈ wsL_law, w ∈ lw_tbl := fun w h => (List.mem_append.mp h).elim (fun h => (List.mem_append.mp h).elim (fun h => (List.mem_append.mp h).elim (fun h => wsL_law_in0 w h) (fun h => wsL_law_x0 w h)) (fun h => wsL_law_x1 w h)) (fun h => wsL_law_x2 w h)
theorem inlX0 : ∀ w ∈ wsX00, w ∈ wsL_law := fun _ h => List.mem_append_left _ (List.mem_append_left _ (List.mem_append_left _ (List.mem_append_left _ (List.mem_append_left _ (List.mem_append_right _ h)))))
theorem inX0 : ∀ w ∈ wsX00, w ∈ lw_tbl := fun w h => wsL_law_in w (inlX0 w h)
theorem inlX1 : ∀ w ∈ wsX10, w ∈ wsL_law := fun _ h => List.mem_append_left _ (List.mem_append_left _ (List.mem_append_left _ (List.mem_append_left _ (List.mem_append_right _ h))))
theorem inX1 : ∀ w ∈ wsX10, w ∈ lw_tbl := fun w h => wsL_law_in w (inlX1 w h)
theorem inX2 : ∀ w ∈ wsX20, w ∈ lw_tbl := by decide +kernel
theorem inJ9 : ∀ w ∈ wsJ90, w ∈ lw_tbl := by decide +kernel
theorem inJ0 : ∀ w ∈ wsJ00, w ∈ lw_tbl := by decide +kernel
end
section
theorem dX0_init_0 : decode cX0_init 0 = .ok (.aload_n 0, 1) := by decide +kernel
theorem dX0_init_1 : decode cX0_init 1 = .ok (.invokespecial 1, 3) := by decide +kernel
theorem dX0_init_4 : decode cX0_init 4 = .ok (.aload_n 0, 1) := by decide +kernel
theorem dX0_init_5 : decode cX0_init 5 = .ok (.bipush 10, 2) := by decide +kernel
theorem dX0_init_7 : decode cX0_init 7 = .ok (.newarray .int, 2) := by decide +kernel
theorem dX0_init_9 : decode cX0_init 9 = .ok (.putfield 9, 3) := by decide +kernel
theorem dX0_init_12 : decode cX0_init 12 = .ok (.aload_n 0, 1) := by decide +kernel
theorem dX0_init_13 : decode cX0_init 13 = .ok (.bipush 10, 2) := by decide +kernel
theorem dX0_init_15 : decode cX0_init 15 = .ok (.newarray .int, 2) := by decide +kernel
theorem dX0_init_17 : decode cX0_init 17 = .ok (.putfield 13, 3) := by decide +kernel
theorem dX0_init_20 : decode cX0_init 20 = .ok (.aload_n 0, 1) := by decide +kernel
theorem dX0_init_21 : decode cX0_init 21 = .ok (.bipush 10, 2) := by decide +kernel
theorem dX0_init_23 : decode cX0_init 23 = .ok (.newarray .int, 2) := by decide +kernel
theorem dX0_init_25 : decode cX0_init 25 = .ok (.putfield 16, 3) := by decide +kernel
theorem dX0_init_28 : decode cX0_init 28 = .ok (.aload_n 0, 1) := by decide +kernel
theorem dX0_init_29 : decode cX0_init 29 = .ok (.bipush 10, 2) := by decide +kernel
theorem dX0_init_31 : decode cX0_init 31 = .ok (.newarray .int, 2) := by decide +kernel
theorem dX0_init_33 : decode cX0_init 33 = .ok (.putfield 19, 3) := by decide +kernel
theorem dX0_init_36 : decode cX0_init 36 = .ok (.aload_n 0, 1) := by decide +kernel
theorem dX0_init_37 : decode cX0_init 37 = .ok (.bipush 10, 2) := by decide +kernel
theorem dX0_init_39 : decode cX0_init 39 = .ok (.newarray .boolean, 2) := by decide +kernel
theorem dX0_init_41 : decode cX0_init 41 = .ok (.putfield 22, 3) := by decide +kernel
theorem dX0_init_44 : decode cX0_init 44 = .ok (.aload_n 0, 1) := by decide +kernel
theorem dX0_init_45 : decode cX0_init 45 = .ok (.bipush 10, 2) := by decide +kernel
theorem dX0_init_47 : decode cX0_init 47 = .ok (.newarray .int, 2) := by decide +kernel
theorem dX0_init_49 : decode cX0_init 49 = .ok (.putfield 26, 3) := by decide +kernel
theorem dX0_init_52 : decode cX0_init 52 = .ok (.aload_n 0, 1) := by decide +kernel
theorem dX0_init_53 : decode cX0_init 53 = .ok (.bipush 20, 2) := by decide +kernel
theorem dX0_init_55 : decode cX0_init 55 = .ok (.newarray .int, 2) := by decide +kernel
theorem dX0_init_57 : decode cX0_init 57 = .ok (.putfield 29, 3) := by decide +kernel
theorem dX0_init_60 : decode cX0_init 60 = .ok (.aload_n 0, 1) := by decide +kernel
theorem dX0_init_61 : decode cX0_init 61 = .ok (.bipush 20, 2) := by decide +kernel
theorem dX0_init_63 : decode cX0_init 63 = .ok (.newarray .int, 2) := by decide +kernel
theorem dX0_init_65 : decode cX0_init 65 = .ok (.putfield 32, 3) := by decide +kernel
theorem dX0_init_68 : decode cX0_init 68 = .ok (.aload_n 0, 1) := by decide +kernel
theorem dX0_init_69 : decode cX0_init 69 = .ok (.bipush 20, 2) := by decide +kernel
theorem dX0_init_71 : decode cX0_init 71 = .ok (.newarray .int, 2) := by decide +kernel
theorem dX0_init_73 : decode cX0_init 73 = .ok (.putfield 35, 3) := by decide +kernel
theorem dX0_init_76 : decode cX0_init 76 = .ok (.aload_n 0, 1) := by decide +kernel
theorem dX0_init_77 : decode cX0_init 77 = .ok (.bipush 80, 2) := by decide +kernel
theorem dX0_init_79 : decode cX0_init 79 = .ok (.newarray .int, 2) := by decide +kernel
theorem dX0_init_81 : decode cX0_init 81 = .ok (.putfield 38, 3) := by decide +kernel
theorem dX0_init_84 : decode cX0_init 84 = .ok (.aload_n 0, 1) := by decide +kernel
theorem dX0_init_85 : decode cX0_init 85 = .ok (.iconst 4, 1) := by decide +kernel
theorem dX0_init_86 : decode cX0_init 86 = .ok (.newarray .int, 2) := by decide +kernel
theorem dX0_init_88 : decode cX0_init 88 = .ok (.putfield 41, 3) := by decide +kernel
theorem dX0_init_91 : decode cX0_init 91 = .ok (.return_, 1) := by decide +kernel
theorem dX0_addQuarter_0 : decode cX0_addQuarter 0 = .ok (.aload_n 0, 1) := by decide +kernel
theorem dX0_addQuarter_1 : decode cX0_addQuarter 1 = .ok (.getfield 44, 3) := by decide +kernel
theorem dX0_addQuarter_4 : decode cX0_addQuarter 4 = .ok (.bipush 6, 2) := by decide +kernel
theorem dX0_addQuarter_6 : decode cX0_addQuarter 6 = .ok (.if_icmp .lt 13, 3) := by decide +kernel
theorem dX0_addQuarter_9 : decode cX0_addQuarter 9 = .ok (.new 48, 3) := by decide +kernel
theorem dX0_addQuarter_12 : decode cX0_addQuarter 12 = .ok (.dup, 1) := by decide +kernel
theorem dX0_addQuarter_13 : decode cX0_addQuarter 13 = .ok (.ldc 50, 2) := by decide +kernel
theorem dX0_addQuarter_15 : decode cX0_addQuarter 15 = .ok (.invokespecial 52, 3) := by decide +kernel
theorem dX0_addQuarter_18 : decode cX0_addQuarter 18 = .ok (.athrow, 1) := by decide +kernel
theorem dX0_addQuarter_19 : decode cX0_addQuarter 19 = .ok (.aload_n 0, 1) := by decide +kernel
theorem dX0_addQuarter_20 : decode cX0_addQuarter 20 = .ok (.getfield 44, 3) := by decide +kernel
theorem dX0_addQuarter_23 : decode cX0_addQuarter 23 = .ok (.istore_n 1, 1) := by decide +kernel
theorem dX0_addQuarter_24 : decode cX0_addQuarter 24 = .ok (.aload_n 0, 1) := by decide +kernel
theorem dX0_addQuarter_25 : decode cX0_addQuarter 25 = .ok (.dup, 1) := by decide +kernel
theorem dX0_addQuarter_26 : decode cX0_addQuarter 26 = .ok (.getfield 44, 3) := by decide +kernel
theorem dX0_addQuarter_29 : decode cX0_addQuarter 29 = .ok (.iconst 1, 1) := by decide +kernel
theorem dX0_addQuarter_30 : decode cX0_addQuarter 30 = .ok (.iadd, 1) := by decide +kernel
theorem dX0_addQuarter_31 : decode cX0_addQuarter 31 = .ok (.putfield 44, 3) := by decide +kernel
theorem dX0_addQuarter_34 : decode cX0_addQuarter 34 = .ok (.iload_n 1, 1) := by decide +kernel
theorem dX0_addQuarter_35 : decode cX0_addQuarter 35 = .ok (.ireturn, 1) := by decide +kernel
set_option maxRecDepth 20000 in
theorem ggX0_addPerson_X0_requireTrade : GoodIn wsX0_addPerson wsX0_requireTrade := goodIn_ca (goodIn_r _ [8, 9, 10] (by decide +kernel) (by decide +kernel)) (goodIn_sub (fun _ h => List.mem_cons_of_mem _ (List.mem_append_right _ h)) (by decide +kernel))
set_option maxRecDepth 20000 in
theorem gX0_addPerson_X0_requireTrade : GoodIn wsX0_addPerson (va_wsS RX0 55 yX0_requireTrade wsX0_requireTrade) := goodIn_app (goodIn_of _ (by decide +kernel)) ggX0_addPerson_X0_requireTrade
theorem dX0_addPerson_0 : decode cX0_addPerson 0 = .ok (.iload_n 1, 1) := by decide +kernel
theorem dX0_addPerson_1 : decode cX0_addPerson 1 = .ok (.invokestatic 55, 3) := by decide +kernel
theorem dX0_addPerson_4 : decode cX0_addPerson 4 = .ok (.aload_n 0, 1) := by decide +kernel
theorem dX0_addPerson_5 : decode cX0_addPerson 5 = .ok (.getfield 59, 3) := by decide +kernel
theorem dX0_addPerson_8 : decode cX0_addPerson 8 = .ok (.bipush 20, 2) := by decide +kernel
theorem dX0_addPerson_10 : decode cX0_addPerson 10 = .ok (.if_icmp .lt 13, 3) := by decide +kernel
theorem dX0_addPerson_13 : decode cX0_addPerson 13 = .ok (.new 48, 3) := by decide +kernel
theorem dX0_addPerson_16 : decode cX0_addPerson 16 = .ok (.dup, 1) := by decide +kernel
theorem dX0_addPerson_17 : decode cX0_addPerson 17 = .ok (.ldc 62, 2) := by decide +kernel
theorem dX0_addPerson_19 : decode cX0_addPerson 19 = .ok (.invokespecial 52, 3) := by decide +kernel
theorem dX0_addPerson_22 : decode cX0_addPerson 22 = .ok (.athrow, 1) := by decide +kernel
theorem dX0_addPerson_23 : decode cX0_addPerson 23 = .ok (.aload_n 0, 1) := by decide +kernel
theorem dX0_addPerson_24 : decode cX0_addPerson 24 = .ok (.getfield 59, 3) := by decide +kernel
theorem dX0_addPerson_27 : decode cX0_addPerson 27 = .ok (.istore_n 2, 1) := by decide +kernel
theorem dX0_addPerson_28 : decode cX0_addPerson 28 = .ok (.aload_n 0, 1) := by decide +kernel
theorem dX0_addPerson_29 : decode cX0_addPerson 29 = .ok (.getfield 29, 3) := by decide +kernel
theorem dX0_addPerson_32 : decode cX0_addPerson 32 = .ok (.iload_n 2, 1) := by decide +kernel
theorem dX0_addPerson_33 : decode cX0_addPerson 33 = .ok (.iload_n 1, 1) := by decide +kernel
theorem dX0_addPerson_34 : decode cX0_addPerson 34 = .ok (.iastore, 1) := by decide +kernel
theorem dX0_addPerson_35 : decode cX0_addPerson 35 = .ok (.aload_n 0, 1) := by decide +kernel
theorem dX0_addPerson_36 : decode cX0_addPerson 36 = .ok (.dup, 1) := by decide +kernel
theorem dX0_addPerson_37 : decode cX0_addPerson 37 = .ok (.getfield 59, 3) := by decide +kernel
theorem dX0_addPerson_40 : decode cX0_addPerson 40 = .ok (.iconst 1, 1) := by decide +kernel
theorem dX0_addPerson_41 : decode cX0_addPerson 41 = .ok (.iadd, 1) := by decide +kernel
theorem dX0_addPerson_42 : decode cX0_addPerson 42 = .ok (.putfield 59, 3) := by decide +kernel
theorem dX0_addPerson_45 : decode cX0_addPerson 45 = .ok (.iload_n 2, 1) := by decide +kernel
theorem dX0_addPerson_46 : decode cX0_addPerson 46 = .ok (.ireturn, 1) := by decide +kernel
set_option maxRecDepth 20000 in
theorem ggX0_addOrder_X0_requireQuarter : GoodIn wsX0_addOrder wsX0_requireQuarter := goodIn_ca (goodIn_r _ [13, 14, 15, 16, 25, 26, 27, 28, 29, 30, 31, 32, 33, 34, 35, 36, 37, 38, 39, 40] (by decide +kernel) (by decide +kernel)) (goodIn_sub (fun _ h => List.mem_cons_of_mem _ (List.mem_append_left _ (List.mem_append_right _ h))) (by decide +kernel))
set_option maxRecDepth 20000 in
theorem gX0_addOrder_X0_requireQuarter : GoodIn wsX0_addOrder (wsV RX0 64 RX0 yX0_requireQuarter wsX0_requireQuarter) := goodIn_app (goodIn_of _ (by decide +kernel)) ggX0_addOrder_X0_requireQuarter
set_option maxRecDepth 20000 in
theorem ggX0_addOrder_X0_requireColour : GoodIn wsX0_addOrder wsX0_requireColour := goodIn_ca (goodIn_r _ [19, 14, 15] (by decide +kernel) (by decide +kernel)) (goodIn_sub (fun _ h => List.mem_cons_of_mem _ (List.mem_append_left _ (List.mem_append_right _ h))) (by decide +kernel))
set_option maxRecDepth 20000 in
theorem gX0_addOrder_X0_requireColour : GoodIn wsX0_addOrder (va_wsS RX0 67 yX0_requireColour wsX0_requireColour) := goodIn_app (goodIn_of _ (by decide +kernel)) ggX0_addOrder_X0_requireColour
set_option maxRecDepth 20000 in
theorem ggX0_addOrder_X0_requireWithin : GoodIn wsX0_addOrder wsX0_requireWithin := goodIn_ca (goodIn_r _ [22, 23, 24] (by decide +kernel) (by decide +kernel)) (goodIn_sub (fun _ h => List.mem_cons_of_mem _ (List.mem_append_right _ h)) (by decide +kernel))
set_option maxRecDepth 20000 in
theorem gX0_addOrder_X0_requireWithin : GoodIn wsX0_addOrder (va_wsS RX0 70 yX0_requireWithin wsX0_requireWithin) := goodIn_app (goodIn_of _ (by decide +kernel)) ggX0_addOrder_X0_requireWithin
theorem dX0_addOrder_0 : decode cX0_addOrder 0 = .ok (.aload_n 0, 1) := by decide +kernel
theorem dX0_addOrder_1 : decode cX0_addOrder 1 = .ok (.iload_n 1, 1) := by decide +kernel
theorem dX0_addOrder_2 : decode cX0_addOrder 2 = .ok (.invokevirtual 64, 3) := by decide +kernel
theorem dX0_addOrder_5 : decode cX0_addOrder 5 = .ok (.iload 4, 2) := by decide +kernel
theorem dX0_addOrder_7 : decode cX0_addOrder 7 = .ok (.invokestatic 67, 3) := by decide +kernel
theorem dX0_addOrder_10 : decode cX0_addOrder 10 = .ok (.iload_n 2, 1) := by decide +kernel
theorem dX0_addOrder_11 : decode cX0_addOrder 11 = .ok (.iconst 0, 1) := by decide +kernel
theorem dX0_addOrder_12 : decode cX0_addOrder 12 = .ok (.iconst 4, 1) := by decide +kernel
theorem dX0_addOrder_13 : decode cX0_addOrder 13 = .ok (.invokestatic 70, 3) := by decide +kernel
theorem dX0_addOrder_16 : decode cX0_addOrder 16 = .ok (.iload_n 3, 1) := by decide +kernel
theorem dX0_addOrder_17 : decode cX0_addOrder 17 = .ok (.iconst 0, 1) := by decide +kernel
theorem dX0_addOrder_18 : decode cX0_addOrder 18 = .ok (.iconst 4, 1) := by decide +kernel
theorem dX0_addOrder_19 : decode cX0_addOrder 19 = .ok (.invokestatic 70, 3) := by decide +kernel
theorem dX0_addOrder_22 : decode cX0_addOrder 22 = .ok (.aload_n 0, 1) := by decide +kernel
theorem dX0_addOrder_23 : decode cX0_addOrder 23 = .ok (.getfield 74, 3) := by decide +kernel
theorem dX0_addOrder_26 : decode cX0_addOrder 26 = .ok (.bipush 10, 2) := by decide +kernel
theorem dX0_addOrder_28 : decode cX0_addOrder 28 = .ok (.if_icmp .lt 13, 3) := by decide +kernel
theorem dX0_addOrder_31 : decode cX0_addOrder 31 = .ok (.new 48, 3) := by decide +kernel
theorem dX0_addOrder_34 : decode cX0_addOrder 34 = .ok (.dup, 1) := by decide +kernel
theorem dX0_addOrder_35 : decode cX0_addOrder 35 = .ok (.ldc 77, 2) := by decide +kernel
theorem dX0_addOrder_37 : decode cX0_addOrder 37 = .ok (.invokespecial 52, 3) := by decide +kernel
theorem dX0_addOrder_40 : decode cX0_addOrder 40 = .ok (.athrow, 1) := by decide +kernel
theorem dX0_addOrder_41 : decode cX0_addOrder 41 = .ok (.aload_n 0, 1) := by decide +kernel
theorem dX0_addOrder_42 : decode cX0_addOrder 42 = .ok (.getfield 74, 3) := by decide +kernel
theorem dX0_addOrder_45 : decode cX0_addOrder 45 = .ok (.istore 5, 2) := by decide +kernel
theorem dX0_addOrder_47 : decode cX0_addOrder 47 = .ok (.aload_n 0, 1) := by decide +kernel
theorem dX0_addOrder_48 : decode cX0_addOrder 48 = .ok (.getfield 9, 3) := by decide +kernel
theorem dX0_addOrder_51 : decode cX0_addOrder 51 = .ok (.iload 5, 2) := by decide +kernel
theorem dX0_addOrder_53 : decode cX0_addOrder 53 = .ok (.iload_n 1, 1) := by decide +kernel
theorem dX0_addOrder_54 : decode cX0_addOrder 54 = .ok (.iastore, 1) := by decide +kernel
theorem dX0_addOrder_55 : decode cX0_addOrder 55 = .ok (.aload_n 0, 1) := by decide +kernel
theorem dX0_addOrder_56 : decode cX0_addOrder 56 = .ok (.getfield 13, 3) := by decide +kernel
theorem dX0_addOrder_59 : decode cX0_addOrder 59 = .ok (.iload 5, 2) := by decide +kernel
theorem dX0_addOrder_61 : decode cX0_addOrder 61 = .ok (.iload_n 2, 1) := by decide +kernel
theorem dX0_addOrder_62 : decode cX0_addOrder 62 = .ok (.iastore, 1) := by decide +kernel
theorem dX0_addOrder_63 : decode cX0_addOrder 63 = .ok (.aload_n 0, 1) := by decide +kernel
theorem dX0_addOrder_64 : decode cX0_addOrder 64 = .ok (.getfield 16, 3) := by decide +kernel
theorem dX0_addOrder_67 : decode cX0_addOrder 67 = .ok (.iload 5, 2) := by decide +kernel
theorem dX0_addOrder_69 : decode cX0_addOrder 69 = .ok (.iload_n 3, 1) := by decide +kernel
theorem dX0_addOrder_70 : decode cX0_addOrder 70 = .ok (.iastore, 1) := by decide +kernel
theorem dX0_addOrder_71 : decode cX0_addOrder 71 = .ok (.aload_n 0, 1) := by decide +kernel
theorem dX0_addOrder_72 : decode cX0_addOrder 72 = .ok (.getfield 19, 3) := by decide +kernel
theorem dX0_addOrder_75 : decode cX0_addOrder 75 = .ok (.iload 5, 2) := by decide +kernel
theorem dX0_addOrder_77 : decode cX0_addOrder 77 = .ok (.iload 4, 2) := by decide +kernel
theorem dX0_addOrder_79 : decode cX0_addOrder 79 = .ok (.iastore, 1) := by decide +kernel
theorem dX0_addOrder_80 : decode cX0_addOrder 80 = .ok (.aload_n 0, 1) := by decide +kernel
theorem dX0_addOrder_81 : decode cX0_addOrder 81 = .ok (.getfield 22, 3) := by decide +kernel
theorem dX0_addOrder_84 : decode cX0_addOrder 84 = .ok (.iload 5, 2) := by decide +kernel
theorem dX0_addOrder_86 : decode cX0_addOrder 86 = .ok (.iconst 1, 1) := by decide +kernel
theorem dX0_addOrder_87 : decode cX0_addOrder 87 = .ok (.bastore, 1) := by decide +kernel
theorem dX0_addOrder_88 : decode cX0_addOrder 88 = .ok (.aload_n 0, 1) := by decide +kernel
theorem dX0_addOrder_89 : decode cX0_addOrder 89 = .ok (.dup, 1) := by decide +kernel
theorem dX0_addOrder_90 : decode cX0_addOrder 90 = .ok (.getfield 74, 3) := by decide +kernel
theorem dX0_addOrder_93 : decode cX0_addOrder 93 = .ok (.iconst 1, 1) := by decide +kernel
theorem dX0_addOrder_94 : decode cX0_addOrder 94 = .ok (.iadd, 1) := by decide +kernel
theorem dX0_addOrder_95 : decode cX0_addOrder 95 = .ok (.putfield 74, 3) := by decide +kernel
theorem dX0_addOrder_98 : decode cX0_addOrder 98 = .ok (.iload 5, 2) := by decide +kernel
theorem dX0_addOrder_100 : decode cX0_addOrder 100 = .ok (.ireturn, 1) := by decide +kernel
set_option maxRecDepth 20000 in
theorem ggX0_pass_X0_requireWithin : GoodIn wsX0_pass wsX0_requireWithin := goodIn_ca (goodIn_r _ [6, 7, 8] (by decide +kernel) (by decide +kernel)) (goodIn_sub (fun _ h => List.mem_cons_of_mem _ (List.mem_append_right _ h)) (by decide +kernel))
set_option maxRecDepth 20000 in
theorem gX0_pass_X0_requireWithin : GoodIn wsX0_pass (va_wsS RX0 70 yX0_requireWithin wsX0_requireWithin) := goodIn_app (goodIn_of _ (by decide +kernel)) ggX0_pass_X0_requireWithin
set_option maxRecDepth 20000 in
theorem ggX0_pass_X0_timesBegun : GoodIn wsX0_pass wsX0_timesBegun := goodIn_r _ [12, 2, 13, 14, 15, 5, 16, 17, 18, 19, 20, 21, 22, 23, 24, 25, 26, 27, 28, 29, 30, 31, 32, 33, 34, 35, 36, 37, 38, 39, 40, 41, 42, 43, 44, 45, 46, 47, 48, 49, 50] (by decide +kernel) (by decide +kernel)
set_option maxRecDepth 20000 in
theorem gX0_pass_X0_timesBegun : GoodIn wsX0_pass (wsV RX0 115 RX0 yX0_timesBegun wsX0_timesBegun) := goodIn_app (goodIn_of _ (by decide +kernel)) ggX0_pass_X0_timesBegun
theorem dX0_pass_0 : decode cX0_pass 0 = .ok (.iload_n 1, 1) := by decide +kernel
theorem dX0_pass_1 : decode cX0_pass 1 = .ok (.iconst 1, 1) := by decide +kernel
theorem dX0_pass_2 : decode cX0_pass 2 = .ok (.sipush 200, 3) := by decide +kernel
theorem dX0_pass_5 : decode cX0_pass 5 = .ok (.invokestatic 70, 3) := by decide +kernel
theorem dX0_pass_8 : decode cX0_pass 8 = .ok (.iconst 0, 1) := by decide +kernel
theorem dX0_pass_9 : decode cX0_pass 9 = .ok (.istore_n 2, 1) := by decide +kernel
theorem dX0_pass_10 : decode cX0_pass 10 = .ok (.iconst 0, 1) := by decide +kernel
theorem dX0_pass_11 : decode cX0_pass 11 = .ok (.istore_n 3, 1) := by decide +kernel
theorem dX0_pass_12 : decode cX0_pass 12 = .ok (.iload_n 3, 1) := by decide +kernel
theorem dX0_pass_13 : decode cX0_pass 13 = .ok (.aload_n 0, 1) := by decide +kernel
theorem dX0_pass_14 : decode cX0_pass 14 = .ok (.getfield 74, 3) := by decide +kernel
theorem dX0_pass_17 : decode cX0_pass 17 = .ok (.if_icmp .ge 18, 3) := by decide +kernel
theorem dX0_pass_20 : decode cX0_pass 20 = .ok (.iload_n 2, 1) := by decide +kernel
theorem dX0_pass_21 : decode cX0_pass 21 = .ok (.aload_n 0, 1) := by decide +kernel
theorem dX0_pass_22 : decode cX0_pass 22 = .ok (.iload_n 3, 1) := by decide +kernel
theorem dX0_pass_23 : decode cX0_pass 23 = .ok (.iload_n 1, 1) := by decide +kernel
theorem dX0_pass_24 : decode cX0_pass 24 = .ok (.invokevirtual 115, 3) := by decide +kernel
theorem dX0_pass_27 : decode cX0_pass 27 = .ok (.iadd, 1) := by decide +kernel
theorem dX0_pass_28 : decode cX0_pass 28 = .ok (.istore_n 2, 1) := by decide +kernel
theorem dX0_pass_29 : decode cX0_pass 29 = .ok (.iinc 3 1, 3) := by decide +kernel
theorem dX0_pass_32 : decode cX0_pass 32 = .ok (.goto (-20), 3) := by decide +kernel
theorem dX0_pass_35 : decode cX0_pass 35 = .ok (.aload_n 0, 1) := by decide +kernel
theorem dX0_pass_36 : decode cX0_pass 36 = .ok (.dup, 1) := by decide +kernel
theorem dX0_pass_37 : decode cX0_pass 37 = .ok (.getfield 101, 3) := by decide +kernel
theorem dX0_pass_40 : decode cX0_pass 40 = .ok (.iload_n 1, 1) := by decide +kernel
theorem dX0_pass_41 : decode cX0_pass 41 = .ok (.iadd, 1) := by decide +kernel
theorem dX0_pass_42 : decode cX0_pass 42 = .ok (.putfield 101, 3) := by decide +kernel
theorem dX0_pass_45 : decode cX0_pass 45 = .ok (.iload_n 2, 1) := by decide +kernel
theorem dX0_pass_46 : decode cX0_pass 46 = .ok (.ireturn, 1) := by decide +kernel
theorem dX0_tideOf_0 : decode cX0_tideOf 0 = .ok (.iload_n 0, 1) := by decide +kernel
theorem dX0_tideOf_1 : decode cX0_tideOf 1 = .ok (.bipush 40, 2) := by decide +kernel
theorem dX0_tideOf_3 : decode cX0_tideOf 3 = .ok (.irem, 1) := by decide +kernel
theorem dX0_tideOf_4 : decode cX0_tideOf 4 = .ok (.istore_n 1, 1) := by decide +kernel
theorem dX0_tideOf_5 : decode cX0_tideOf 5 = .ok (.iload_n 1, 1) := by decide +kernel
theorem dX0_tideOf_6 : decode cX0_tideOf 6 = .ok (.bipush 20, 2) := by decide +kernel
theorem dX0_tideOf_8 : decode cX0_tideOf 8 = .ok (.if_icmp .ge 7, 3) := by decide +kernel
theorem dX0_tideOf_11 : decode cX0_tideOf 11 = .ok (.iload_n 1, 1) := by decide +kernel
theorem dX0_tideOf_12 : decode cX0_tideOf 12 = .ok (.iconst 4, 1) := by decide +kernel
theorem dX0_tideOf_13 : decode cX0_tideOf 13 = .ok (.idiv, 1) := by decide +kernel
theorem dX0_tideOf_14 : decode cX0_tideOf 14 = .ok (.ireturn, 1) := by decide +kernel
theorem dX0_tideOf_15 : decode cX0_tideOf 15 = .ok (.bipush 39, 2) := by decide +kernel
theorem dX0_tideOf_17 : decode cX0_tideOf 17 = .ok (.iload_n 1, 1) := by decide +kernel
theorem dX0_tideOf_18 : decode cX0_tideOf 18 = .ok (.isub, 1) := by decide +kernel
theorem dX0_tideOf_19 : decode cX0_tideOf 19 = .ok (.iconst 4, 1) := by decide +kernel
theorem dX0_tideOf_20 : decode cX0_tideOf 20 = .ok (.idiv, 1) := by decide +kernel
theorem dX0_tideOf_21 : decode cX0_tideOf 21 = .ok (.ireturn, 1) := by decide +kernel
set_option maxRecDepth 20000 in
theorem ggX0_duskOf_X0_tideOf : GoodIn wsX0_duskOf wsX0_tideOf := goodIn_r _ [5] (by decide +kernel) (by decide +kernel)
set_option maxRecDepth 20000 in
theorem gX0_duskOf_X0_tideOf : GoodIn wsX0_duskOf (va_wsS RX0 184 yX0_tideOf wsX0_tideOf) := goodIn_app (goodIn_of _ (by decide +kernel)) ggX0_duskOf_X0_tideOf
theorem dX0_duskOf_0 : decode cX0_duskOf 0 = .ok (.bipush 34, 2) := by decide +kernel
theorem dX0_duskOf_2 : decode cX0_duskOf 2 = .ok (.iload_n 1, 1) := by decide +kernel
theorem dX0_duskOf_3 : decode cX0_duskOf 3 = .ok (.invokestatic 184, 3) := by decide +kernel
theorem dX0_duskOf_6 : decode cX0_duskOf 6 = .ok (.iadd, 1) := by decide +kernel
theorem dX0_duskOf_7 : decode cX0_duskOf 7 = .ok (.aload_n 0, 1) := by decide +kernel
theorem dX0_duskOf_8 : decode cX0_duskOf 8 = .ok (.getfield 86, 3) := by decide +kernel
theorem dX0_duskOf_11 : decode cX0_duskOf 11 = .ok (.iadd, 1) := by decide +kernel
theorem dX0_duskOf_12 : decode cX0_duskOf 12 = .ok (.ireturn, 1) := by decide +kernel
set_option maxRecDepth 20000 in
theorem ggX0_dawnOf_X0_tideOf : GoodIn wsX0_dawnOf wsX0_tideOf := goodIn_r _ [4] (by decide +kernel) (by decide +kernel)
set_option maxRecDepth 20000 in
theorem gX0_dawnOf_X0_tideOf : GoodIn wsX0_dawnOf (va_wsS RX0 184 yX0_tideOf wsX0_tideOf) := goodIn_app (goodIn_of _ (by decide +kernel)) ggX0_dawnOf_X0_tideOf
theorem dX0_dawnOf_0 : decode cX0_dawnOf 0 = .ok (.bipush 14, 2) := by decide +kernel
theorem dX0_dawnOf_2 : decode cX0_dawnOf 2 = .ok (.iload_n 0, 1) := by decide +kernel
theorem dX0_dawnOf_3 : decode cX0_dawnOf 3 = .ok (.invokestatic 184, 3) := by decide +kernel
theorem dX0_dawnOf_6 : decode cX0_dawnOf 6 = .ok (.isub, 1) := by decide +kernel
theorem dX0_dawnOf_7 : decode cX0_dawnOf 7 = .ok (.ireturn, 1) := by decide +kernel
set_option maxRecDepth 20000 in
theorem ggX0_isInHours_X0_duskOf : GoodIn wsX0_isInHours wsX0_duskOf := goodIn_r _ [7, 8, 9, 10, 6, 11, 15, 16, 17, 18, 19, 20, 21, 22, 23, 24, 25, 26, 27, 28, 29, 30] (by decide +kernel) (by decide +kernel)
set_option maxRecDepth 20000 in
theorem gX0_isInHours_X0_duskOf : GoodIn wsX0_isInHours (wsV RX0 122 RX0 yX0_duskOf wsX0_duskOf) := goodIn_app (goodIn_of _ (by decide +kernel)) ggX0_isInHours_X0_duskOf
set_option maxRecDepth 20000 in
theorem ggX0_isInHours_X0_dawnOf : GoodIn wsX0_isInHours wsX0_dawnOf := goodIn_r _ [14, 9, 10, 6, 11] (by decide +kernel) (by decide +kernel)
set_option maxRecDepth 20000 in
theorem gX0_isInHours_X0_dawnOf : GoodIn wsX0_isInHours (va_wsS RX0 125 yX0_dawnOf wsX0_dawnOf) := goodIn_app (goodIn_of _ (by decide +kernel)) ggX0_isInHours_X0_dawnOf
theorem dX0_isInHours_0 : decode cX0_isInHours 0 = .ok (.iload_n 2, 1) := by decide +kernel
theorem dX0_isInHours_1 : decode cX0_isInHours 1 = .ok (.bipush 48, 2) := by decide +kernel
theorem dX0_isInHours_3 : decode cX0_isInHours 3 = .ok (.idiv, 1) := by decide +kernel
theorem dX0_isInHours_4 : decode cX0_isInHours 4 = .ok (.istore_n 3, 1) := by decide +kernel
theorem dX0_isInHours_5 : decode cX0_isInHours 5 = .ok (.iload_n 2, 1) := by decide +kernel
theorem dX0_isInHours_6 : decode cX0_isInHours 6 = .ok (.bipush 48, 2) := by decide +kernel
theorem dX0_isInHours_8 : decode cX0_isInHours 8 = .ok (.irem, 1) := by decide +kernel
theorem dX0_isInHours_9 : decode cX0_isInHours 9 = .ok (.istore 4, 2) := by decide +kernel
theorem dX0_isInHours_11 : decode cX0_isInHours 11 = .ok (.iload 4, 2) := by decide +kernel
theorem dX0_isInHours_13 : decode cX0_isInHours 13 = .ok (.aload_n 0, 1) := by decide +kernel
theorem dX0_isInHours_14 : decode cX0_isInHours 14 = .ok (.iload_n 3, 1) := by decide +kernel
theorem dX0_isInHours_15 : decode cX0_isInHours 15 = .ok (.invokevirtual 122, 3) := by decide +kernel
theorem dX0_isInHours_18 : decode cX0_isInHours 18 = .ok (.aload_n 0, 1) := by decide +kernel
theorem dX0_isInHours_19 : decode cX0_isInHours 19 = .ok (.getfield 13, 3) := by decide +kernel
theorem dX0_isInHours_22 : decode cX0_isInHours 22 = .ok (.iload_n 1, 1) := by decide +kernel
theorem dX0_isInHours_23 : decode cX0_isInHours 23 = .ok (.iaload, 1) := by decide +kernel
theorem dX0_isInHours_24 : decode cX0_isInHours 24 = .ok (.isub, 1) := by decide +kernel
theorem dX0_isInHours_25 : decode cX0_isInHours 25 = .ok (.if_icmp .ge 19, 3) := by decide +kernel
theorem dX0_isInHours_28 : decode cX0_isInHours 28 = .ok (.iload 4, 2) := by decide +kernel
theorem dX0_isInHours_30 : decode cX0_isInHours 30 = .ok (.iload_n 3, 1) := by decide +kernel
theorem dX0_isInHours_31 : decode cX0_isInHours 31 = .ok (.invokestatic 125, 3) := by decide +kernel
theorem dX0_isInHours_34 : decode cX0_isInHours 34 = .ok (.aload_n 0, 1) := by decide +kernel
theorem dX0_isInHours_35 : decode cX0_isInHours 35 = .ok (.getfield 16, 3) := by decide +kernel
theorem dX0_isInHours_38 : decode cX0_isInHours 38 = .ok (.iload_n 1, 1) := by decide +kernel
theorem dX0_isInHours_39 : decode cX0_isInHours 39 = .ok (.iaload, 1) := by decide +kernel
theorem dX0_isInHours_40 : decode cX0_isInHours 40 = .ok (.iadd, 1) := by decide +kernel
theorem dX0_isInHours_41 : decode cX0_isInHours 41 = .ok (.if_icmp .ge 7, 3) := by decide +kernel
theorem dX0_isInHours_44 : decode cX0_isInHours 44 = .ok (.iconst 1, 1) := by decide +kernel
theorem dX0_isInHours_45 : decode cX0_isInHours 45 = .ok (.goto 4, 3) := by decide +kernel
theorem dX0_isInHours_48 : decode cX0_isInHours 48 = .ok (.iconst 0, 1) := by decide +kernel
theorem dX0_isInHours_49 : decode cX0_isInHours 49 = .ok (.ireturn, 1) := by decide +kernel
set_option maxRecDepth 20000 in
theorem ggX0_isOnAt_X0_isInHours : GoodIn wsX0_isOnAt wsX0_isInHours := goodIn_r _ [6, 7, 8, 9, 10, 11, 5, 12, 13, 14, 15, 16, 17, 18, 19, 20, 21, 22, 23, 24, 25, 26, 27, 28, 29, 30, 31, 32, 33, 34, 35] (by decide +kernel) (by decide +kernel)
set_option maxRecDepth 20000 in
theorem gX0_isOnAt_X0_isInHours : GoodIn wsX0_isOnAt (wsV RX0 139 RX0 yX0_isInHours wsX0_isInHours) := goodIn_app (goodIn_of _ (by decide +kernel)) ggX0_isOnAt_X0_isInHours
theorem dX0_isOnAt_0 : decode cX0_isOnAt 0 = .ok (.aload_n 0, 1) := by decide +kernel
theorem dX0_isOnAt_1 : decode cX0_isOnAt 1 = .ok (.getfield 22, 3) := by decide +kernel
theorem dX0_isOnAt_4 : decode cX0_isOnAt 4 = .ok (.iload_n 1, 1) := by decide +kernel
theorem dX0_isOnAt_5 : decode cX0_isOnAt 5 = .ok (.baload, 1) := by decide +kernel
theorem dX0_isOnAt_6 : decode cX0_isOnAt 6 = .ok (.ifCond .eq 16, 3) := by decide +kernel
theorem dX0_isOnAt_9 : decode cX0_isOnAt 9 = .ok (.aload_n 0, 1) := by decide +kernel
theorem dX0_isOnAt_10 : decode cX0_isOnAt 10 = .ok (.iload_n 1, 1) := by decide +kernel
theorem dX0_isOnAt_11 : decode cX0_isOnAt 11 = .ok (.iload_n 2, 1) := by decide +kernel
theorem dX0_isOnAt_12 : decode cX0_isOnAt 12 = .ok (.invokevirtual 139, 3) := by decide +kernel
theorem dX0_isOnAt_15 : decode cX0_isOnAt 15 = .ok (.ifCond .eq 7, 3) := by decide +kernel
theorem dX0_isOnAt_18 : decode cX0_isOnAt 18 = .ok (.iconst 1, 1) := by decide +kernel
theorem dX0_isOnAt_19 : decode cX0_isOnAt 19 = .ok (.goto 4, 3) := by decide +kernel
theorem dX0_isOnAt_22 : decode cX0_isOnAt 22 = .ok (.iconst 0, 1) := by decide +kernel
theorem dX0_isOnAt_23 : decode cX0_isOnAt 23 = .ok (.ireturn, 1) := by decide +kernel
set_option maxRecDepth 20000 in
theorem ggX0_timesBegun_X0_isOnAt : GoodIn wsX0_timesBegun wsX0_isOnAt := goodIn_r _ [6, 7, 8, 9, 10, 5, 11, 12, 13, 14, 15, 16, 17, 18, 19, 20, 21, 22, 23, 24, 25, 26, 27, 28, 29, 30, 31, 32, 33, 34, 35, 36, 37, 38, 39, 40] (by decide +kernel) (by decide +kernel)
set_option maxRecDepth 20000 in
theorem gX0_timesBegun_X0_isOnAt : GoodIn wsX0_timesBegun (wsV RX0 128 RX0 yX0_isOnAt wsX0_isOnAt) := goodIn_app (goodIn_of _ (by decide +kernel)) ggX0_timesBegun_X0_isOnAt
theorem dX0_timesBegun_0 : decode cX0_timesBegun 0 = .ok (.iconst 0, 1) := by decide +kernel
theorem dX0_timesBegun_1 : decode cX0_timesBegun 1 = .ok (.istore_n 3, 1) := by decide +kernel
theorem dX0_timesBegun_2 : decode cX0_timesBegun 2 = .ok (.aload_n 0, 1) := by decide +kernel
theorem dX0_timesBegun_3 : decode cX0_timesBegun 3 = .ok (.iload_n 1, 1) := by decide +kernel
theorem dX0_timesBegun_4 : decode cX0_timesBegun 4 = .ok (.aload_n 0, 1) := by decide +kernel
theorem dX0_timesBegun_5 : decode cX0_timesBegun 5 = .ok (.getfield 101, 3) := by decide +kernel
theorem dX0_timesBegun_8 : decode cX0_timesBegun 8 = .ok (.invokevirtual 128, 3) := by decide +kernel
theorem dX0_timesBegun_11 : decode cX0_timesBegun 11 = .ok (.istore 4, 2) := by decide +kernel
theorem dX0_timesBegun_13 : decode cX0_timesBegun 13 = .ok (.iconst 1, 1) := by decide +kernel
theorem dX0_timesBegun_14 : decode cX0_timesBegun 14 = .ok (.istore 5, 2) := by decide +kernel
theorem dX0_timesBegun_16 : decode cX0_timesBegun 16 = .ok (.iload 5, 2) := by decide +kernel
theorem dX0_timesBegun_18 : decode cX0_timesBegun 18 = .ok (.iload_n 2, 1) := by decide +kernel
theorem dX0_timesBegun_19 : decode cX0_timesBegun 19 = .ok (.if_icmp .gt 40, 3) := by decide +kernel
theorem dX0_timesBegun_22 : decode cX0_timesBegun 22 = .ok (.aload_n 0, 1) := by decide +kernel
theorem dX0_timesBegun_23 : decode cX0_timesBegun 23 = .ok (.iload_n 1, 1) := by decide +kernel
theorem dX0_timesBegun_24 : decode cX0_timesBegun 24 = .ok (.aload_n 0, 1) := by decide +kernel
theorem dX0_timesBegun_25 : decode cX0_timesBegun 25 = .ok (.getfield 101, 3) := by decide +kernel
theorem dX0_timesBegun_28 : decode cX0_timesBegun 28 = .ok (.iload 5, 2) := by decide +kernel
theorem dX0_timesBegun_30 : decode cX0_timesBegun 30 = .ok (.iadd, 1) := by decide +kernel
theorem dX0_timesBegun_31 : decode cX0_timesBegun 31 = .ok (.invokevirtual 128, 3) := by decide +kernel
theorem dX0_timesBegun_34 : decode cX0_timesBegun 34 = .ok (.istore 6, 2) := by decide +kernel
theorem dX0_timesBegun_36 : decode cX0_timesBegun 36 = .ok (.iload 6, 2) := by decide +kernel
theorem dX0_timesBegun_38 : decode cX0_timesBegun 38 = .ok (.ifCond .eq 11, 3) := by decide +kernel
theorem dX0_timesBegun_41 : decode cX0_timesBegun 41 = .ok (.iload 4, 2) := by decide +kernel
theorem dX0_timesBegun_43 : decode cX0_timesBegun 43 = .ok (.ifCond .ne 6, 3) := by decide +kernel
theorem dX0_timesBegun_46 : decode cX0_timesBegun 46 = .ok (.iinc 3 1, 3) := by decide +kernel
theorem dX0_timesBegun_49 : decode cX0_timesBegun 49 = .ok (.iload 6, 2) := by decide +kernel
theorem dX0_timesBegun_51 : decode cX0_timesBegun 51 = .ok (.istore 4, 2) := by decide +kernel
theorem dX0_timesBegun_53 : decode cX0_timesBegun 53 = .ok (.iinc 5 1, 3) := by decide +kernel
theorem dX0_timesBegun_56 : decode cX0_timesBegun 56 = .ok (.goto (-40), 3) := by decide +kernel
theorem dX0_timesBegun_59 : decode cX0_timesBegun 59 = .ok (.iload_n 3, 1) := by decide +kernel
theorem dX0_timesBegun_60 : decode cX0_timesBegun 60 = .ok (.ireturn, 1) := by decide +kernel
theorem dX0_requireQuarter_0 : decode cX0_requireQuarter 0 = .ok (.iload_n 1, 1) := by decide +kernel
theorem dX0_requireQuarter_1 : decode cX0_requireQuarter 1 = .ok (.ifCond .lt 11, 3) := by decide +kernel
theorem dX0_requireQuarter_4 : decode cX0_requireQuarter 4 = .ok (.iload_n 1, 1) := by decide +kernel
theorem dX0_requireQuarter_5 : decode cX0_requireQuarter 5 = .ok (.aload_n 0, 1) := by decide +kernel
theorem dX0_requireQuarter_6 : decode cX0_requireQuarter 6 = .ok (.getfield 44, 3) := by decide +kernel
theorem dX0_requireQuarter_9 : decode cX0_requireQuarter 9 = .ok (.if_icmp .lt 13, 3) := by decide +kernel
theorem dX0_requireQuarter_12 : decode cX0_requireQuarter 12 = .ok (.new 190, 3) := by decide +kernel
theorem dX0_requireQuarter_15 : decode cX0_requireQuarter 15 = .ok (.dup, 1) := by decide +kernel
theorem dX0_requireQuarter_16 : decode cX0_requireQuarter 16 = .ok (.ldc 192, 2) := by decide +kernel
theorem dX0_requireQuarter_18 : decode cX0_requireQuarter 18 = .ok (.invokespecial 194, 3) := by decide +kernel
theorem dX0_requireQuarter_21 : decode cX0_requireQuarter 21 = .ok (.athrow, 1) := by decide +kernel
theorem dX0_requireQuarter_22 : decode cX0_requireQuarter 22 = .ok (.return_, 1) := by decide +kernel
theorem dX0_requireTrade_0 : decode cX0_requireTrade 0 = .ok (.iload_n 0, 1) := by decide +kernel
theorem dX0_requireTrade_1 : decode cX0_requireTrade 1 = .ok (.ifCond .lt 9, 3) := by decide +kernel
theorem dX0_requireTrade_4 : decode cX0_requireTrade 4 = .ok (.iload_n 0, 1) := by decide +kernel
theorem dX0_requireTrade_5 : decode cX0_requireTrade 5 = .ok (.bipush 8, 2) := by decide +kernel
theorem dX0_requireTrade_7 : decode cX0_requireTrade 7 = .ok (.if_icmp .lt 13, 3) := by decide +kernel
theorem dX0_requireTrade_10 : decode cX0_requireTrade 10 = .ok (.new 190, 3) := by decide +kernel
theorem dX0_requireTrade_13 : decode cX0_requireTrade 13 = .ok (.dup, 1) := by decide +kernel
theorem dX0_requireTrade_14 : decode cX0_requireTrade 14 = .ok (.ldc 199, 2) := by decide +kernel
theorem dX0_requireTrade_16 : decode cX0_requireTrade 16 = .ok (.invokespecial 194, 3) := by decide +kernel
theorem dX0_requireTrade_19 : decode cX0_requireTrade 19 = .ok (.athrow, 1) := by decide +kernel
theorem dX0_requireTrade_20 : decode cX0_requireTrade 20 = .ok (.return_, 1) := by decide +kernel
theorem dX0_requireColour_0 : decode cX0_requireColour 0 = .ok (.iload_n 0, 1) := by decide +kernel
theorem dX0_requireColour_1 : decode cX0_requireColour 1 = .ok (.ifCond .lt 8, 3) := by decide +kernel
theorem dX0_requireColour_4 : decode cX0_requireColour 4 = .ok (.iload_n 0, 1) := by decide +kernel
theorem dX0_requireColour_5 : decode cX0_requireColour 5 = .ok (.iconst 4, 1) := by decide +kernel
theorem dX0_requireColour_6 : decode cX0_requireColour 6 = .ok (.if_icmp .lt 13, 3) := by decide +kernel
theorem dX0_requireColour_9 : decode cX0_requireColour 9 = .ok (.new 190, 3) := by decide +kernel
theorem dX0_requireColour_12 : decode cX0_requireColour 12 = .ok (.dup, 1) := by decide +kernel
theorem dX0_requireColour_13 : decode cX0_requireColour 13 = .ok (.ldc 201, 2) := by decide +kernel
theorem dX0_requireColour_15 : decode cX0_requireColour 15 = .ok (.invokespecial 194, 3) := by decide +kernel
theorem dX0_requireColour_18 : decode cX0_requireColour 18 = .ok (.athrow, 1) := by decide +kernel
theorem dX0_requireColour_19 : decode cX0_requireColour 19 = .ok (.return_, 1) := by decide +kernel
theorem dX0_requireWithin_0 : decode cX0_requireWithin 0 = .ok (.iload_n 0, 1) := by decide +kernel
theorem dX0_requireWithin_1 : decode cX0_requireWithin 1 = .ok (.iload_n 1, 1) := by decide +kernel
theorem dX0_requireWithin_2 : decode cX0_requireWithin 2 = .ok (.if_icmp .lt 8, 3) := by decide +kernel
theorem dX0_requireWithin_5 : decode cX0_requireWithin 5 = .ok (.iload_n 0, 1) := by decide +kernel
theorem dX0_requireWithin_6 : decode cX0_requireWithin 6 = .ok (.iload_n 2, 1) := by decide +kernel
theorem dX0_requireWithin_7 : decode cX0_requireWithin 7 = .ok (.if_icmp .le 13, 3) := by decide +kernel
theorem dX0_requireWithin_10 : decode cX0_requireWithin 10 = .ok (.new 203, 3) := by decide +kernel
theorem dX0_requireWithin_13 : decode cX0_requireWithin 13 = .ok (.dup, 1) := by decide +kernel
theorem dX0_requireWithin_14 : decode cX0_requireWithin 14 = .ok (.ldc 205, 2) := by decide +kernel
theorem dX0_requireWithin_16 : decode cX0_requireWithin 16 = .ok (.invokespecial 207, 3) := by decide +kernel
theorem dX0_requireWithin_19 : decode cX0_requireWithin 19 = .ok (.athrow, 1) := by decide +kernel
theorem dX0_requireWithin_20 : decode cX0_requireWithin 20 = .ok (.return_, 1) := by decide +kernel
end
section
theorem dX1_init_0 : decode cX1_init 0 = .ok (.aload_n 0, 1) := by decide +kernel
theorem dX1_init_1 : decode cX1_init 1 = .ok (.invokespecial 1, 3) := by decide +kernel
theorem dX1_init_4 : decode cX1_init 4 = .ok (.aload_n 0, 1) := by decide +kernel
theorem dX1_init_5 : decode cX1_init 5 = .ok (.bipush 10, 2) := by decide +kernel
theorem dX1_init_7 : decode cX1_init 7 = .ok (.bipush 13, 2) := by decide +kernel
theorem dX1_init_9 : decode cX1_init 9 = .ok (.multianewarray 7 2, 4) := by decide +kernel
theorem dX1_init_13 : decode cX1_init 13 = .ok (.putfield 9, 3) := by decide +kernel
theorem dX1_init_16 : decode cX1_init 16 = .ok (.aload_n 0, 1) := by decide +kernel
theorem dX1_init_17 : decode cX1_init 17 = .ok (.bipush 20, 2) := by decide +kernel
theorem dX1_init_19 : decode cX1_init 19 = .ok (.bipush 7, 2) := by decide +kernel
theorem dX1_init_21 : decode cX1_init 21 = .ok (.multianewarray 7 2, 4) := by decide +kernel
theorem dX1_init_25 : decode cX1_init 25 = .ok (.putfield 14, 3) := by decide +kernel
theorem dX1_init_28 : decode cX1_init 28 = .ok (.aload_n 0, 1) := by decide +kernel
theorem dX1_init_29 : decode cX1_init 29 = .ok (.iconst 4, 1) := by decide +kernel
theorem dX1_init_30 : decode cX1_init 30 = .ok (.newarray .int, 2) := by decide +kernel
theorem dX1_init_32 : decode cX1_init 32 = .ok (.putfield 17, 3) := by decide +kernel
theorem dX1_init_35 : decode cX1_init 35 = .ok (.return_, 1) := by decide +kernel
theorem dX1_tide_0 : decode cX1_tide 0 = .ok (.bipush 20, 2) := by decide +kernel
theorem dX1_tide_2 : decode cX1_tide 2 = .ok (.newarray .int, 2) := by decide +kernel
theorem dX1_tide_4 : decode cX1_tide 4 = .ok (.dup, 1) := by decide +kernel
theorem dX1_tide_5 : decode cX1_tide 5 = .ok (.iconst 0, 1) := by decide +kernel
theorem dX1_tide_6 : decode cX1_tide 6 = .ok (.iconst 0, 1) := by decide +kernel
theorem dX1_tide_7 : decode cX1_tide 7 = .ok (.iastore, 1) := by decide +kernel
theorem dX1_tide_8 : decode cX1_tide 8 = .ok (.dup, 1) := by decide +kernel
theorem dX1_tide_9 : decode cX1_tide 9 = .ok (.iconst 1, 1) := by decide +kernel
theorem dX1_tide_10 : decode cX1_tide 10 = .ok (.iconst 0, 1) := by decide +kernel
theorem dX1_tide_11 : decode cX1_tide 11 = .ok (.iastore, 1) := by decide +kernel
theorem dX1_tide_12 : decode cX1_tide 12 = .ok (.dup, 1) := by decide +kernel
theorem dX1_tide_13 : decode cX1_tide 13 = .ok (.iconst 2, 1) := by decide +kernel
theorem dX1_tide_14 : decode cX1_tide 14 = .ok (.iconst 0, 1) := by decide +kernel
theorem dX1_tide_15 : decode cX1_tide 15 = .ok (.iastore, 1) := by decide +kernel
theorem dX1_tide_16 : decode cX1_tide 16 = .ok (.dup, 1) := by decide +kernel
theorem dX1_tide_17 : decode cX1_tide 17 = .ok (.iconst 3, 1) := by decide +kernel
theorem dX1_tide_18 : decode cX1_tide 18 = .ok (.iconst 0, 1) := by decide +kernel
theorem dX1_tide_19 : decode cX1_tide 19 = .ok (.iastore, 1) := by decide +kernel
theorem dX1_tide_20 : decode cX1_tide 20 = .ok (.dup, 1) := by decide +kernel
theorem dX1_tide_21 : decode cX1_tide 21 = .ok (.iconst 4, 1) := by decide +kernel
theorem dX1_tide_22 : decode cX1_tide 22 = .ok (.iconst 1, 1) := by decide +kernel
theorem dX1_tide_23 : decode cX1_tide 23 = .ok (.iastore, 1) := by decide +kernel
theorem dX1_tide_24 : decode cX1_tide 24 = .ok (.dup, 1) := by decide +kernel
theorem dX1_tide_25 : decode cX1_tide 25 = .ok (.iconst 5, 1) := by decide +kernel
theorem dX1_tide_26 : decode cX1_tide 26 = .ok (.iconst 1, 1) := by decide +kernel
theorem dX1_tide_27 : decode cX1_tide 27 = .ok (.iastore, 1) := by decide +kernel
theorem dX1_tide_28 : decode cX1_tide 28 = .ok (.dup, 1) := by decide +kernel
theorem dX1_tide_29 : decode cX1_tide 29 = .ok (.bipush 6, 2) := by decide +kernel
theorem dX1_tide_31 : decode cX1_tide 31 = .ok (.iconst 1, 1) := by decide +kernel
theorem dX1_tide_32 : decode cX1_tide 32 = .ok (.iastore, 1) := by decide +kernel
theorem dX1_tide_33 : decode cX1_tide 33 = .ok (.dup, 1) := by decide +kernel
theorem dX1_tide_34 : decode cX1_tide 34 = .ok (.bipush 7, 2) := by decide +kernel
theorem dX1_tide_36 : decode cX1_tide 36 = .ok (.iconst 1, 1) := by decide +kernel
theorem dX1_tide_37 : decode cX1_tide 37 = .ok (.iastore, 1) := by decide +kernel
theorem dX1_tide_38 : decode cX1_tide 38 = .ok (.dup, 1) := by decide +kernel
theorem dX1_tide_39 : decode cX1_tide 39 = .ok (.bipush 8, 2) := by decide +kernel
theorem dX1_tide_41 : decode cX1_tide 41 = .ok (.iconst 2, 1) := by decide +kernel
theorem dX1_tide_42 : decode cX1_tide 42 = .ok (.iastore, 1) := by decide +kernel
theorem dX1_tide_43 : decode cX1_tide 43 = .ok (.dup, 1) := by decide +kernel
theorem dX1_tide_44 : decode cX1_tide 44 = .ok (.bipush 9, 2) := by decide +kernel
theorem dX1_tide_46 : decode cX1_tide 46 = .ok (.iconst 2, 1) := by decide +kernel
theorem dX1_tide_47 : decode cX1_tide 47 = .ok (.iastore, 1) := by decide +kernel
theorem dX1_tide_48 : decode cX1_tide 48 = .ok (.dup, 1) := by decide +kernel
theorem dX1_tide_49 : decode cX1_tide 49 = .ok (.bipush 10, 2) := by decide +kernel
theorem dX1_tide_51 : decode cX1_tide 51 = .ok (.iconst 2, 1) := by decide +kernel
theorem dX1_tide_52 : decode cX1_tide 52 = .ok (.iastore, 1) := by decide +kernel
theorem dX1_tide_53 : decode cX1_tide 53 = .ok (.dup, 1) := by decide +kernel
theorem dX1_tide_54 : decode cX1_tide 54 = .ok (.bipush 11, 2) := by decide +kernel
theorem dX1_tide_56 : decode cX1_tide 56 = .ok (.iconst 2, 1) := by decide +kernel
theorem dX1_tide_57 : decode cX1_tide 57 = .ok (.iastore, 1) := by decide +kernel
theorem dX1_tide_58 : decode cX1_tide 58 = .ok (.dup, 1) := by decide +kernel
theorem dX1_tide_59 : decode cX1_tide 59 = .ok (.bipush 12, 2) := by decide +kernel
theorem dX1_tide_61 : decode cX1_tide 61 = .ok (.iconst 3, 1) := by decide +kernel
theorem dX1_tide_62 : decode cX1_tide 62 = .ok (.iastore, 1) := by decide +kernel
theorem dX1_tide_63 : decode cX1_tide 63 = .ok (.dup, 1) := by decide +kernel
theorem dX1_tide_64 : decode cX1_tide 64 = .ok (.bipush 13, 2) := by decide +kernel
theorem dX1_tide_66 : decode cX1_tide 66 = .ok (.iconst 3, 1) := by decide +kernel
theorem dX1_tide_67 : decode cX1_tide 67 = .ok (.iastore, 1) := by decide +kernel
theorem dX1_tide_68 : decode cX1_tide 68 = .ok (.dup, 1) := by decide +kernel
theorem dX1_tide_69 : decode cX1_tide 69 = .ok (.bipush 14, 2) := by decide +kernel
theorem dX1_tide_71 : decode cX1_tide 71 = .ok (.iconst 3, 1) := by decide +kernel
theorem dX1_tide_72 : decode cX1_tide 72 = .ok (.iastore, 1) := by decide +kernel
theorem dX1_tide_73 : decode cX1_tide 73 = .ok (.dup, 1) := by decide +kernel
theorem dX1_tide_74 : decode cX1_tide 74 = .ok (.bipush 15, 2) := by decide +kernel
theorem dX1_tide_76 : decode cX1_tide 76 = .ok (.iconst 3, 1) := by decide +kernel
theorem dX1_tide_77 : decode cX1_tide 77 = .ok (.iastore, 1) := by decide +kernel
theorem dX1_tide_78 : decode cX1_tide 78 = .ok (.dup, 1) := by decide +kernel
theorem dX1_tide_79 : decode cX1_tide 79 = .ok (.bipush 16, 2) := by decide +kernel
theorem dX1_tide_81 : decode cX1_tide 81 = .ok (.iconst 4, 1) := by decide +kernel
theorem dX1_tide_82 : decode cX1_tide 82 = .ok (.iastore, 1) := by decide +kernel
theorem dX1_tide_83 : decode cX1_tide 83 = .ok (.dup, 1) := by decide +kernel
theorem dX1_tide_84 : decode cX1_tide 84 = .ok (.bipush 17, 2) := by decide +kernel
theorem dX1_tide_86 : decode cX1_tide 86 = .ok (.iconst 4, 1) := by decide +kernel
theorem dX1_tide_87 : decode cX1_tide 87 = .ok (.iastore, 1) := by decide +kernel
theorem dX1_tide_88 : decode cX1_tide 88 = .ok (.dup, 1) := by decide +kernel
theorem dX1_tide_89 : decode cX1_tide 89 = .ok (.bipush 18, 2) := by decide +kernel
theorem dX1_tide_91 : decode cX1_tide 91 = .ok (.iconst 4, 1) := by decide +kernel
theorem dX1_tide_92 : decode cX1_tide 92 = .ok (.iastore, 1) := by decide +kernel
theorem dX1_tide_93 : decode cX1_tide 93 = .ok (.dup, 1) := by decide +kernel
theorem dX1_tide_94 : decode cX1_tide 94 = .ok (.bipush 19, 2) := by decide +kernel
theorem dX1_tide_96 : decode cX1_tide 96 = .ok (.iconst 4, 1) := by decide +kernel
theorem dX1_tide_97 : decode cX1_tide 97 = .ok (.iastore, 1) := by decide +kernel
theorem dX1_tide_98 : decode cX1_tide 98 = .ok (.astore_n 1, 1) := by decide +kernel
theorem dX1_tide_99 : decode cX1_tide 99 = .ok (.iload_n 0, 1) := by decide +kernel
theorem dX1_tide_100 : decode cX1_tide 100 = .ok (.bipush 40, 2) := by decide +kernel
theorem dX1_tide_102 : decode cX1_tide 102 = .ok (.irem, 1) := by decide +kernel
theorem dX1_tide_103 : decode cX1_tide 103 = .ok (.istore_n 2, 1) := by decide +kernel
theorem dX1_tide_104 : decode cX1_tide 104 = .ok (.iload_n 2, 1) := by decide +kernel
theorem dX1_tide_105 : decode cX1_tide 105 = .ok (.bipush 20, 2) := by decide +kernel
theorem dX1_tide_107 : decode cX1_tide 107 = .ok (.if_icmp .ge 9, 3) := by decide +kernel
theorem dX1_tide_110 : decode cX1_tide 110 = .ok (.aload_n 1, 1) := by decide +kernel
theorem dX1_tide_111 : decode cX1_tide 111 = .ok (.iload_n 2, 1) := by decide +kernel
theorem dX1_tide_112 : decode cX1_tide 112 = .ok (.iaload, 1) := by decide +kernel
theorem dX1_tide_113 : decode cX1_tide 113 = .ok (.goto 9, 3) := by decide +kernel
theorem dX1_tide_116 : decode cX1_tide 116 = .ok (.aload_n 1, 1) := by decide +kernel
theorem dX1_tide_117 : decode cX1_tide 117 = .ok (.bipush 39, 2) := by decide +kernel
theorem dX1_tide_119 : decode cX1_tide 119 = .ok (.iload_n 2, 1) := by decide +kernel
theorem dX1_tide_120 : decode cX1_tide 120 = .ok (.isub, 1) := by decide +kernel
theorem dX1_tide_121 : decode cX1_tide 121 = .ok (.iaload, 1) := by decide +kernel
theorem dX1_tide_122 : decode cX1_tide 122 = .ok (.ireturn, 1) := by decide +kernel
set_option maxRecDepth 20000 in
theorem ggX1_isAt_X1_tide : GoodIn wsX1_isAt wsX1_tide := goodIn_r _ [6, 7] (by decide +kernel) (by decide +kernel)
set_option maxRecDepth 20000 in
theorem gX1_isAt_X1_tide : GoodIn wsX1_isAt (va_wsS RX1 21 yX1_tide wsX1_tide) := goodIn_app (goodIn_of _ (by decide +kernel)) ggX1_isAt_X1_tide
theorem dX1_isAt_0 : decode cX1_isAt 0 = .ok (.iload_n 3, 1) := by decide +kernel
theorem dX1_isAt_1 : decode cX1_isAt 1 = .ok (.aload_n 0, 1) := by decide +kernel
theorem dX1_isAt_2 : decode cX1_isAt 2 = .ok (.getfield 9, 3) := by decide +kernel
theorem dX1_isAt_5 : decode cX1_isAt 5 = .ok (.iload_n 1, 1) := by decide +kernel
theorem dX1_isAt_6 : decode cX1_isAt 6 = .ok (.aaload, 1) := by decide +kernel
theorem dX1_isAt_7 : decode cX1_isAt 7 = .ok (.iconst 1, 1) := by decide +kernel
theorem dX1_isAt_8 : decode cX1_isAt 8 = .ok (.iaload, 1) := by decide +kernel
theorem dX1_isAt_9 : decode cX1_isAt 9 = .ok (.iadd, 1) := by decide +kernel
theorem dX1_isAt_10 : decode cX1_isAt 10 = .ok (.bipush 34, 2) := by decide +kernel
theorem dX1_isAt_12 : decode cX1_isAt 12 = .ok (.iload_n 2, 1) := by decide +kernel
theorem dX1_isAt_13 : decode cX1_isAt 13 = .ok (.invokestatic 21, 3) := by decide +kernel
theorem dX1_isAt_16 : decode cX1_isAt 16 = .ok (.iadd, 1) := by decide +kernel
theorem dX1_isAt_17 : decode cX1_isAt 17 = .ok (.aload_n 0, 1) := by decide +kernel
theorem dX1_isAt_18 : decode cX1_isAt 18 = .ok (.getfield 25, 3) := by decide +kernel
theorem dX1_isAt_21 : decode cX1_isAt 21 = .ok (.iadd, 1) := by decide +kernel
theorem dX1_isAt_22 : decode cX1_isAt 22 = .ok (.if_icmp .ge 23, 3) := by decide +kernel
theorem dX1_isAt_25 : decode cX1_isAt 25 = .ok (.iload_n 3, 1) := by decide +kernel
theorem dX1_isAt_26 : decode cX1_isAt 26 = .ok (.aload_n 0, 1) := by decide +kernel
theorem dX1_isAt_27 : decode cX1_isAt 27 = .ok (.getfield 9, 3) := by decide +kernel
theorem dX1_isAt_30 : decode cX1_isAt 30 = .ok (.iload_n 1, 1) := by decide +kernel
theorem dX1_isAt_31 : decode cX1_isAt 31 = .ok (.aaload, 1) := by decide +kernel
theorem dX1_isAt_32 : decode cX1_isAt 32 = .ok (.iconst 2, 1) := by decide +kernel
theorem dX1_isAt_33 : decode cX1_isAt 33 = .ok (.iaload, 1) := by decide +kernel
theorem dX1_isAt_34 : decode cX1_isAt 34 = .ok (.isub, 1) := by decide +kernel
theorem dX1_isAt_35 : decode cX1_isAt 35 = .ok (.bipush 14, 2) := by decide +kernel
theorem dX1_isAt_37 : decode cX1_isAt 37 = .ok (.iload_n 2, 1) := by decide +kernel
theorem dX1_isAt_38 : decode cX1_isAt 38 = .ok (.invokestatic 21, 3) := by decide +kernel
theorem dX1_isAt_41 : decode cX1_isAt 41 = .ok (.isub, 1) := by decide +kernel
theorem dX1_isAt_42 : decode cX1_isAt 42 = .ok (.if_icmp .ge 7, 3) := by decide +kernel
theorem dX1_isAt_45 : decode cX1_isAt 45 = .ok (.iconst 1, 1) := by decide +kernel
theorem dX1_isAt_46 : decode cX1_isAt 46 = .ok (.goto 4, 3) := by decide +kernel
theorem dX1_isAt_49 : decode cX1_isAt 49 = .ok (.iconst 0, 1) := by decide +kernel
theorem dX1_isAt_50 : decode cX1_isAt 50 = .ok (.ireturn, 1) := by decide +kernel
set_option maxRecDepth 20000 in
theorem ggX1_isOn_X1_isAt : GoodIn wsX1_isOn wsX1_isAt := goodIn_r _ [8, 1, 9, 10, 11, 7, 12, 13, 14, 15, 16, 17, 18, 19, 20, 21, 22] (by decide +kernel) (by decide +kernel)
set_option maxRecDepth 20000 in
theorem gX1_isOn_X1_isAt : GoodIn wsX1_isOn (wsV RX1 35 RX1 yX1_isAt wsX1_isAt) := goodIn_app (goodIn_of _ (by decide +kernel)) ggX1_isOn_X1_isAt
theorem dX1_isOn_0 : decode cX1_isOn 0 = .ok (.aload_n 0, 1) := by decide +kernel
theorem dX1_isOn_1 : decode cX1_isOn 1 = .ok (.getfield 9, 3) := by decide +kernel
theorem dX1_isOn_4 : decode cX1_isOn 4 = .ok (.iload_n 1, 1) := by decide +kernel
theorem dX1_isOn_5 : decode cX1_isOn 5 = .ok (.aaload, 1) := by decide +kernel
theorem dX1_isOn_6 : decode cX1_isOn 6 = .ok (.iconst 4, 1) := by decide +kernel
theorem dX1_isOn_7 : decode cX1_isOn 7 = .ok (.iaload, 1) := by decide +kernel
theorem dX1_isOn_8 : decode cX1_isOn 8 = .ok (.iconst 1, 1) := by decide +kernel
theorem dX1_isOn_9 : decode cX1_isOn 9 = .ok (.if_icmp .ne 23, 3) := by decide +kernel
theorem dX1_isOn_12 : decode cX1_isOn 12 = .ok (.aload_n 0, 1) := by decide +kernel
theorem dX1_isOn_13 : decode cX1_isOn 13 = .ok (.iload_n 1, 1) := by decide +kernel
theorem dX1_isOn_14 : decode cX1_isOn 14 = .ok (.aload_n 0, 1) := by decide +kernel
theorem dX1_isOn_15 : decode cX1_isOn 15 = .ok (.getfield 29, 3) := by decide +kernel
theorem dX1_isOn_18 : decode cX1_isOn 18 = .ok (.aload_n 0, 1) := by decide +kernel
theorem dX1_isOn_19 : decode cX1_isOn 19 = .ok (.getfield 32, 3) := by decide +kernel
theorem dX1_isOn_22 : decode cX1_isOn 22 = .ok (.invokevirtual 35, 3) := by decide +kernel
theorem dX1_isOn_25 : decode cX1_isOn 25 = .ok (.ifCond .eq 7, 3) := by decide +kernel
theorem dX1_isOn_28 : decode cX1_isOn 28 = .ok (.iconst 1, 1) := by decide +kernel
theorem dX1_isOn_29 : decode cX1_isOn 29 = .ok (.goto 4, 3) := by decide +kernel
theorem dX1_isOn_32 : decode cX1_isOn 32 = .ok (.iconst 0, 1) := by decide +kernel
theorem dX1_isOn_33 : decode cX1_isOn 33 = .ok (.ireturn, 1) := by decide +kernel
set_option maxRecDepth 20000 in
theorem ggX1_pass_X1_isOn : GoodIn wsX1_pass wsX1_isOn := goodIn_r _ [9, 10, 4, 3, 11, 12, 13, 8, 14, 15, 16, 17, 18, 19, 20, 21, 22, 23, 24, 25, 26, 27, 28] (by decide +kernel) (by decide +kernel)
set_option maxRecDepth 20000 in
theorem gX1_pass_X1_isOn : GoodIn wsX1_pass (wsV RX1 39 RX1 yX1_isOn wsX1_isOn) := goodIn_app (goodIn_of _ (by decide +kernel)) ggX1_pass_X1_isOn
theorem dX1_pass_0 : decode cX1_pass 0 = .ok (.aload_n 0, 1) := by decide +kernel
theorem dX1_pass_1 : decode cX1_pass 1 = .ok (.getfield 43, 3) := by decide +kernel
theorem dX1_pass_4 : decode cX1_pass 4 = .ok (.newarray .boolean, 2) := by decide +kernel
theorem dX1_pass_6 : decode cX1_pass 6 = .ok (.astore_n 1, 1) := by decide +kernel
theorem dX1_pass_7 : decode cX1_pass 7 = .ok (.iconst 0, 1) := by decide +kernel
theorem dX1_pass_8 : decode cX1_pass 8 = .ok (.istore_n 2, 1) := by decide +kernel
theorem dX1_pass_9 : decode cX1_pass 9 = .ok (.iload_n 2, 1) := by decide +kernel
theorem dX1_pass_10 : decode cX1_pass 10 = .ok (.aload_n 0, 1) := by decide +kernel
theorem dX1_pass_11 : decode cX1_pass 11 = .ok (.getfield 43, 3) := by decide +kernel
theorem dX1_pass_14 : decode cX1_pass 14 = .ok (.if_icmp .ge 17, 3) := by decide +kernel
theorem dX1_pass_17 : decode cX1_pass 17 = .ok (.aload_n 1, 1) := by decide +kernel
theorem dX1_pass_18 : decode cX1_pass 18 = .ok (.iload_n 2, 1) := by decide +kernel
theorem dX1_pass_19 : decode cX1_pass 19 = .ok (.aload_n 0, 1) := by decide +kernel
theorem dX1_pass_20 : decode cX1_pass 20 = .ok (.iload_n 2, 1) := by decide +kernel
theorem dX1_pass_21 : decode cX1_pass 21 = .ok (.invokevirtual 39, 3) := by decide +kernel
theorem dX1_pass_24 : decode cX1_pass 24 = .ok (.bastore, 1) := by decide +kernel
theorem dX1_pass_25 : decode cX1_pass 25 = .ok (.iinc 2 1, 3) := by decide +kernel
theorem dX1_pass_28 : decode cX1_pass 28 = .ok (.goto (-19), 3) := by decide +kernel
theorem dX1_pass_31 : decode cX1_pass 31 = .ok (.aload_n 0, 1) := by decide +kernel
theorem dX1_pass_32 : decode cX1_pass 32 = .ok (.dup, 1) := by decide +kernel
theorem dX1_pass_33 : decode cX1_pass 33 = .ok (.getfield 32, 3) := by decide +kernel
theorem dX1_pass_36 : decode cX1_pass 36 = .ok (.iconst 1, 1) := by decide +kernel
theorem dX1_pass_37 : decode cX1_pass 37 = .ok (.iadd, 1) := by decide +kernel
theorem dX1_pass_38 : decode cX1_pass 38 = .ok (.putfield 32, 3) := by decide +kernel
theorem dX1_pass_41 : decode cX1_pass 41 = .ok (.aload_n 0, 1) := by decide +kernel
theorem dX1_pass_42 : decode cX1_pass 42 = .ok (.getfield 32, 3) := by decide +kernel
theorem dX1_pass_45 : decode cX1_pass 45 = .ok (.bipush 48, 2) := by decide +kernel
theorem dX1_pass_47 : decode cX1_pass 47 = .ok (.if_icmp .ne 18, 3) := by decide +kernel
theorem dX1_pass_50 : decode cX1_pass 50 = .ok (.aload_n 0, 1) := by decide +kernel
theorem dX1_pass_51 : decode cX1_pass 51 = .ok (.iconst 0, 1) := by decide +kernel
theorem dX1_pass_52 : decode cX1_pass 52 = .ok (.putfield 32, 3) := by decide +kernel
theorem dX1_pass_55 : decode cX1_pass 55 = .ok (.aload_n 0, 1) := by decide +kernel
theorem dX1_pass_56 : decode cX1_pass 56 = .ok (.dup, 1) := by decide +kernel
theorem dX1_pass_57 : decode cX1_pass 57 = .ok (.getfield 29, 3) := by decide +kernel
theorem dX1_pass_60 : decode cX1_pass 60 = .ok (.iconst 1, 1) := by decide +kernel
theorem dX1_pass_61 : decode cX1_pass 61 = .ok (.iadd, 1) := by decide +kernel
theorem dX1_pass_62 : decode cX1_pass 62 = .ok (.putfield 29, 3) := by decide +kernel
theorem dX1_pass_65 : decode cX1_pass 65 = .ok (.iconst 0, 1) := by decide +kernel
theorem dX1_pass_66 : decode cX1_pass 66 = .ok (.istore_n 2, 1) := by decide +kernel
theorem dX1_pass_67 : decode cX1_pass 67 = .ok (.iconst 0, 1) := by decide +kernel
theorem dX1_pass_68 : decode cX1_pass 68 = .ok (.istore_n 3, 1) := by decide +kernel
theorem dX1_pass_69 : decode cX1_pass 69 = .ok (.iload_n 3, 1) := by decide +kernel
theorem dX1_pass_70 : decode cX1_pass 70 = .ok (.aload_n 0, 1) := by decide +kernel
theorem dX1_pass_71 : decode cX1_pass 71 = .ok (.getfield 43, 3) := by decide +kernel
theorem dX1_pass_74 : decode cX1_pass 74 = .ok (.if_icmp .ge 31, 3) := by decide +kernel
theorem dX1_pass_77 : decode cX1_pass 77 = .ok (.iload_n 2, 1) := by decide +kernel
theorem dX1_pass_78 : decode cX1_pass 78 = .ok (.aload_n 0, 1) := by decide +kernel
theorem dX1_pass_79 : decode cX1_pass 79 = .ok (.iload_n 3, 1) := by decide +kernel
theorem dX1_pass_80 : decode cX1_pass 80 = .ok (.invokevirtual 39, 3) := by decide +kernel
theorem dX1_pass_83 : decode cX1_pass 83 = .ok (.ifCond .eq 13, 3) := by decide +kernel
theorem dX1_pass_86 : decode cX1_pass 86 = .ok (.aload_n 1, 1) := by decide +kernel
theorem dX1_pass_87 : decode cX1_pass 87 = .ok (.iload_n 3, 1) := by decide +kernel
theorem dX1_pass_88 : decode cX1_pass 88 = .ok (.baload, 1) := by decide +kernel
theorem dX1_pass_89 : decode cX1_pass 89 = .ok (.ifCond .ne 7, 3) := by decide +kernel
theorem dX1_pass_92 : decode cX1_pass 92 = .ok (.iconst 1, 1) := by decide +kernel
theorem dX1_pass_93 : decode cX1_pass 93 = .ok (.goto 4, 3) := by decide +kernel
theorem dX1_pass_96 : decode cX1_pass 96 = .ok (.iconst 0, 1) := by decide +kernel
theorem dX1_pass_97 : decode cX1_pass 97 = .ok (.iadd, 1) := by decide +kernel
theorem dX1_pass_98 : decode cX1_pass 98 = .ok (.istore_n 2, 1) := by decide +kernel
theorem dX1_pass_99 : decode cX1_pass 99 = .ok (.iinc 3 1, 3) := by decide +kernel
theorem dX1_pass_102 : decode cX1_pass 102 = .ok (.goto (-33), 3) := by decide +kernel
theorem dX1_pass_105 : decode cX1_pass 105 = .ok (.iload_n 2, 1) := by decide +kernel
theorem dX1_pass_106 : decode cX1_pass 106 = .ok (.ireturn, 1) := by decide +kernel
end
section
theorem dL_below_0 : decode cL_below 0 = .ok (.iload_n 0, 1) := by decide +kernel
theorem dL_below_1 : decode cL_below 1 = .ok (.ldc 7, 2) := by decide +kernel
theorem dL_below_3 : decode cL_below 3 = .ok (.iand, 1) := by decide +kernel
theorem dL_below_4 : decode cL_below 4 = .ok (.iload_n 1, 1) := by decide +kernel
theorem dL_below_5 : decode cL_below 5 = .ok (.irem, 1) := by decide +kernel
theorem dL_below_6 : decode cL_below 6 = .ok (.ireturn, 1) := by decide +kernel
theorem dL_cell_0 : decode cL_cell 0 = .ok (.iload_n 1, 1) := by decide +kernel
theorem dL_cell_1 : decode cL_cell 1 = .ok (.aload_n 0, 1) := by decide +kernel
theorem dL_cell_2 : decode cL_cell 2 = .ok (.arraylength, 1) := by decide +kernel
theorem dL_cell_3 : decode cL_cell 3 = .ok (.if_icmp .ge 9, 3) := by decide +kernel
theorem dL_cell_6 : decode cL_cell 6 = .ok (.aload_n 0, 1) := by decide +kernel
theorem dL_cell_7 : decode cL_cell 7 = .ok (.iload_n 1, 1) := by decide +kernel
theorem dL_cell_8 : decode cL_cell 8 = .ok (.iaload, 1) := by decide +kernel
theorem dL_cell_9 : decode cL_cell 9 = .ok (.goto 9, 3) := by decide +kernel
theorem dL_cell_12 : decode cL_cell 12 = .ok (.ldc 8, 2) := by decide +kernel
theorem dL_cell_14 : decode cL_cell 14 = .ok (.iload_n 1, 1) := by decide +kernel
theorem dL_cell_15 : decode cL_cell 15 = .ok (.iconst 3, 1) := by decide +kernel
theorem dL_cell_16 : decode cL_cell 16 = .ok (.iadd, 1) := by decide +kernel
theorem dL_cell_17 : decode cL_cell 17 = .ok (.imul, 1) := by decide +kernel
theorem dL_cell_18 : decode cL_cell 18 = .ok (.ireturn, 1) := by decide +kernel
set_option maxRecDepth 20000 in
theorem ggL_act_L_below : GoodIn wsL_act wsL_below := goodIn_r _ [15, 16] (by decide +kernel) (by decide +kernel)
set_option maxRecDepth 20000 in
theorem gL_act_L_below : GoodIn wsL_act (va_wsS RL 9 yL_below wsL_below) := goodIn_app (goodIn_of _ (by decide +kernel)) ggL_act_L_below
set_option maxRecDepth 20000 in
theorem ggL_act_X0_addQuarter : GoodIn wsL_act wsX0_addQuarter := goodIn_ca (goodIn_r _ [21, 22, 23, 24, 185, 186, 187, 188, 189, 190, 191, 192, 193, 194, 195, 196, 197, 198, 199, 200] (by decide +kernel) (by decide +kernel)) (goodIn_sub (fun _ h => List.mem_cons_of_mem _ (List.mem_append_left _ (List.mem_append_left _ (List.mem_append_right _ h)))) (by decide +kernel))
set_option maxRecDepth 20000 in
theorem gL_act_X0_addQuarter : GoodIn wsL_act (wsV RL 21 RX0 yX0_addQuarter wsX0_addQuarter) := goodIn_app (goodIn_of _ (by decide +kernel)) ggL_act_X0_addQuarter
set_option maxRecDepth 20000 in
theorem ggL_act_X0_addPerson : GoodIn wsL_act wsX0_addPerson := goodIn_ca (goodIn_ca (goodIn_r _ [28, 22, 23, 29, 30, 31, 32, 20, 33, 34, 35, 185, 186, 187, 188, 189, 190, 191, 192, 193, 194, 195, 196, 197, 198, 199, 200] (by decide +kernel) (by decide +kernel)) (goodIn_sub (fun _ h => List.mem_cons_of_mem _ (List.mem_append_left _ (List.mem_append_left _ (List.mem_append_right _ h)))) (by decide +kernel))) (goodIn_sub (fun _ h => List.mem_cons_of_mem _ (List.mem_append_left _ (List.mem_append_right _ h))) (by decide +kernel))
set_option maxRecDepth 20000 in
theorem gL_act_X0_addPerson : GoodIn wsL_act (wsV RL 34 RX0 yX0_addPerson wsX0_addPerson) := goodIn_app (goodIn_of _ (by decide +kernel)) ggL_act_X0_addPerson
set_option maxRecDepth 20000 in
theorem ggL_act_X0_addOrder : GoodIn wsL_act wsX0_addOrder := goodIn_ca (goodIn_ca (goodIn_ca (goodIn_r _ [39, 22, 23, 40, 41, 42, 43, 44, 45, 46, 47, 48, 20, 49, 34, 35, 24, 50, 51, 52, 53, 54, 55, 56, 57, 185, 186, 187, 188, 189, 190, 191, 192, 193, 194, 195, 196, 197, 198, 199, 200] (by decide +kernel) (by decide +kernel)) (goodIn_sub (fun _ h => List.mem_cons_of_mem _ (List.mem_append_left _ (List.mem_append_left _ (List.mem_append_right _ h)))) (by decide +kernel))) (goodIn_sub (fun _ h => List.mem_cons_of_mem _ (List.mem_append_left _ (List.mem_append_right _ h))) (by decide +kernel))) (goodIn_sub (fun _ h => List.mem_cons_of_mem _ (List.mem_append_right _ h)) (by decide +kernel))
set_option maxRecDepth 20000 in
theorem gL_act_X0_addOrder : GoodIn wsL_act (wsV RL 44 RX0 yX0_addOrder wsX0_addOrder) := goodIn_app (goodIn_of _ (by decide +kernel)) ggL_act_X0_addOrder
set_option maxRecDepth 20000 in
theorem ggL_act_X1_pass : GoodIn wsL_act wsX1_pass := goodIn_r _ [162, 102, 163, 114, 113, 109, 110, 111, 100, 112, 103, 115, 116, 117, 118, 119, 120, 121, 122, 123, 176, 177, 178, 179, 180, 181, 182, 183, 184] (by decide +kernel) (by decide +kernel)
set_option maxRecDepth 20000 in
theorem gL_act_X1_pass : GoodIn wsL_act (wsV RL 88 RX1 yX1_pass wsX1_pass) := goodIn_app (goodIn_of _ (by decide +kernel)) ggL_act_X1_pass
set_option maxRecDepth 20000 in
theorem ggL_act_X0_pass : GoodIn wsL_act wsX0_pass := goodIn_ca (goodIn_r _ [167, 40, 129, 53, 54, 20, 55, 56, 57, 168, 169, 170, 171, 172, 173, 174, 175, 45, 134, 135, 136, 137, 42, 43, 138, 139, 140, 141, 79, 142, 143, 144, 145, 146, 147, 185, 186, 187, 188, 189, 190, 191, 192, 193, 194, 195, 196, 197, 198, 199, 200] (by decide +kernel) (by decide +kernel)) (goodIn_sub (fun _ h => List.mem_cons_of_mem _ (List.mem_append_right _ h)) (by decide +kernel))
set_option maxRecDepth 20000 in
theorem gL_act_X0_pass : GoodIn wsL_act (wsV RL 91 RX0 yX0_pass wsX0_pass) := goodIn_app (goodIn_of _ (by decide +kernel)) ggL_act_X0_pass
theorem dL_act_0 : decode cL_act 0 = .ok (.iload_n 2, 1) := by decide +kernel
theorem dL_act_1 : decode cL_act 1 = .ok (.bipush 9, 2) := by decide +kernel
theorem dL_act_3 : decode cL_act 3 = .ok (.ishr, 1) := by decide +kernel
theorem dL_act_4 : decode cL_act 4 = .ok (.bipush 24, 2) := by decide +kernel
theorem dL_act_6 : decode cL_act 6 = .ok (.invokestatic 9, 3) := by decide +kernel
theorem dL_act_9 : decode cL_act 9 = .ok (.istore_n 3, 1) := by decide +kernel
theorem dL_act_10 : decode cL_act 10 = .ok (.aload_n 1, 1) := by decide +kernel
theorem dL_act_11 : decode cL_act 11 = .ok (.getfield 15, 3) := by decide +kernel
theorem dL_act_14 : decode cL_act 14 = .ok (.ifCond .eq 7, 3) := by decide +kernel
theorem dL_act_17 : decode cL_act 17 = .ok (.iload_n 3, 1) := by decide +kernel
theorem dL_act_18 : decode cL_act 18 = .ok (.ifCond .ne 43, 3) := by decide +kernel
theorem dL_act_21 : decode cL_act 21 = .ok (.aload_n 1, 1) := by decide +kernel
theorem dL_act_22 : decode cL_act 22 = .ok (.getfield 15, 3) := by decide +kernel
theorem dL_act_25 : decode cL_act 25 = .ok (.bipush 6, 2) := by decide +kernel
theorem dL_act_27 : decode cL_act 27 = .ok (.if_icmp .ne 5, 3) := by decide +kernel
theorem dL_act_30 : decode cL_act 30 = .ok (.iconst 1, 1) := by decide +kernel
theorem dL_act_31 : decode cL_act 31 = .ok (.ireturn, 1) := by decide +kernel
theorem dL_act_32 : decode cL_act 32 = .ok (.aload_n 1, 1) := by decide +kernel
theorem dL_act_33 : decode cL_act 33 = .ok (.dup, 1) := by decide +kernel
theorem dL_act_34 : decode cL_act 34 = .ok (.getfield 15, 3) := by decide +kernel
theorem dL_act_37 : decode cL_act 37 = .ok (.iconst 1, 1) := by decide +kernel
theorem dL_act_38 : decode cL_act 38 = .ok (.iadd, 1) := by decide +kernel
theorem dL_act_39 : decode cL_act 39 = .ok (.putfield 15, 3) := by decide +kernel
theorem dL_act_42 : decode cL_act 42 = .ok (.aload_n 0, 1) := by decide +kernel
theorem dL_act_43 : decode cL_act 43 = .ok (.invokevirtual 21, 3) := by decide +kernel
theorem dL_act_46 : decode cL_act 46 = .ok (.aload_n 1, 1) := by decide +kernel
theorem dL_act_47 : decode cL_act 47 = .ok (.getfield 15, 3) := by decide +kernel
theorem dL_act_50 : decode cL_act 50 = .ok (.iconst 1, 1) := by decide +kernel
theorem dL_act_51 : decode cL_act 51 = .ok (.isub, 1) := by decide +kernel
theorem dL_act_52 : decode cL_act 52 = .ok (.if_icmp .ne 7, 3) := by decide +kernel
theorem dL_act_55 : decode cL_act 55 = .ok (.iconst 1, 1) := by decide +kernel
theorem dL_act_56 : decode cL_act 56 = .ok (.goto 4, 3) := by decide +kernel
theorem dL_act_59 : decode cL_act 59 = .ok (.iconst 0, 1) := by decide +kernel
theorem dL_act_60 : decode cL_act 60 = .ok (.ireturn, 1) := by decide +kernel
theorem dL_act_61 : decode cL_act 61 = .ok (.iload_n 2, 1) := by decide +kernel
theorem dL_act_62 : decode cL_act 62 = .ok (.iconst 1, 1) := by decide +kernel
theorem dL_act_63 : decode cL_act 63 = .ok (.ishr, 1) := by decide +kernel
theorem dL_act_64 : decode cL_act 64 = .ok (.aload_n 1, 1) := by decide +kernel
theorem dL_act_65 : decode cL_act 65 = .ok (.getfield 15, 3) := by decide +kernel
theorem dL_act_68 : decode cL_act 68 = .ok (.invokestatic 9, 3) := by decide +kernel
theorem dL_act_71 : decode cL_act 71 = .ok (.istore 4, 2) := by decide +kernel
theorem dL_act_73 : decode cL_act 73 = .ok (.iload_n 3, 1) := by decide +kernel
theorem dL_act_74 : decode cL_act 74 = .ok (.iconst 4, 1) := by decide +kernel
theorem dL_act_75 : decode cL_act 75 = .ok (.if_icmp .lt 10, 3) := by decide +kernel
theorem dL_act_78 : decode cL_act 78 = .ok (.aload_n 1, 1) := by decide +kernel
theorem dL_act_79 : decode cL_act 79 = .ok (.getfield 27, 3) := by decide +kernel
theorem dL_act_82 : decode cL_act 82 = .ok (.ifCond .ne 75, 3) := by decide +kernel
theorem dL_act_85 : decode cL_act 85 = .ok (.aload_n 1, 1) := by decide +kernel
theorem dL_act_86 : decode cL_act 86 = .ok (.getfield 27, 3) := by decide +kernel
theorem dL_act_89 : decode cL_act 89 = .ok (.bipush 20, 2) := by decide +kernel
theorem dL_act_91 : decode cL_act 91 = .ok (.if_icmp .ne 5, 3) := by decide +kernel
theorem dL_act_94 : decode cL_act 94 = .ok (.iconst 1, 1) := by decide +kernel
theorem dL_act_95 : decode cL_act 95 = .ok (.ireturn, 1) := by decide +kernel
theorem dL_act_96 : decode cL_act 96 = .ok (.aload_n 1, 1) := by decide +kernel
theorem dL_act_97 : decode cL_act 97 = .ok (.getfield 30, 3) := by decide +kernel
theorem dL_act_100 : decode cL_act 100 = .ok (.aload_n 1, 1) := by decide +kernel
theorem dL_act_101 : decode cL_act 101 = .ok (.getfield 27, 3) := by decide +kernel
theorem dL_act_104 : decode cL_act 104 = .ok (.aaload, 1) := by decide +kernel
theorem dL_act_105 : decode cL_act 105 = .ok (.iconst 0, 1) := by decide +kernel
theorem dL_act_106 : decode cL_act 106 = .ok (.iload_n 2, 1) := by decide +kernel
theorem dL_act_107 : decode cL_act 107 = .ok (.iconst 3, 1) := by decide +kernel
theorem dL_act_108 : decode cL_act 108 = .ok (.ishr, 1) := by decide +kernel
theorem dL_act_109 : decode cL_act 109 = .ok (.bipush 8, 2) := by decide +kernel
theorem dL_act_111 : decode cL_act 111 = .ok (.invokestatic 9, 3) := by decide +kernel
theorem dL_act_114 : decode cL_act 114 = .ok (.iastore, 1) := by decide +kernel
theorem dL_act_115 : decode cL_act 115 = .ok (.aload_n 1, 1) := by decide +kernel
theorem dL_act_116 : decode cL_act 116 = .ok (.dup, 1) := by decide +kernel
theorem dL_act_117 : decode cL_act 117 = .ok (.getfield 27, 3) := by decide +kernel
theorem dL_act_120 : decode cL_act 120 = .ok (.iconst 1, 1) := by decide +kernel
theorem dL_act_121 : decode cL_act 121 = .ok (.iadd, 1) := by decide +kernel
theorem dL_act_122 : decode cL_act 122 = .ok (.putfield 27, 3) := by decide +kernel
theorem dL_act_125 : decode cL_act 125 = .ok (.aload_n 0, 1) := by decide +kernel
theorem dL_act_126 : decode cL_act 126 = .ok (.aload_n 1, 1) := by decide +kernel
theorem dL_act_127 : decode cL_act 127 = .ok (.getfield 30, 3) := by decide +kernel
theorem dL_act_130 : decode cL_act 130 = .ok (.aload_n 1, 1) := by decide +kernel
theorem dL_act_131 : decode cL_act 131 = .ok (.getfield 27, 3) := by decide +kernel
theorem dL_act_134 : decode cL_act 134 = .ok (.iconst 1, 1) := by decide +kernel
theorem dL_act_135 : decode cL_act 135 = .ok (.isub, 1) := by decide +kernel
theorem dL_act_136 : decode cL_act 136 = .ok (.aaload, 1) := by decide +kernel
theorem dL_act_137 : decode cL_act 137 = .ok (.iconst 0, 1) := by decide +kernel
theorem dL_act_138 : decode cL_act 138 = .ok (.iaload, 1) := by decide +kernel
theorem dL_act_139 : decode cL_act 139 = .ok (.invokevirtual 34, 3) := by decide +kernel
theorem dL_act_142 : decode cL_act 142 = .ok (.aload_n 1, 1) := by decide +kernel
theorem dL_act_143 : decode cL_act 143 = .ok (.getfield 27, 3) := by decide +kernel
theorem dL_act_146 : decode cL_act 146 = .ok (.iconst 1, 1) := by decide +kernel
theorem dL_act_147 : decode cL_act 147 = .ok (.isub, 1) := by decide +kernel
theorem dL_act_148 : decode cL_act 148 = .ok (.if_icmp .ne 7, 3) := by decide +kernel
theorem dL_act_151 : decode cL_act 151 = .ok (.iconst 1, 1) := by decide +kernel
theorem dL_act_152 : decode cL_act 152 = .ok (.goto 4, 3) := by decide +kernel
theorem dL_act_155 : decode cL_act 155 = .ok (.iconst 0, 1) := by decide +kernel
theorem dL_act_156 : decode cL_act 156 = .ok (.ireturn, 1) := by decide +kernel
theorem dL_act_157 : decode cL_act 157 = .ok (.iload_n 2, 1) := by decide +kernel
theorem dL_act_158 : decode cL_act 158 = .ok (.iconst 4, 1) := by decide +kernel
theorem dL_act_159 : decode cL_act 159 = .ok (.ishr, 1) := by decide +kernel
theorem dL_act_160 : decode cL_act 160 = .ok (.aload_n 1, 1) := by decide +kernel
theorem dL_act_161 : decode cL_act 161 = .ok (.getfield 27, 3) := by decide +kernel
theorem dL_act_164 : decode cL_act 164 = .ok (.invokestatic 9, 3) := by decide +kernel
theorem dL_act_167 : decode cL_act 167 = .ok (.istore 5, 2) := by decide +kernel
theorem dL_act_169 : decode cL_act 169 = .ok (.iload_n 2, 1) := by decide +kernel
theorem dL_act_170 : decode cL_act 170 = .ok (.bipush 6, 2) := by decide +kernel
theorem dL_act_172 : decode cL_act 172 = .ok (.ishr, 1) := by decide +kernel
theorem dL_act_173 : decode cL_act 173 = .ok (.iconst 4, 1) := by decide +kernel
theorem dL_act_174 : decode cL_act 174 = .ok (.invokestatic 9, 3) := by decide +kernel
theorem dL_act_177 : decode cL_act 177 = .ok (.istore 6, 2) := by decide +kernel
theorem dL_act_179 : decode cL_act 179 = .ok (.iload_n 3, 1) := by decide +kernel
theorem dL_act_180 : decode cL_act 180 = .ok (.bipush 7, 2) := by decide +kernel
theorem dL_act_182 : decode cL_act 182 = .ok (.if_icmp .lt 10, 3) := by decide +kernel
theorem dL_act_185 : decode cL_act 185 = .ok (.aload_n 1, 1) := by decide +kernel
theorem dL_act_186 : decode cL_act 186 = .ok (.getfield 38, 3) := by decide +kernel
theorem dL_act_189 : decode cL_act 189 = .ok (.ifCond .ne 105, 3) := by decide +kernel
theorem dL_act_192 : decode cL_act 192 = .ok (.aload_n 1, 1) := by decide +kernel
theorem dL_act_193 : decode cL_act 193 = .ok (.getfield 38, 3) := by decide +kernel
theorem dL_act_196 : decode cL_act 196 = .ok (.bipush 10, 2) := by decide +kernel
theorem dL_act_198 : decode cL_act 198 = .ok (.if_icmp .ne 5, 3) := by decide +kernel
theorem dL_act_201 : decode cL_act 201 = .ok (.iconst 1, 1) := by decide +kernel
theorem dL_act_202 : decode cL_act 202 = .ok (.ireturn, 1) := by decide +kernel
theorem dL_act_203 : decode cL_act 203 = .ok (.aload_n 1, 1) := by decide +kernel
theorem dL_act_204 : decode cL_act 204 = .ok (.getfield 41, 3) := by decide +kernel
theorem dL_act_207 : decode cL_act 207 = .ok (.aload_n 1, 1) := by decide +kernel
theorem dL_act_208 : decode cL_act 208 = .ok (.getfield 38, 3) := by decide +kernel
theorem dL_act_211 : decode cL_act 211 = .ok (.aaload, 1) := by decide +kernel
theorem dL_act_212 : decode cL_act 212 = .ok (.astore 7, 2) := by decide +kernel
theorem dL_act_214 : decode cL_act 214 = .ok (.aload 7, 2) := by decide +kernel
theorem dL_act_216 : decode cL_act 216 = .ok (.iconst 0, 1) := by decide +kernel
theorem dL_act_217 : decode cL_act 217 = .ok (.iload 4, 2) := by decide +kernel
theorem dL_act_219 : decode cL_act 219 = .ok (.iastore, 1) := by decide +kernel
theorem dL_act_220 : decode cL_act 220 = .ok (.aload 7, 2) := by decide +kernel
theorem dL_act_222 : decode cL_act 222 = .ok (.iconst 1, 1) := by decide +kernel
theorem dL_act_223 : decode cL_act 223 = .ok (.iload_n 2, 1) := by decide +kernel
theorem dL_act_224 : decode cL_act 224 = .ok (.iconst 2, 1) := by decide +kernel
theorem dL_act_225 : decode cL_act 225 = .ok (.ishr, 1) := by decide +kernel
theorem dL_act_226 : decode cL_act 226 = .ok (.iconst 5, 1) := by decide +kernel
theorem dL_act_227 : decode cL_act 227 = .ok (.invokestatic 9, 3) := by decide +kernel
theorem dL_act_230 : decode cL_act 230 = .ok (.iastore, 1) := by decide +kernel
theorem dL_act_231 : decode cL_act 231 = .ok (.aload 7, 2) := by decide +kernel
theorem dL_act_233 : decode cL_act 233 = .ok (.iconst 2, 1) := by decide +kernel
theorem dL_act_234 : decode cL_act 234 = .ok (.iload_n 2, 1) := by decide +kernel
theorem dL_act_235 : decode cL_act 235 = .ok (.iconst 5, 1) := by decide +kernel
theorem dL_act_236 : decode cL_act 236 = .ok (.ishr, 1) := by decide +kernel
theorem dL_act_237 : decode cL_act 237 = .ok (.iconst 5, 1) := by decide +kernel
theorem dL_act_238 : decode cL_act 238 = .ok (.invokestatic 9, 3) := by decide +kernel
theorem dL_act_241 : decode cL_act 241 = .ok (.iastore, 1) := by decide +kernel
theorem dL_act_242 : decode cL_act 242 = .ok (.aload 7, 2) := by decide +kernel
theorem dL_act_244 : decode cL_act 244 = .ok (.iconst 3, 1) := by decide +kernel
theorem dL_act_245 : decode cL_act 245 = .ok (.iload 6, 2) := by decide +kernel
theorem dL_act_247 : decode cL_act 247 = .ok (.iastore, 1) := by decide +kernel
theorem dL_act_248 : decode cL_act 248 = .ok (.aload 7, 2) := by decide +kernel
theorem dL_act_250 : decode cL_act 250 = .ok (.iconst 4, 1) := by decide +kernel
theorem dL_act_251 : decode cL_act 251 = .ok (.iconst 1, 1) := by decide +kernel
theorem dL_act_252 : decode cL_act 252 = .ok (.iastore, 1) := by decide +kernel
theorem dL_act_253 : decode cL_act 253 = .ok (.aload_n 1, 1) := by decide +kernel
theorem dL_act_254 : decode cL_act 254 = .ok (.dup, 1) := by decide +kernel
theorem dL_act_255 : decode cL_act 255 = .ok (.getfield 38, 3) := by decide +kernel
theorem dL_act_258 : decode cL_act 258 = .ok (.iconst 1, 1) := by decide +kernel
theorem dL_act_259 : decode cL_act 259 = .ok (.iadd, 1) := by decide +kernel
theorem dL_act_260 : decode cL_act 260 = .ok (.putfield 38, 3) := by decide +kernel
theorem dL_act_263 : decode cL_act 263 = .ok (.aload_n 0, 1) := by decide +kernel
theorem dL_act_264 : decode cL_act 264 = .ok (.iload 4, 2) := by decide +kernel
theorem dL_act_266 : decode cL_act 266 = .ok (.aload 7, 2) := by decide +kernel
theorem dL_act_268 : decode cL_act 268 = .ok (.iconst 1, 1) := by decide +kernel
theorem dL_act_269 : decode cL_act 269 = .ok (.iaload, 1) := by decide +kernel
theorem dL_act_270 : decode cL_act 270 = .ok (.aload 7, 2) := by decide +kernel
theorem dL_act_272 : decode cL_act 272 = .ok (.iconst 2, 1) := by decide +kernel
theorem dL_act_273 : decode cL_act 273 = .ok (.iaload, 1) := by decide +kernel
theorem dL_act_274 : decode cL_act 274 = .ok (.iload 6, 2) := by decide +kernel
theorem dL_act_276 : decode cL_act 276 = .ok (.invokevirtual 44, 3) := by decide +kernel
theorem dL_act_279 : decode cL_act 279 = .ok (.aload_n 1, 1) := by decide +kernel
theorem dL_act_280 : decode cL_act 280 = .ok (.getfield 38, 3) := by decide +kernel
theorem dL_act_283 : decode cL_act 283 = .ok (.iconst 1, 1) := by decide +kernel
theorem dL_act_284 : decode cL_act 284 = .ok (.isub, 1) := by decide +kernel
theorem dL_act_285 : decode cL_act 285 = .ok (.if_icmp .ne 7, 3) := by decide +kernel
theorem dL_act_288 : decode cL_act 288 = .ok (.iconst 1, 1) := by decide +kernel
theorem dL_act_289 : decode cL_act 289 = .ok (.goto 4, 3) := by decide +kernel
theorem dL_act_292 : decode cL_act 292 = .ok (.iconst 0, 1) := by decide +kernel
theorem dL_act_293 : decode cL_act 293 = .ok (.ireturn, 1) := by decide +kernel
theorem dL_act_294 : decode cL_act 294 = .ok (.iload_n 2, 1) := by decide +kernel
theorem dL_act_295 : decode cL_act 295 = .ok (.iconst 2, 1) := by decide +kernel
theorem dL_act_296 : decode cL_act 296 = .ok (.ishr, 1) := by decide +kernel
theorem dL_act_297 : decode cL_act 297 = .ok (.aload_n 1, 1) := by decide +kernel
theorem dL_act_298 : decode cL_act 298 = .ok (.getfield 38, 3) := by decide +kernel
theorem dL_act_301 : decode cL_act 301 = .ok (.invokestatic 9, 3) := by decide +kernel
theorem dL_act_304 : decode cL_act 304 = .ok (.istore 7, 2) := by decide +kernel
theorem dL_act_306 : decode cL_act 306 = .ok (.iload_n 3, 1) := by decide +kernel
theorem dL_act_307 : decode cL_act 307 = .ok (.tableswitch 527 7 17 #[57, 57, 129, 182, 221, 221, 296, 342, 342, 342, 342], 57) := by decide +kernel
theorem dL_act_834 : decode cL_act 834 = .ok (.iconst 1, 1) := by decide +kernel
theorem dL_act_835 : decode cL_act 835 = .ok (.iload_n 2, 1) := by decide +kernel
theorem dL_act_836 : decode cL_act 836 = .ok (.iconst 2, 1) := by decide +kernel
theorem dL_act_837 : decode cL_act 837 = .ok (.ishr, 1) := by decide +kernel
theorem dL_act_838 : decode cL_act 838 = .ok (.iload_n 2, 1) := by decide +kernel
theorem dL_act_839 : decode cL_act 839 = .ok (.iconst 5, 1) := by decide +kernel
theorem dL_act_840 : decode cL_act 840 = .ok (.invokestatic 9, 3) := by decide +kernel
theorem dL_act_843 : decode cL_act 843 = .ok (.ifCond .ne 9, 3) := by decide +kernel
theorem dL_act_846 : decode cL_act 846 = .ok (.sipush 200, 3) := by decide +kernel
theorem dL_act_849 : decode cL_act 849 = .ok (.goto 5, 3) := by decide +kernel
theorem dL_act_852 : decode cL_act 852 = .ok (.bipush 12, 2) := by decide +kernel
theorem dL_act_854 : decode cL_act 854 = .ok (.invokestatic 9, 3) := by decide +kernel
theorem dL_act_857 : decode cL_act 857 = .ok (.iadd, 1) := by decide +kernel
theorem dL_act_858 : decode cL_act 858 = .ok (.istore 13, 2) := by decide +kernel
theorem dL_act_860 : decode cL_act 860 = .ok (.iconst 0, 1) := by decide +kernel
theorem dL_act_861 : decode cL_act 861 = .ok (.istore 14, 2) := by decide +kernel
theorem dL_act_863 : decode cL_act 863 = .ok (.iconst 0, 1) := by decide +kernel
theorem dL_act_864 : decode cL_act 864 = .ok (.istore 15, 2) := by decide +kernel
theorem dL_act_866 : decode cL_act 866 = .ok (.iload 15, 2) := by decide +kernel
theorem dL_act_868 : decode cL_act 868 = .ok (.iload 13, 2) := by decide +kernel
theorem dL_act_870 : decode cL_act 870 = .ok (.if_icmp .ge 18, 3) := by decide +kernel
theorem dL_act_873 : decode cL_act 873 = .ok (.iload 14, 2) := by decide +kernel
theorem dL_act_875 : decode cL_act 875 = .ok (.aload_n 1, 1) := by decide +kernel
theorem dL_act_876 : decode cL_act 876 = .ok (.invokevirtual 88, 3) := by decide +kernel
theorem dL_act_879 : decode cL_act 879 = .ok (.iadd, 1) := by decide +kernel
theorem dL_act_880 : decode cL_act 880 = .ok (.istore 14, 2) := by decide +kernel
theorem dL_act_882 : decode cL_act 882 = .ok (.iinc 15 1, 3) := by decide +kernel
theorem dL_act_885 : decode cL_act 885 = .ok (.goto (-19), 3) := by decide +kernel
theorem dL_act_888 : decode cL_act 888 = .ok (.aload_n 0, 1) := by decide +kernel
theorem dL_act_889 : decode cL_act 889 = .ok (.iload 13, 2) := by decide +kernel
theorem dL_act_891 : decode cL_act 891 = .ok (.invokevirtual 91, 3) := by decide +kernel
theorem dL_act_894 : decode cL_act 894 = .ok (.iload 14, 2) := by decide +kernel
theorem dL_act_896 : decode cL_act 896 = .ok (.if_icmp .ne 7, 3) := by decide +kernel
theorem dL_act_899 : decode cL_act 899 = .ok (.iconst 1, 1) := by decide +kernel
theorem dL_act_900 : decode cL_act 900 = .ok (.goto 4, 3) := by decide +kernel
theorem dL_act_903 : decode cL_act 903 = .ok (.iconst 0, 1) := by decide +kernel
theorem dL_act_904 : decode cL_act 904 = .ok (.ireturn, 1) := by decide +kernel
set_option maxRecDepth 20000 in
theorem ggL_build_X1_init : GoodIn wsL_build wsX1_init := goodIn_r _ [5, 6, 7, 8, 9, 10, 11, 12, 13, 192, 193, 194, 195, 196, 197, 198, 199, 200] (by decide +kernel) (by decide +kernel)
set_option maxRecDepth 20000 in
theorem gL_build_X1_init_n93 : GoodIn wsL_build (wsX1_init) := ggL_build_X1_init
set_option maxRecDepth 20000 in
theorem ggL_build_L_cell : GoodIn wsL_build wsL_cell := goodIn_r _ [17, 18] (by decide +kernel) (by decide +kernel)
set_option maxRecDepth 20000 in
theorem gL_build_L_cell : GoodIn wsL_build (va_wsS RL 94 yL_cell wsL_cell) := goodIn_app (goodIn_of _ (by decide +kernel)) ggL_build_L_cell
set_option maxRecDepth 20000 in
theorem ggL_build_L_below : GoodIn wsL_build wsL_below := goodIn_r _ [21, 22] (by decide +kernel) (by decide +kernel)
set_option maxRecDepth 20000 in
theorem gL_build_L_below : GoodIn wsL_build (va_wsS RL 9 yL_below wsL_below) := goodIn_app (goodIn_of _ (by decide +kernel)) ggL_build_L_below
end
section
set_option maxRecDepth 200000 in
theorem ggL_build_L_act : GoodIn wsL_build wsL_act := goodIn_ca (goodIn_ca (goodIn_ca (goodIn_r _ [25, 26, 27, 28, 29, 30, 31, 32, 33, 34, 35, 36, 19, 20, 16, 21, 22, 37, 38, 39, 40, 41, 42, 43, 44, 45, 46, 47, 48, 49, 50, 51, 52, 53, 54, 55, 56, 57, 58, 59, 60, 61, 62, 63, 64, 65, 66, 67, 68, 69, 70, 71, 72, 73, 74, 75, 76, 77, 78, 79, 80, 81, 82, 83, 84, 85, 86, 87, 88, 89, 90, 91, 92, 93, 94, 95, 96, 97, 98, 99, 100, 101, 102, 103, 104, 105, 106, 107, 108, 109, 110, 111, 112, 113, 114, 115, 116, 117, 118, 119, 3, 120, 121, 11, 12, 122, 123, 124, 125, 126, 127, 128, 129, 130, 131, 132, 133, 134, 135, 136, 137, 138, 139, 10, 140, 141, 142, 143, 144, 145, 146, 147, 148, 149, 150, 151, 152, 153, 154, 155, 156, 157, 158, 159, 160, 161, 162, 163, 164, 165, 166, 167, 168, 169, 170, 171, 172, 173, 174, 175, 176, 177, 178, 179, 180, 181, 182, 183, 184, 185, 186, 187, 188, 189, 190, 191, 192, 193, 194, 195, 196, 197, 198, 199, 200, 201, 202, 203, 204, 205, 206, 207, 208, 209, 210, 211, 212, 213, 214, 215, 216] rfl (by decide +kernel)) (goodIn_sub (fun _ h => List.mem_cons_of_mem _ (List.mem_append_left _ (List.mem_append_left _ (List.mem_append_right _ h)))) (by decide +kernel))) (goodIn_sub (fun _ h => List.mem_cons_of_mem _ (List.mem_append_left _ (List.mem_append_right _ h))) (by decide +kernel))) (goodIn_sub (fun _ h => List.mem_cons_of_mem _ (List.mem_append_right _ h)) (by decide +kernel))
set_option maxRecDepth 20000 in
theorem gL_build_L_act : GoodIn wsL_build (va_wsS RL 98 yL_act wsL_act) := goodIn_app (goodIn_of _ (by decide +kernel)) ggL_build_L_act
theorem dL_build_0 : decode cL_build 0 = .ok (.new 16, 3) := by decide +kernel
theorem dL_build_3 : decode cL_build 3 = .ok (.dup, 1) := by decide +kernel
theorem dL_build_4 : decode cL_build 4 = .ok (.invokespecial 93, 3) := by decide +kernel
theorem dL_build_7 : decode cL_build 7 = .ok (.astore_n 2, 1) := by decide +kernel
theorem dL_build_8 : decode cL_build 8 = .ok (.bipush 24, 2) := by decide +kernel
theorem dL_build_10 : decode cL_build 10 = .ok (.aload_n 1, 1) := by decide +kernel
theorem dL_build_11 : decode cL_build 11 = .ok (.iconst 0, 1) := by decide +kernel
theorem dL_build_12 : decode cL_build 12 = .ok (.invokestatic 94, 3) := by decide +kernel
theorem dL_build_15 : decode cL_build 15 = .ok (.bipush 44, 2) := by decide +kernel
theorem dL_build_17 : decode cL_build 17 = .ok (.invokestatic 9, 3) := by decide +kernel
theorem dL_build_20 : decode cL_build 20 = .ok (.iadd, 1) := by decide +kernel
theorem dL_build_21 : decode cL_build 21 = .ok (.istore_n 3, 1) := by decide +kernel
theorem dL_build_22 : decode cL_build 22 = .ok (.iconst 0, 1) := by decide +kernel
theorem dL_build_23 : decode cL_build 23 = .ok (.istore 4, 2) := by decide +kernel
theorem dL_build_25 : decode cL_build 25 = .ok (.iload 4, 2) := by decide +kernel
theorem dL_build_27 : decode cL_build 27 = .ok (.iload_n 3, 1) := by decide +kernel
theorem dL_build_28 : decode cL_build 28 = .ok (.if_icmp .ge 43, 3) := by decide +kernel
theorem dL_build_31 : decode cL_build 31 = .ok (.aload_n 0, 1) := by decide +kernel
theorem dL_build_32 : decode cL_build 32 = .ok (.aload_n 2, 1) := by decide +kernel
theorem dL_build_33 : decode cL_build 33 = .ok (.aload_n 1, 1) := by decide +kernel
theorem dL_build_34 : decode cL_build 34 = .ok (.iload 4, 2) := by decide +kernel
theorem dL_build_36 : decode cL_build 36 = .ok (.bipush 16, 2) := by decide +kernel
theorem dL_build_38 : decode cL_build 38 = .ok (.irem, 1) := by decide +kernel
theorem dL_build_39 : decode cL_build 39 = .ok (.invokestatic 94, 3) := by decide +kernel
theorem dL_build_42 : decode cL_build 42 = .ok (.iload 4, 2) := by decide +kernel
theorem dL_build_44 : decode cL_build 44 = .ok (.bipush 16, 2) := by decide +kernel
theorem dL_build_46 : decode cL_build 46 = .ok (.idiv, 1) := by decide +kernel
theorem dL_build_47 : decode cL_build 47 = .ok (.iconst 3, 1) := by decide +kernel
theorem dL_build_48 : decode cL_build 48 = .ok (.imul, 1) := by decide +kernel
theorem dL_build_49 : decode cL_build 49 = .ok (.ishr, 1) := by decide +kernel
theorem dL_build_50 : decode cL_build 50 = .ok (.sipush 523, 3) := by decide +kernel
theorem dL_build_53 : decode cL_build 53 = .ok (.iload 4, 2) := by decide +kernel
theorem dL_build_55 : decode cL_build 55 = .ok (.imul, 1) := by decide +kernel
theorem dL_build_56 : decode cL_build 56 = .ok (.iadd, 1) := by decide +kernel
theorem dL_build_57 : decode cL_build 57 = .ok (.invokestatic 98, 3) := by decide +kernel
theorem dL_build_60 : decode cL_build 60 = .ok (.ifCond .ne 5, 3) := by decide +kernel
theorem dL_build_63 : decode cL_build 63 = .ok (.aconst_null, 1) := by decide +kernel
theorem dL_build_64 : decode cL_build 64 = .ok (.areturn, 1) := by decide +kernel
theorem dL_build_65 : decode cL_build 65 = .ok (.iinc 4 1, 3) := by decide +kernel
theorem dL_build_68 : decode cL_build 68 = .ok (.goto (-43), 3) := by decide +kernel
theorem dL_build_71 : decode cL_build 71 = .ok (.aload_n 2, 1) := by decide +kernel
theorem dL_build_72 : decode cL_build 72 = .ok (.areturn, 1) := by decide +kernel
set_option maxRecDepth 20000 in
theorem ggL_law_X0_init : GoodIn wsL_law wsX0_init := goodIn_r _ [5, 6, 7, 8, 9, 10, 11, 12, 13, 14, 15, 16, 17, 18, 19, 20, 21, 356, 357, 358, 359, 360, 361, 362, 363, 364, 365, 366, 367, 368, 369, 370, 371] (by decide +kernel) (by decide +kernel)
set_option maxRecDepth 20000 in
theorem gL_law_X0_init : GoodIn wsL_law (wsX0_init) := ggL_law_X0_init
set_option maxRecDepth 200000 in
theorem ggL_law_L_build : GoodIn wsL_law wsL_build := goodIn_ca (goodIn_ca (goodIn_ca (goodIn_r _ [25, 26, 27, 28, 29, 30, 31, 7, 8, 32, 9, 33, 34, 35, 36, 37, 24, 38, 39, 40, 41, 42, 43, 44, 45, 46, 47, 48, 49, 50, 51, 52, 53, 54, 55, 56, 57, 58, 59, 60, 2, 61, 62, 63, 64, 65, 66, 67, 68, 69, 17, 70, 71, 72, 73, 74, 75, 76, 77, 78, 79, 10, 11, 12, 13, 15, 80, 81, 82, 83, 84, 85, 86, 87, 88, 89, 90, 91, 92, 93, 94, 95, 16, 96, 97, 98, 99, 100, 101, 102, 103, 104, 105, 106, 107, 108, 109, 110, 111, 112, 113, 114, 115, 116, 20, 117, 118, 119, 120, 121, 122, 123, 124, 125, 126, 127, 128, 129, 130, 131, 132, 133, 134, 135, 136, 137, 138, 139, 140, 141, 142, 143, 144, 145, 146, 147, 148, 149, 150, 151, 152, 153, 154, 155, 156, 157, 158, 159, 160, 161, 162, 163, 164, 165, 166, 167, 168, 169, 170, 171, 172, 173, 174, 175, 176, 177, 178, 179, 21, 180, 181, 182, 183, 18, 19, 184, 185, 186, 187, 14, 188, 189, 190, 191, 192, 193, 194, 195, 196, 197, 198, 199, 372, 373, 374, 375, 376, 377, 378, 379, 380, 356, 357, 358, 359, 360, 361, 362, 363, 364, 365, 366, 367, 368, 369, 370, 371] rfl (by decide +kernel)) (goodIn_sub (fun _ h => List.mem_append_left _ (List.mem_append_left _ (List.mem_append_right _ h))) (by decide +kernel))) (goodIn_sub (fun _ h => List.mem_append_left _ (List.mem_append_right _ h)) (by decide +kernel))) (goodIn_sub (fun _ h => List.mem_append_right _ h) (by decide +kernel))
set_option maxRecDepth 20000 in
theorem gL_law_L_build : GoodIn wsL_law (va_wsS RL 103 yL_build wsL_build) := goodIn_app (goodIn_of _ (by decide +kernel)) ggL_law_L_build
theorem dL_law_0 : decode cL_law 0 = .ok (.new 22, 3) := by decide +kernel
theorem dL_law_3 : decode cL_law 3 = .ok (.dup, 1) := by decide +kernel
theorem dL_law_4 : decode cL_law 4 = .ok (.invokespecial 102, 3) := by decide +kernel
theorem dL_law_7 : decode cL_law 7 = .ok (.astore_n 1, 1) := by decide +kernel
theorem dL_law_8 : decode cL_law 8 = .ok (.aload_n 1, 1) := by decide +kernel
theorem dL_law_9 : decode cL_law 9 = .ok (.aload_n 0, 1) := by decide +kernel
theorem dL_law_10 : decode cL_law 10 = .ok (.invokestatic 103, 3) := by decide +kernel
theorem dL_law_13 : decode cL_law 13 = .ok (.astore_n 2, 1) := by decide +kernel
theorem dL_law_14 : decode cL_law 14 = .ok (.aload_n 2, 1) := by decide +kernel
theorem dL_law_15 : decode cL_law 15 = .ok (.ifnonnull 5, 3) := by decide +kernel
theorem dL_law_18 : decode cL_law 18 = .ok (.iconst 0, 1) := by decide +kernel
theorem dL_law_19 : decode cL_law 19 = .ok (.ireturn, 1) := by decide +kernel
theorem dL_law_20 : decode cL_law 20 = .ok (.iconst 0, 1) := by decide +kernel
end
section
section STA
/-- the desk's cells: its object h, its arrays a 0 .. a 10 with contents F 0 .. F 10 -/
def Dk (cI cZ : ClassId) (h : Nat) (a : Nat → Nat) (F : Nat → Nat → Int32) (nq no np : Nat) (sh nw : Int32) : va_W := [
  (h, .inr (0, [.ref (a 0), .ref (a 1), .ref (a 2), .ref (a 3), .ref (a 4), .ref (a 5), .ref (a 6), .ref (a 7), .ref (a 8), .ref (a 9), .ref (a 10), .int (nI nq), .int (nI no), .int (nI np), .int sh, .int nw])),
  (a 0, .inl (cI, 10, .inl (F 0))), (a 1, .inl (cI, 10, .inl (F 1))), (a 2, .inl (cI, 10, .inl (F 2))), (a 3, .inl (cI, 10, .inl (F 3))), (a 4, .inl (cZ, 10, .inl (F 4))), (a 5, .inl (cI, 10, .inl (F 5))),
  (a 6, .inl (cI, 20, .inl (F 6))), (a 7, .inl (cI, 20, .inl (F 7))), (a 8, .inl (cI, 20, .inl (F 8))), (a 9, .inl (cI, 80, .inl (F 9))), (a 10, .inl (cI, 4, .inl (F 10)))]
/-- the reference's cells: the same contents in its own order, and two things of its own: thrown, wanted -/
def Mk (cI cZ : ClassId) (h : Nat) (a : Nat → Nat) (F : Nat → Nat → Int32) (nq no np : Nat) (sh nw th : Int32) (wt : Nat → Int32) : va_W := [
  (h, .inr (1, [.int th, .int nw, .int sh, .int (nI nq), .int (nI no), .int (nI np), .ref (a 0), .ref (a 1), .ref (a 2), .ref (a 3), .ref (a 5), .ref (a 4), .ref (a 6), .ref (a 7), .ref (a 8), .ref (a 9), .ref (a 10), .ref (a 11)])),
  (a 0, .inl (cI, 10, .inl (F 0))), (a 1, .inl (cI, 10, .inl (F 1))), (a 2, .inl (cI, 10, .inl (F 2))), (a 3, .inl (cI, 10, .inl (F 3))), (a 4, .inl (cZ, 10, .inl (F 4))), (a 5, .inl (cI, 10, .inl (F 5))),
  (a 6, .inl (cI, 20, .inl (F 6))), (a 7, .inl (cI, 20, .inl (F 7))), (a 8, .inl (cI, 20, .inl (F 8))), (a 9, .inl (cI, 80, .inl (F 9))), (a 10, .inl (cI, 4, .inl (F 10))), (a 11, .inl (cI, 4, .inl wt))]
abbrev ty2 (cI cZ : ClassId) : List (ClassId × FieldType) := [(cI, .int), (cZ, .boolean)]
/-- a world at a state -/
def wP (G : va_G) (tys : List (ClassId × FieldType)) (ww : va_W) (A : Nat → Prop) (t : State) : Prop := va_P G vwCl ww t.heap ∧ va_K G vwCl tys t ∧ va_D A ww
/-- a method's start over a world -/
def wPre (G : va_G) (tys : List (ClassId × FieldType)) (ww : va_W) (sz : Nat) (U : State) : Prop := U.heap.size = sz ∧ va_P G vwCl ww U.heap ∧ va_K G vwCl tys U ∧ va_D (fun _ => True) ww
theorem wPre_blind {G : va_G} {tys : List (ClassId × FieldType)} {ww : va_W} {sz : Nat} {vs : List Value} : FrameBlind (va_Pc vs (wPre G tys ww sz)) := by
  intro a U g mk q
  obtain ⟨q0, q1, qP, qK, qD⟩ := q
  exact ⟨q0, q1, qP, va_K.moved (u := U) (U := U.calling g mk a) (Vm.Alike.refl U.vm) qK, qD⟩
theorem w_pre {s : State} {H : Heap} {G : va_G} {tys : List (ClassId × FieldType)} {ww : va_W} {A : Nat → Prop} {vs : List Value} (hK : va_K G vwCl tys s) (hP : va_P G vwCl ww H) (hD : va_D A ww) : ∀ U : State, U.heap = H → s.WarmedH U.vm → va_Pc vs (wPre G tys ww H.size) vs.toArray U :=
  fun U hU hW => ⟨rfl, by rw [hU], by rw [hU]; exact hP, va_K.moved hW.alike hK, hD.weaken (fun _ _ _ _ => trivial)⟩
/-- the start of a method's walk -/
theorem w_met {l : Launch} {y : MethodName} {ws ws' : List Cond} {rm : Room} {Qc : Array Value → State → Outcome → State → Prop} {mc ms : Nat} {cc : ByteArray} {maxL : Nat} {ret : Option FieldType} {G : va_G} {tys : List (ClassId × FieldType)} {ww : va_W} {sz : Nat} {vs : List Value}
    (hy : plainName y.cls = true) (hw : ws = Cond.code y cc maxL ret :: ws') (hn : (lg_sl vs).length ≤ maxL)
    (body : ∀ (p : Program) (e : Env) (s : State) (m : MethodId) (below : List Frame) (meth : Method) (c : Code), p.tables.exec = Jvm.exec → c.code = cc → c.maxLocals = maxL → meth.sig.returnType = ret → (∀ w ∈ ws, w.before vs.toArray s = true) → s.vm.findClass y.cls = some m.cls → meth.locks = false → meth.name = y.name →
      va_K G vwCl tys s → s.heap.size = sz → va_P G vwCl ww s.heap → va_D (va_A ww sz) ww → (∀ q : Nat, s.heap.size ≤ q → va_A ww sz q) → va_S (va_A ww sz) s.heap s.heap [] → ∀ ls : Array Slot, lv_has ls maxL (lv_args 0 vs) →
      W p l e rm s m vs.toArray below meth c s.heap [] 0 0 (MQ below Qc vs.toArray s mc ms (va_A ww sz)) (F0 m 0 ls [])) :
    Met l y ws rm (va_Pc vs (wPre G tys ww sz)) Qc mc ms (va_A ww sz) := by
  refine Met.ofW (cc := cc) (maxL := maxL) (ret := ret) hy hw ?_
  intro p e s m args below meth c s₁ B hml hv
  obtain ⟨rfl, hsz, hP, hK, hD0⟩ := hv
  have hts := atoms_spec (ws := ws) B.pre
  have hl := lv_entry vs (n := maxL) hn
  rw [lg_entry_eq]
  generalize (lg_sl vs ++ List.replicate (maxL - (lg_sl vs).length) Slot.unset).toArray = ls at hl ⊢
  exact body p e s m below meth c B.exec B.bytes hml B.returns hts (findClass_of_methodNamed B.named) B.notSynchronized (name_of_methodNamed B.named B.method).1 hK hsz hP (hD0.self (sz := sz)) (fun q h => Or.inr (by rw [← hsz]; exact h)) va_S.rf ls hl
section WK
variable {p : Program} {l : Launch} {e : Env} {R : Room} {s : State} {m : MethodId} {args : Array Value} {below : List Frame} {meth : Method} {c : Code} {H : Heap} {locs : List Loc} {cells slots : Nat} {Q : State → Prop}
variable {cc : ByteArray} {pc : Nat} {ls : Array Slot} {rest st0 : List Value} {G : va_G} {tys tysC : List (ClassId × FieldType)} {ww wc wr : va_W} {A : Nat → Prop} {H0 : Heap} {mc ms : Nat} {aa : Array Value}
theorem w_free (hD : va_D A ww) (hS : va_S A H0 H locs) (hA : ∀ q : Nat, H0.size ≤ q → A q) : ∀ q, va_A ww H.size q → A q := fun q h => by
  rcases h with ⟨k, e, hk⟩ | h
  · exact hD.2 k _ hk
  · exact hA q (Nat.le_trans hS.1 h)
/-! ends -/
theorem w_iret {S : Type} {post : Int32 → S → Prop} {w1 : S → va_W} {v : Int32} (u : S) (hx : p.tables.exec = Jvm.exec) (hb : c.code = cc) (hr : meth.sig.returnType = some .int) (hlocks : meth.locks = false)
    (hK : va_K G vwCl tys s) (hP : va_P G vwCl (w1 u) H) (hD : va_D A (w1 u)) (hS : va_S A s.heap H locs) (hc : cells ≤ mc) (hs : slots ≤ ms) (hdg : decode cc pc = .ok (.ireturn, 1)) (hq : post v u) :
    W p l e R s m args below meth c H locs cells slots (MQ below (va_Qi post (fun u => wP G tys (w1 u) A) A) args s mc ms A) (F0 m pc ls [.int v]) :=
  W.widen hc hs (W.iret hx hb hr (fun t ht hW => ⟨⟨v, u, rfl, hq, by rw [ht]; exact hP, va_K.moved hW.alike hK, hD⟩, hS.F ht⟩) hS.2.2 hdg hlocks)
theorem w_zret {S : Type} {post : Int32 → S → Prop} {w1 : S → va_W} {v : Int32} (u : S) (hx : p.tables.exec = Jvm.exec) (hb : c.code = cc) (hr : meth.sig.returnType = some .boolean) (hlocks : meth.locks = false)
    (hK : va_K G vwCl tys s) (hP : va_P G vwCl (w1 u) H) (hD : va_D A (w1 u)) (hS : va_S A s.heap H locs) (hc : cells ≤ mc) (hs : slots ≤ ms) (hdg : decode cc pc = .ok (.ireturn, 1)) (hn : narrow .boolean (.int v) = .int v) (hq : post v u) :
    W p l e R s m args below meth c H locs cells slots (MQ below (va_Qi post (fun u => wP G tys (w1 u) A) A) args s mc ms A) (F0 m pc ls [.int v]) :=
  W.widen hc hs (W.zret hx hb hr hn (fun t ht hW => ⟨⟨v, u, rfl, hq, by rw [ht]; exact hP, va_K.moved hW.alike hK, hD⟩, hS.F ht⟩) hS.2.2 hdg hlocks)
theorem w_lret {S : Type} {post : Int64 → S → Prop} {w1 : S → va_W} {v : Int64} (u : S) (hx : p.tables.exec = Jvm.exec) (hb : c.code = cc) (hr : meth.sig.returnType = some .long) (hlocks : meth.locks = false)
    (hK : va_K G vwCl tys s) (hP : va_P G vwCl (w1 u) H) (hD : va_D A (w1 u)) (hS : va_S A s.heap H locs) (hc : cells ≤ mc) (hs : slots ≤ ms) (hdg : decode cc pc = .ok (.lreturn, 1)) (hq : post v u) :
    W p l e R s m args below meth c H locs cells slots (MQ below (va_Ql post (fun u => wP G tys (w1 u) A) A) args s mc ms A) (F0 m pc ls [.long v]) :=
  W.widen hc hs (W.lret hx hb hr (fun t ht hW => ⟨⟨v, u, rfl, hq, by rw [ht]; exact hP, va_K.moved hW.alike hK, hD⟩, hS.F ht⟩) hS.2.2 hdg hlocks)
theorem w_dret {S : Type} {post : UInt64 → S → Prop} {w1 : S → va_W} {v : UInt64} (u : S) (hx : p.tables.exec = Jvm.exec) (hb : c.code = cc) (hr : meth.sig.returnType = some .double) (hlocks : meth.locks = false)
    (hK : va_K G vwCl tys s) (hP : va_P G vwCl (w1 u) H) (hD : va_D A (w1 u)) (hS : va_S A s.heap H locs) (hc : cells ≤ mc) (hs : slots ≤ ms) (hdg : decode cc pc = .ok (.dreturn, 1)) (hq : post v u) :
    W p l e R s m args below meth c H locs cells slots (MQ below (va_Qd post (fun u => wP G tys (w1 u) A) A) args s mc ms A) (F0 m pc ls [.double v]) :=
  W.widen hc hs (W.dret hx hb hr (fun t ht hW => ⟨⟨v, u, rfl, hq, by rw [ht]; exact hP, va_K.moved hW.alike hK, hD⟩, hS.F ht⟩) hS.2.2 hdg hlocks)
theorem w_vret {S : Type} {post : S → Prop} {w1 : S → va_W} (u : S) (hx : p.tables.exec = Jvm.exec) (hb : c.code = cc) (hr : meth.sig.returnType = none) (hlocks : meth.locks = false)
    (hK : va_K G vwCl tys s) (hP : va_P G vwCl (w1 u) H) (hD : va_D A (w1 u)) (hS : va_S A s.heap H locs) (hc : cells ≤ mc) (hs : slots ≤ ms) (hdg : decode cc pc = .ok (.return_, 1)) (hq : post u) :
    W p l e R s m args below meth c H locs cells slots (MQ below (va_Qv post (fun u => wP G tys (w1 u) A) A) args s mc ms A) (F0 m pc ls []) :=
  W.widen hc hs (W.vret hx hb hr (fun t ht hW => ⟨⟨u, rfl, hq, by rw [ht]; exact hP, va_K.moved hW.alike hK, hD⟩, hS.F ht⟩) hS.2.2 hdg hlocks)
/-! calls over the whole world -/
theorem w_in_i {S : Type} {post : Int32 → S → Prop} {w1 : S → va_W} (hr : va_Run p l e R s m args below meth c H locs cells slots mc ms (F0 m pc ls st0) rest (va_Qi post (fun u => wP G tys (w1 u) (va_A ww H.size)) (va_A ww H.size) aa) (va_A ww H.size))
    (hD : va_D A ww) (hS : va_S A H0 H locs) (hA : ∀ q : Nat, H0.size ≤ q → A q)
    (kk : ∀ (r : Int32) (u : S) (H1 : Heap) (locs1 : List Loc), post r u → va_P G vwCl (w1 u) H1 → va_D A (w1 u) → va_S A H0 H1 locs1 → W p l e R s m args below meth c H1 locs1 (cells + mc) (slots + ms) Q (F0 m (pc + 3) ls (.int r :: rest))) : W p l e R s m args below meth c H locs cells slots Q (F0 m pc ls st0) := by
  have hF := w_free hD hS hA
  refine va_calli hr hS (fun q _ h => hF q h) hF (fun r u t H1 locs1 ht hvm hw hB hz hk hS1 => ?_)
  obtain ⟨hP1, hK1, hD1⟩ := hB
  rw [ht] at hP1
  exact kk r u H1 locs1 hw hP1 (hD1.weaken (fun _ _ _ h => hF _ h)) hS1
theorem w_in_l {S : Type} {post : Int64 → S → Prop} {w1 : S → va_W} (hr : va_Run p l e R s m args below meth c H locs cells slots mc ms (F0 m pc ls st0) rest (va_Ql post (fun u => wP G tys (w1 u) (va_A ww H.size)) (va_A ww H.size) aa) (va_A ww H.size))
    (hD : va_D A ww) (hS : va_S A H0 H locs) (hA : ∀ q : Nat, H0.size ≤ q → A q)
    (kk : ∀ (r : Int64) (u : S) (H1 : Heap) (locs1 : List Loc), post r u → va_P G vwCl (w1 u) H1 → va_D A (w1 u) → va_S A H0 H1 locs1 → W p l e R s m args below meth c H1 locs1 (cells + mc) (slots + ms) Q (F0 m (pc + 3) ls (.long r :: rest))) : W p l e R s m args below meth c H locs cells slots Q (F0 m pc ls st0) := by
  have hF := w_free hD hS hA
  refine va_calll hr hS (fun q _ h => hF q h) hF (fun r u t H1 locs1 ht hvm hw hB hz hk hS1 => ?_)
  obtain ⟨hP1, hK1, hD1⟩ := hB
  rw [ht] at hP1
  exact kk r u H1 locs1 hw hP1 (hD1.weaken (fun _ _ _ h => hF _ h)) hS1
theorem w_in_v {S : Type} {post : S → Prop} {w1 : S → va_W} (hr : va_Run p l e R s m args below meth c H locs cells slots mc ms (F0 m pc ls st0) rest (va_Qv post (fun u => wP G tys (w1 u) (va_A ww H.size)) (va_A ww H.size) aa) (va_A ww H.size))
    (hD : va_D A ww) (hS : va_S A H0 H locs) (hA : ∀ q : Nat, H0.size ≤ q → A q)
    (kk : ∀ (u : S) (H1 : Heap) (locs1 : List Loc), post u → va_P G vwCl (w1 u) H1 → va_D A (w1 u) → va_S A H0 H1 locs1 → W p l e R s m args below meth c H1 locs1 (cells + mc) (slots + ms) Q (F0 m (pc + 3) ls rest)) : W p l e R s m args below meth c H locs cells slots Q (F0 m pc ls st0) := by
  have hF := w_free hD hS hA
  refine va_callv hr hS (fun q _ h => hF q h) hF (fun u t H1 locs1 ht hvm hw hB hz hk hS1 => ?_)
  obtain ⟨hP1, hK1, hD1⟩ := hB
  rw [ht] at hP1
  exact kk u H1 locs1 hw hP1 (hD1.weaken (fun _ _ _ h => hF _ h)) hS1
/-! calls of static methods without a world -/
theorem w_keep0 (hP : va_P G vwCl ww H) {H1 : Heap} (hk : ∀ q : Nat, q < H.size → ¬ va_A [] H.size q → H1[q]? = H[q]?) : va_P G vwCl ww H1 := hP.kept (fun k q hq => hk q.1 ((hP k q hq).lt) (fun h => by
  rcases h with ⟨k, e, hk⟩ | h
  · simp at hk
  · exact absurd ((hP _ q hq).lt) (Nat.not_lt.mpr h)))
theorem w_free0 (hS : va_S A H0 H locs) (hA : ∀ q : Nat, H0.size ≤ q → A q) : ∀ q, va_A [] H.size q → A q := fun q h => by
  rcases h with ⟨k, e, hk⟩ | h
  · simp at hk
  · exact hA q (Nat.le_trans hS.1 h)
theorem w_st_i {S : Type} {post : Int32 → S → Prop} {B : S → State → Prop} (hr : va_Run p l e R s m args below meth c H locs cells slots mc ms (F0 m pc ls st0) rest (va_Qi post B (va_A [] H.size) aa) (va_A [] H.size))
    (hP : va_P G vwCl ww H) (hS : va_S A H0 H locs) (hA : ∀ q : Nat, H0.size ≤ q → A q)
    (kk : ∀ (r : Int32) (u : S) (H1 : Heap) (locs1 : List Loc), post r u → va_P G vwCl ww H1 → va_S A H0 H1 locs1 → W p l e R s m args below meth c H1 locs1 (cells + mc) (slots + ms) Q (F0 m (pc + 3) ls (.int r :: rest))) : W p l e R s m args below meth c H locs cells slots Q (F0 m pc ls st0) := by
  have hF := w_free0 hS hA
  exact va_calli hr hS (fun q _ h => hF q h) hF (fun r u t H1 locs1 ht hvm hw hB hz hk hS1 => kk r u H1 locs1 hw (w_keep0 hP hk) hS1)
theorem w_st_l {S : Type} {post : Int64 → S → Prop} {B : S → State → Prop} (hr : va_Run p l e R s m args below meth c H locs cells slots mc ms (F0 m pc ls st0) rest (va_Ql post B (va_A [] H.size) aa) (va_A [] H.size))
    (hP : va_P G vwCl ww H) (hS : va_S A H0 H locs) (hA : ∀ q : Nat, H0.size ≤ q → A q)
    (kk : ∀ (r : Int64) (u : S) (H1 : Heap) (locs1 : List Loc), post r u → va_P G vwCl ww H1 → va_S A H0 H1 locs1 → W p l e R s m args below meth c H1 locs1 (cells + mc) (slots + ms) Q (F0 m (pc + 3) ls (.long r :: rest))) : W p l e R s m args below meth c H locs cells slots Q (F0 m pc ls st0) := by
  have hF := w_free0 hS hA
  exact va_calll hr hS (fun q _ h => hF q h) hF (fun r u t H1 locs1 ht hvm hw hB hz hk hS1 => kk r u H1 locs1 hw (w_keep0 hP hk) hS1)
theorem w_st_v {S : Type} {post : S → Prop} {B : S → State → Prop} (hr : va_Run p l e R s m args below meth c H locs cells slots mc ms (F0 m pc ls st0) rest (va_Qv post B (va_A [] H.size) aa) (va_A [] H.size))
    (hP : va_P G vwCl ww H) (hS : va_S A H0 H locs) (hA : ∀ q : Nat, H0.size ≤ q → A q)
    (kk : ∀ (u : S) (H1 : Heap) (locs1 : List Loc), post u → va_P G vwCl ww H1 → va_S A H0 H1 locs1 → W p l e R s m args below meth c H1 locs1 (cells + mc) (slots + ms) Q (F0 m (pc + 3) ls rest)) : W p l e R s m args below meth c H locs cells slots Q (F0 m pc ls st0) := by
  have hF := w_free0 hS hA
  exact va_callv hr hS (fun q _ h => hF q h) hF (fun u t H1 locs1 ht hvm hw hB hz hk hS1 => kk u H1 locs1 hw (w_keep0 hP hk) hS1)
/-- x ? a : b over two int constants -/
theorem w_selE {x v1 v2 : Int32} {off off3 n1 n2 : Int} (hx : p.tables.exec = Jvm.exec) (hb : c.code = cc) (d0 : decode cc pc = .ok (.ifCond .eq off, 3)) (t0 : (pc : Int) + off = ((pc + 7 : Nat) : Int)) (d1 : decode cc (pc + 3) = .ok (.iconst n1, 1)) (e1 : Int32.ofInt n1 = v1) (d2 : decode cc (pc + 4) = .ok (.goto off3, 3)) (t2 : ((pc + 4 : Nat) : Int) + off3 = ((pc + 8 : Nat) : Int)) (d3 : decode cc (pc + 7) = .ok (.iconst n2, 1)) (e2 : Int32.ofInt n2 = v2)
    (kk : W p l e R s m args below meth c H locs cells slots Q (F0 m (pc + 8) ls (.int (if x = 0 then v2 else v1) :: rest))) : W p l e R s m args below meth c H locs cells slots Q (F0 m pc ls (.int x :: rest)) := by
  refine lv_if_eq hx hb d0 t0 (fun h => ?_) (fun h => ?_)
  · rw [if_pos h] at kk
    exact lv_iconst hx hb d3 e2 kk
  · rw [if_neg h] at kk
    exact lv_iconst hx hb d1 e1 (lv_goto hx hb d2 t2 kk)
end WK
end STA
end
section
section ROW
/-! array rows with a counted index -/
section RW1
variable {p : Program} {l : Launch} {e : Env} {R : Room} {s : State} {m : MethodId} {args : Array Value} {below : List Frame} {meth : Method} {c : Code} {H : Heap} {locs : List Loc} {cells slots : Nat} {Q : State → Prop}
variable {cc : ByteArray} {pc : Nat} {ls : Array Slot} {rest : List Value} {D : va_G} {cl : List vw_C} {A : Nat → Prop} {a : Nat} {tys : List (ClassId × FieldType)} {ws : va_W} {H0 : Heap}
theorem w_iald (hexec : p.tables.exec = Jvm.exec) (hb : c.code = cc) (hK : va_K D cl tys s) (hP : va_P D cl ws H) (q0 t0 : Nat) {cA : ClassId} {n : Nat} {f : Nat → Int32} (ha : ws[q0]? = some (a, .inl (cA, n, .inl f))) (ht : tys[t0]? = some (cA, .int)) {j : Nat} (hj : j < n) (hn : n < 2 ^ 31) (hdg : decode cc pc = .ok (.iaload, 1))
    (kk : W p l e R s m args below meth c H locs cells slots Q (F0 m (pc + 1) ls (.int (f j) :: rest))) : W p l e R s m args below meth c H locs cells slots Q (F0 m pc ls (.int (nI j) :: .ref a :: rest)) :=
  va_iald hexec hb hK hP q0 t0 ha ht (vp_in_nI hj hn) hdg (by rw [nI_clamp (by omega)]; exact kk)
theorem w_zald (hexec : p.tables.exec = Jvm.exec) (hb : c.code = cc) (hK : va_K D cl tys s) (hP : va_P D cl ws H) (q0 t0 : Nat) {cA : ClassId} {n : Nat} {f : Nat → Int32} (ha : ws[q0]? = some (a, .inl (cA, n, .inl f))) (ht : tys[t0]? = some (cA, .boolean)) {j : Nat} (hj : j < n) (hn : n < 2 ^ 31) (hdg : decode cc pc = .ok (.baload, 1))
    (kk : W p l e R s m args below meth c H locs cells slots Q (F0 m (pc + 1) ls (.int (f j) :: rest))) : W p l e R s m args below meth c H locs cells slots Q (F0 m pc ls (.int (nI j) :: .ref a :: rest)) :=
  va_zald hexec hb hK hP q0 t0 ha ht (vp_in_nI hj hn) hdg (by rw [nI_clamp (by omega)]; exact kk)
theorem w_iast (hexec : p.tables.exec = Jvm.exec) (hb : c.code = cc) (hK : va_K D cl tys s) (hP : va_P D cl ws H) (hD : va_D A ws) (hS : va_S A H0 H locs) (q0 t0 : Nat) {cA : ClassId} {n : Nat} {f : Nat → Int32} (ha : ws[q0]? = some (a, .inl (cA, n, .inl f))) (ht : tys[t0]? = some (cA, .int)) {j : Nat} {x : Int32} (hj : j < n) (hn : n < 2 ^ 31) (hdg : decode cc pc = .ok (.iastore, 1))
    (kk : ∀ (H1 : Heap) (locs1 : List Loc), va_P D cl (ws.set q0 (a, .inl (cA, n, .inl (upd f j x)))) H1 → va_D A (ws.set q0 (a, .inl (cA, n, .inl (upd f j x)))) → va_S A H0 H1 locs1 → W p l e R s m args below meth c H1 locs1 cells slots Q (F0 m (pc + 1) ls rest)) : W p l e R s m args below meth c H locs cells slots Q (F0 m pc ls (.int x :: .int (nI j) :: .ref a :: rest)) :=
  va_iast hexec hb hK hP hD hS q0 t0 ha ht (vp_in_nI hj hn) hdg (by rw [nI_clamp (by omega)]; exact kk)
/-- a boolean stored that is 0 or 1 -/
theorem w_zast (hexec : p.tables.exec = Jvm.exec) (hb : c.code = cc) (hK : va_K D cl tys s) (hP : va_P D cl ws H) (hD : va_D A ws) (hS : va_S A H0 H locs) (q0 t0 : Nat) {cA : ClassId} {n : Nat} {f : Nat → Int32} (ha : ws[q0]? = some (a, .inl (cA, n, .inl f))) (ht : tys[t0]? = some (cA, .boolean)) {j : Nat} {x : Int32} (hj : j < n) (hn : n < 2 ^ 31) (hx : vp_nar .boolean x = x) (hdg : decode cc pc = .ok (.bastore, 1))
    (kk : ∀ (H1 : Heap) (locs1 : List Loc), va_P D cl (ws.set q0 (a, .inl (cA, n, .inl (upd f j x)))) H1 → va_D A (ws.set q0 (a, .inl (cA, n, .inl (upd f j x)))) → va_S A H0 H1 locs1 → W p l e R s m args below meth c H1 locs1 cells slots Q (F0 m (pc + 1) ls rest)) : W p l e R s m args below meth c H locs cells slots Q (F0 m pc ls (.int x :: .int (nI j) :: .ref a :: rest)) :=
  va_zast hexec hb hK hP hD hS q0 t0 ha ht (vp_in_nI hj hn) hdg (by rw [nI_clamp (by omega), hx]; exact kk)
theorem w_selN {x v1 v2 : Int32} {off off3 n1 n2 : Int} (hx : p.tables.exec = Jvm.exec) (hb : c.code = cc) (d0 : decode cc pc = .ok (.ifCond .ne off, 3)) (t0 : (pc : Int) + off = ((pc + 7 : Nat) : Int)) (d1 : decode cc (pc + 3) = .ok (.iconst n1, 1)) (e1 : Int32.ofInt n1 = v1) (d2 : decode cc (pc + 4) = .ok (.goto off3, 3)) (t2 : ((pc + 4 : Nat) : Int) + off3 = ((pc + 8 : Nat) : Int)) (d3 : decode cc (pc + 7) = .ok (.iconst n2, 1)) (e2 : Int32.ofInt n2 = v2)
    (kk : W p l e R s m args below meth c H locs cells slots Q (F0 m (pc + 8) ls (.int (if x = 0 then v1 else v2) :: rest))) : W p l e R s m args below meth c H locs cells slots Q (F0 m pc ls (.int x :: rest)) := by
  refine lv_if_ne hx hb d0 t0 (fun h => ?_) (fun h => ?_)
  · rw [if_neg h] at kk
    exact lv_iconst hx hb d3 e2 kk
  · rw [if_pos h] at kk
    exact lv_iconst hx hb d1 e1 (lv_goto hx hb d2 t2 kk)
theorem w_selQ {x y v1 v2 : Int32} {off off3 n1 n2 : Int} (hx : p.tables.exec = Jvm.exec) (hb : c.code = cc) (d0 : decode cc pc = .ok (.if_icmp .ne off, 3)) (t0 : (pc : Int) + off = ((pc + 7 : Nat) : Int)) (d1 : decode cc (pc + 3) = .ok (.iconst n1, 1)) (e1 : Int32.ofInt n1 = v1) (d2 : decode cc (pc + 4) = .ok (.goto off3, 3)) (t2 : ((pc + 4 : Nat) : Int) + off3 = ((pc + 8 : Nat) : Int)) (d3 : decode cc (pc + 7) = .ok (.iconst n2, 1)) (e2 : Int32.ofInt n2 = v2)
    (kk : W p l e R s m args below meth c H locs cells slots Q (F0 m (pc + 8) ls (.int (if x = y then v1 else v2) :: rest))) : W p l e R s m args below meth c H locs cells slots Q (F0 m pc ls (.int y :: .int x :: rest)) := by
  refine lv_icmp_ne hx hb d0 t0 (fun h => ?_) (fun h => ?_)
  · rw [if_neg h] at kk
    exact lv_iconst hx hb d3 e2 kk
  · rw [if_pos h] at kk
    exact lv_iconst hx hb d1 e1 (lv_goto hx hb d2 t2 kk)
end RW1
theorem w_P0 {G : va_G} {H : Heap} : va_P G vwCl [] H := fun k q h => by simp at h
theorem w_D0 {A : Nat → Prop} : va_D A [] := ⟨fun i j p q h => by simp at h, fun k q h => by simp at h⟩
/-! the pure picture: numbers as the machine has them, F the arrays' contents, sh the shift -/
def b2i (b : Bool) : Int32 := if b then 1 else 0
theorem b2i_0 {b : Bool} : b2i b = 0 ↔ b = false := by cases b <;> simp [b2i]
theorem b2i_1 {b : Bool} : ¬ b2i b = 0 ↔ b = true := by cases b <;> simp [b2i]
theorem b2i_n (b : Bool) : narrow .boolean (.int (b2i b)) = .int (b2i b) := by cases b <;> rfl
theorem b2i_v (b : Bool) : vp_nar .boolean (b2i b) = b2i b := by cases b <;> rfl
theorem b2i_sel (b : Bool) : (if b2i b = 0 then (0 : Int32) else 1) = b2i b := by cases b <;> simp [b2i]
theorem b2i_sel' (b : Bool) : (if b2i b = 0 then (1 : Int32) else 0) = b2i (!b) := by cases b <;> simp [b2i]
theorem b2i_z (x : Int32) : (if x = 0 then (0 : Int32) else 1) = b2i (!decide (x = 0)) := by by_cases h : x = 0 <;> simp [b2i, h]
theorem b2i_nz (x : Int32) : (if x = 0 then (1 : Int32) else 0) = b2i (decide (x = 0)) := by by_cases h : x = 0 <;> simp [b2i, h]
theorem b2i_q (x y : Int32) : (if x = y then (1 : Int32) else 0) = b2i (decide (x = y)) := by by_cases h : x = y <;> simp [b2i, h]
theorem b2i_o (b : Bool) : b2i (!decide (b2i b = 0)) = b2i b := by cases b <;> simp [b2i]
theorem b2i_T : b2i true = 1 := rfl
theorem b2i_F : b2i false = 0 := rfl
/-- an index that lies in 0 .. n - 1; a number in a .. b -/
def p_in (x : Int32) (n : Nat) : Bool := decide (0 ≤ x.toInt) && decide (x.toInt < (n : Int))
def p_wi (x a b : Int32) : Bool := decide (a ≤ x) && decide (x ≤ b)
theorem i32_lt0 (x : Int32) : x < 0 ↔ x.toInt < 0 := by
  have h0 : (0 : Int32).toInt = 0 := by decide
  rw [Int32.lt_iff_toInt_lt, h0]
theorem pin_neg {x : Int32} {n : Nat} (h : x < 0) : p_in x n = false := by
  rw [i32_lt0] at h
  simp [p_in]; omega
theorem pin_ge {x : Int32} {n : Nat} (hn : n < 2 ^ 31) (h : ¬ x < nI n) : p_in x n = false := by
  rw [Int32.lt_iff_toInt_lt, nI_toInt hn] at h
  simp [p_in]; omega
theorem pin_ok {x : Int32} {n : Nat} (hn : n < 2 ^ 31) (h0 : ¬ x < 0) (h : x < nI n) : p_in x n = true := by
  rw [i32_lt0] at h0
  rw [Int32.lt_iff_toInt_lt, nI_toInt hn] at h
  simp [p_in]; omega
theorem pin_of {x : Int32} {n : Nat} (h : p_in x n = true) : ∃ j : Nat, j < n ∧ x = nI j := by
  simp only [p_in, Bool.and_eq_true, decide_eq_true_eq] at h
  have h9 := Int32.toInt_lt x
  refine ⟨x.toInt.toNat, by omega, Int32.toInt_inj.mp ?_⟩
  rw [nI_toInt (by omega)]
  omega
theorem pin_nI {j n : Nat} (hj : j < n) (hn : j < 2 ^ 31) : p_in (nI j) n = true := by
  simp [p_in, nI_toInt hn, hj]
theorem pin_vp {x : Int32} {n : Nat} (h : p_in x n = true) : vp_in x n := by
  simp only [p_in, Bool.and_eq_true, decide_eq_true_eq] at h
  exact vp_in_iff.mpr h
theorem pwi_of {x : Int32} {b : Nat} (hb : b < 2 ^ 31) (h : p_wi x 0 (nI b) = true) : ∃ j : Nat, j ≤ b ∧ x = nI j := by
  simp only [p_wi, Bool.and_eq_true, decide_eq_true_eq, Int32.le_iff_toInt_le] at h
  have h0 : (0 : Int32).toInt = 0 := by decide
  rw [h0, nI_toInt hb] at h
  refine ⟨x.toInt.toNat, by omega, Int32.toInt_inj.mp ?_⟩
  rw [nI_toInt (by omega)]
  omega
theorem pwi_lt {x a b : Int32} (h : x < a) : p_wi x a b = false := by
  rw [Int32.lt_iff_toInt_lt] at h
  simp [p_wi, Int32.le_iff_toInt_le]; omega
theorem pwi_gt {x a b : Int32} (h : ¬ x ≤ b) : p_wi x a b = false := by
  simp [p_wi, h]
theorem pwi_ok {x a b : Int32} (h : ¬ x < a) (h2 : x ≤ b) : p_wi x a b = true := by
  rw [Int32.lt_iff_toInt_lt] at h
  simp [p_wi, Int32.le_iff_toInt_le] at *; omega
def p_tide (d : Int32) : Int32 := if 20 ≤ d - d / 40 * 40 then (39 - (d - d / 40 * 40)) / 4 else (d - d / 40 * 40) / 4
def p_dusk (d sh : Int32) : Int32 := 34 + p_tide d + sh
def p_dawn (d : Int32) : Int32 := 14 - p_tide d
def p_at (F : Nat → Nat → Int32) (sh : Int32) (o : Nat) (t : Int32) : Bool := decide (p_dusk (t / 48) sh - F 1 o ≤ t - t / 48 * 48) || !decide (p_dawn (t / 48) + F 2 o ≤ t - t / 48 * 48)
def p_on (F : Nat → Nat → Int32) (sh : Int32) (o : Nat) (t : Int32) : Bool := !decide (F 4 o = 0) && p_at F sh o t
def p_ex (F : Nat → Nat → Int32) (o : Nat) (tr : Int32) : Bool := !decide (F 5 o >>> (tr &&& 31) &&& 1 = 0)
def p_bars (F : Nat → Nat → Int32) (sh : Int32) (o p : Nat) (q t : Int32) : Bool := decide (F 0 o = q) && (!p_ex F o (F 6 p) && p_on F sh o t)
/-! counts and sums -/
def p_ct (b : Nat → Bool) : Nat → Nat
  | 0 => 0
  | n + 1 => p_ct b n + (if b n then 1 else 0)
def p_sm (f : Nat → Int32) : Nat → Int32
  | 0 => 0
  | n + 1 => p_sm f n + f n
theorem ct_t {b : Nat → Bool} {n : Nat} (h : b n = true) : p_ct b (n + 1) = p_ct b n + 1 := by simp [p_ct, h]
theorem ct_f {b : Nat → Bool} {n : Nat} (h : b n = false) : p_ct b (n + 1) = p_ct b n := by simp [p_ct, h]
theorem nct_t {b : Nat → Bool} {n : Nat} (h : b n = true) : nI (p_ct b n) + 1 = nI (p_ct b (n + 1)) := by rw [ct_t h, nI_1]
theorem nct_f {b : Nat → Bool} {n : Nat} (h : b n = false) : nI (p_ct b n) = nI (p_ct b (n + 1)) := by rw [ct_f h]
theorem nct_b {b : Nat → Bool} {n : Nat} : nI (p_ct b n) + b2i (b n) = nI (p_ct b (n + 1)) := by
  cases h : b n
  · rw [ct_f h, b2i_F, Int32.add_zero]
  · rw [ct_t h, b2i_T, nI_1]
theorem ct_le (b : Nat → Bool) : ∀ n, p_ct b n ≤ n
  | 0 => Nat.le_refl 0
  | n + 1 => by have := ct_le b n; simp only [p_ct]; split <;> omega
theorem ct_mono (b : Nat → Bool) {i n : Nat} (h : i ≤ n) : p_ct b i ≤ p_ct b n := by
  induction n with
  | zero => have : i = 0 := by omega
            subst this; exact Nat.le_refl _
  | succ n ih =>
    rcases Nat.lt_or_ge i (n + 1) with q | q
    · have := ih (by omega); simp only [p_ct]; omega
    · have : i = n + 1 := by omega
      subst this; exact Nat.le_refl _
theorem ct_pos {b : Nat → Bool} {i n : Nat} (h : i < n) (hb : b i = true) : p_ct b n ≠ 0 := by
  have h1 := ct_mono b (show i + 1 ≤ n by omega)
  rw [ct_t hb] at h1
  omega
theorem ct_cong {b d : Nat → Bool} : ∀ {n : Nat}, (∀ k, k < n → b k = d k) → p_ct b n = p_ct d n
  | 0, _ => rfl
  | n + 1, h => by simp only [p_ct]; rw [ct_cong (fun k hk => h k (by omega)), h n (by omega)]
theorem sm_cong {b d : Nat → Int32} : ∀ {n : Nat}, (∀ k, k < n → b k = d k) → p_sm b n = p_sm d n
  | 0, _ => rfl
  | n + 1, h => by simp only [p_sm]; rw [sm_cong (fun k hk => h k (by omega)), h n (by omega)]
def p_ag (F : Nat → Nat → Int32) (sh : Int32) (no p : Nat) (q t : Int32) : Nat := p_ct (fun o => p_bars F sh o p q t) no
def p_bd (F : Nat → Nat → Int32) (sh : Int32) (np o : Nat) (t : Int32) : Nat := p_ct (fun p => p_bars F sh o p (F 0 o) t) np
def p_mo (F : Nat → Nat → Int32) (sh : Int32) (no : Nat) (t : Int32) : Nat := p_ct (fun o => p_on F sh o t) no
def p_max0 (y : Int32) : Int32 := if 0 < y then y else 0
def p_need (F : Nat → Nat → Int32) (sh : Int32) (p : Nat) (q t : Int32) (sp : Int32) (c : Nat) (o : Nat) : Bool := !decide (nI o = sp) && (decide (F 3 o = nI c) && p_bars F sh o p q t)
def p_lack (F : Nat → Nat → Int32) (sh : Int32) (no p : Nat) (q t : Int32) (sp : Int32) (c : Nat) : Int32 := p_max0 (nI (p_ct (p_need F sh p q t sp c) no) - F 9 (p * 4 + c))
def p_miss (F : Nat → Nat → Int32) (sh : Int32) (no p : Nat) (q t : Int32) (sp : Int32) : Int32 := p_sm (p_lack F sh no p q t sp) 4
def p_fr (F : Nat → Nat → Int32) (sh : Int32) (no : Nat) (t : Int32) (o p : Nat) : Bool := !decide (p_miss F sh no p (F 0 o) t (-1) ≤ 0) && decide (p_miss F sh no p (F 0 o) t (nI o) = 0)
def p_bl (f : Nat → Nat) : Nat → Int32 × Nat
  | 0 => (-1, 0)
  | o + 1 => if (p_bl f o).2 < f o then (nI o, f o) else p_bl f o
def p_tb (F : Nat → Nat → Int32) (sh nw : Int32) (o w : Nat) : Bool := p_on F sh o (nw + nI (w + 1)) && !p_on F sh o (nw + nI w)
def p_ff (P : Nat → Bool) : Nat → Nat → Int32
  | _, 0 => -1
  | k, n + 1 => if P k then nI k else p_ff P (k + 1) n
def p_use (F : Nat → Nat → Int32) (p c : Nat) : Nat → Nat → Int32 := va_up (va_up F 9 (upd (F 9) (p * 4 + c) (F 9 (p * 4 + c) - 1))) 10 (upd (F 10) c (F 10 c + 1))
def p_us (F : Nat → Nat → Int32) (p c : Nat) : Nat → Nat → Int32 := if F 9 (p * 4 + c) = 0 then F else p_use F p c
def p_go (F : Nat → Nat → Int32) (sh : Int32) (p : Nat) (q t : Int32) : Nat → (Nat → Nat → Int32) × Bool
  | 0 => (F, false)
  | o + 1 => if p_bars F sh o p q t then (p_us (p_go F sh p q t o).1 p (F 3 o).toNatClampNeg, (p_go F sh p q t o).2 || decide ((p_go F sh p q t o).1 9 (p * 4 + (F 3 o).toNatClampNeg) = 0)) else p_go F sh p q t o
def p_fine (F : Nat → Nat → Int32) (p : Nat) : Nat → Nat → Int32 := va_up (va_up F 7 (upd (F 7) p (F 7 p + 1))) 8 (upd (F 8) p (F 8 p + 10 * (F 7 p + 1)))
def p_fold (d : Int64) (x : Int32) : Int64 := d * 31 + x.toInt64
def p_fl (f : Nat → Int32) (d : Int64) : Nat → Int64
  | 0 => d
  | n + 1 => p_fold (p_fl f d n) (f n)
def p_fg (g : Nat → Int64 → Int64) (d : Int64) : Nat → Int64
  | 0 => d
  | n + 1 => g n (p_fg g d n)
def p_fo (F : Nat → Nat → Int32) (sh : Int32) (np : Nat) (t : Int32) (o : Nat) (d : Int64) : Int64 :=
  p_fl (fun tr => b2i (p_ex F o (nI tr))) (p_fold (p_fold (p_fold (p_fold (p_fold d (F 0 o)) (F 3 o)) (b2i (!decide (F 4 o = 0)))) (b2i (p_on F sh o t))) (nI (p_bd F sh np o t))) 8
def p_fp (F : Nat → Nat → Int32) (sh : Int32) (nq no : Nat) (t : Int32) (p : Nat) (d : Int64) : Int64 :=
  p_fl (fun q => nI (p_ag F sh no p (nI q) t)) (p_fl (fun c => F 9 (p * 4 + c)) (p_fold (p_fold (p_fold d (F 6 p)) (F 8 p)) (F 7 p)) 4) nq
def p_dig (F : Nat → Nat → Int32) (nq no np : Nat) (sh nw : Int32) : Int64 :=
  p_fg (p_fp F sh nq no nw) (p_fg (p_fo F sh np nw) (p_fl (F 10)
    (p_fold (p_fold (p_fold (p_fold (p_fold (p_fold (p_fold (p_fold (p_fold 1879 (nw / 48)) (nw - nw / 48 * 48)) (p_dusk (nw / 48) sh)) (p_dawn (nw / 48))) (nI nq)) (nI no)) (nI np)) (nI (p_mo F sh no nw))) sh) 4) no) np
/-! which exception a call throws, by number; 0: none -/
def k1 (b : Bool) : Int32 := if b then 0 else 1
def k2 (b d : Bool) : Int32 := if b then (if d then 0 else 2) else 1
def k3 (b d e : Bool) : Int32 := if b then (if d then (if e then 0 else 3) else 2) else 1
theorem pwi_ofn {x a : Int32} {b : Nat} (ha : 0 ≤ a.toInt) (hb : b < 2 ^ 31) (h : p_wi x a (nI b) = true) : ∃ j : Nat, j ≤ b ∧ x = nI j := by
  simp only [p_wi, Bool.and_eq_true, decide_eq_true_eq, Int32.le_iff_toInt_le] at h
  rw [nI_toInt hb] at h
  refine ⟨x.toInt.toNat, by omega, Int32.toInt_inj.mp ?_⟩
  rw [nI_toInt (by omega)]
  omega
def p_pl (p c : Int32) : Nat := p.toNatClampNeg * 4 + c.toNatClampNeg
def p_cap (y : Int32) : Int32 := if y < 9 then y else 9
/-! what a call leaves behind, where it throws nothing -/
def n_ex (F : Nat → Nat → Int32) (o : Nat) (t : Int32) : Nat → Nat → Int32 := va_up F 5 (upd (F 5) o (F 5 o ^^^ (1 <<< (t &&& 31))))
def n_fo (F : Nat → Nat → Int32) (o : Nat) : Nat → Nat → Int32 := va_up F 4 (upd (F 4) o (b2i (decide (F 4 o = 0))))
def n_st (F : Nat → Nat → Int32) (k : Nat) (v : Int32) : Nat → Nat → Int32 := va_up F 9 (upd (F 9) k v)
def n_pe (F : Nat → Nat → Int32) (np : Nat) (t : Int32) : Nat → Nat → Int32 := va_up F 6 (upd (F 6) np t)
def n_or (F : Nat → Nat → Int32) (no : Nat) (q a b c : Int32) : Nat → Nat → Int32 := va_up (va_up (va_up (va_up (va_up F 0 (upd (F 0) no q)) 1 (upd (F 1) no a)) 2 (upd (F 2) no b)) 3 (upd (F 3) no c)) 4 (upd (F 4) no 1)
def n_go (F : Nat → Nat → Int32) (sh : Int32) (no p : Nat) (q t : Int32) : Nat → Nat → Int32 := if (p_go F sh p q t no).2 then p_fine (p_go F sh p q t no).1 p else (p_go F sh p q t no).1
def a_go (F : Nat → Nat → Int32) (sh : Int32) (no p : Nat) (q t : Int32) : Int32 := if (p_go F sh p q t no).2 then 10 * (F 7 p + 1) else 0
def a_pa (F : Nat → Nat → Int32) (sh nw : Int32) (no hh : Nat) : Int32 := p_sm (fun o => nI (p_ct (p_tb F sh nw o) hh)) no
def p_hP (F : Nat → Nat → Int32) (sh nw : Int32) (no p : Nat) (q : Int32) (k : Nat) : Bool := decide (p_ag F sh no p q (nw + nI k) = 0)
def a_hu (F : Nat → Nat → Int32) (sh nw : Int32) (no p : Nat) (q : Int32) : Int32 := p_ff (p_hP F sh nw no p q) 0 49
def p_hB (F : Nat → Nat → Int32) (sh nw : Int32) (o w : Nat) : Bool := p_at F sh o (nw + nI w)
def p_bf (F : Nat → Nat → Int32) (sh nw : Int32) (no np o : Nat) : Nat := p_ct (p_fr F sh no nw o) np
def a_me (F : Nat → Nat → Int32) (np : Nat) : UInt64 := if np = 0 then FP.dconst0 else FP.ddiv (FP.i2d (p_sm (F 8) np)) (FP.i2d (nI np))
theorem ff_t {P : Nat → Bool} {i N : Nat} (h : i < N) (hp : P i = true) : p_ff P i (N - i) = nI i := by
  obtain ⟨k, hk⟩ : ∃ k, N - i = k + 1 := ⟨N - i - 1, by omega⟩
  rw [hk, p_ff, if_pos hp]
theorem ff_f {P : Nat → Bool} {i N : Nat} (h : i < N) (hp : P i = false) : p_ff P i (N - i) = p_ff P (i + 1) (N - (i + 1)) := by
  obtain ⟨k, hk⟩ : ∃ k, N - i = k + 1 := ⟨N - i - 1, by omega⟩
  rw [hk, p_ff, if_neg (by rw [hp]; decide), show N - (i + 1) = k by omega]
theorem bl_t {f : Nat → Nat} {i : Nat} (h : (p_bl f i).2 < f i) : p_bl f (i + 1) = (nI i, f i) := by rw [p_bl, if_pos h]
theorem bl_f {f : Nat → Nat} {i : Nat} (h : ¬ (p_bl f i).2 < f i) : p_bl f (i + 1) = p_bl f i := by rw [p_bl, if_neg h]
theorem bl_le {f : Nat → Nat} {b : Nat} (h : ∀ o, f o ≤ b) : ∀ i, (p_bl f i).2 ≤ b
  | 0 => Nat.zero_le _
  | i + 1 => by rw [p_bl]; split; exact h i; exact bl_le h i
theorem go_keep (F : Nat → Nat → Int32) (sh : Int32) (p : Nat) (q t : Int32) (k : Nat) (h9 : k ≠ 9) (h10 : k ≠ 10) : ∀ o, (p_go F sh p q t o).1 k = F k
  | 0 => rfl
  | o + 1 => by
    rw [p_go]
    split
    · rw [← go_keep F sh p q t k h9 h10 o]
      simp only [p_us, p_use]
      split
      · rfl
      · rw [va_up_ne _ _ h10, va_up_ne _ _ h9]
    · exact go_keep F sh p q t k h9 h10 o
theorem bars_cong {F F' : Nat → Nat → Int32} (h : ∀ k, k ≠ 9 → k ≠ 10 → F' k = F k) (sh : Int32) (o p : Nat) (q t : Int32) : p_bars F' sh o p q t = p_bars F sh o p q t := by
  simp only [p_bars, p_on, p_at, p_ex, h 0 (by decide) (by decide), h 1 (by decide) (by decide), h 2 (by decide) (by decide), h 4 (by decide) (by decide), h 5 (by decide) (by decide), h 6 (by decide) (by decide)]
theorem pl_eq (j c : Nat) : 4 * nI j + nI c = nI (j * 4 + c) := by rw [show (4 : Int32) = nI 4 from rfl, pk_mul, nI_add, Nat.mul_comm]
theorem pwi_gt2 {x a b : Int32} (h : b < x) : p_wi x a b = false := by
  rw [Int32.lt_iff_toInt_lt] at h
  simp [p_wi, Int32.le_iff_toInt_le]; omega
theorem pwi_ok2 {x a b : Int32} (h : ¬ x < a) (h2 : ¬ b < x) : p_wi x a b = true := by
  rw [Int32.lt_iff_toInt_lt] at h h2
  simp [p_wi, Int32.le_iff_toInt_le] at *; omega
theorem pwi_lit (x : Int32) {k : Nat} (hk : k < 2 ^ 31) : p_wi x 0 (nI k) = p_in x (k + 1) := by
  have h0 : (0 : Int32).toInt = 0 := by decide
  simp only [p_wi, p_in, Int32.le_iff_toInt_le, h0, nI_toInt hk]
  congr 1
  exact decide_eq_decide.mpr (by omega)
theorem pwi_in (x : Int32) {n : Nat} (hn : n < 2 ^ 31) : p_wi x 0 (nI n - 1) = p_in x n := by
  cases n with
  | zero =>
    have h0 : (0 : Int32).toInt = 0 := by decide
    have h1 : (nI 0 - 1 : Int32).toInt = -1 := by decide
    simp only [p_wi, p_in, Int32.le_iff_toInt_le, h0, h1]
    congr 1
    exact decide_eq_decide.mpr (by omega)
  | succ k => rw [nI_pred, pwi_lit x (by omega)]
theorem and1 (x : Int32) : x &&& 1 = 0 ∨ x &&& 1 = 1 := by
  obtain ⟨j, hj, e⟩ := pk_andE x (m := 1) 1 (by decide)
  rcases (show j = 0 ∨ j = 1 by omega) with rfl | rfl
  · exact Or.inl e
  · exact Or.inr e
theorem and1_q (x : Int32) : decide (x &&& 1 = 1) = !decide (x &&& 1 = 0) := by
  rcases and1 x with h | h <;> rw [h] <;> rfl
theorem and1_b (x : Int32) : x &&& 1 = b2i (!decide (x &&& 1 = 0)) := by
  rcases and1 x with h | h <;> rw [h] <;> rfl
theorem ex_t {F : Nat → Nat → Int32} {o : Nat} {t : Int32} (h : F 5 o >>> (t &&& 31) &&& 1 = 1) : p_ex F o t = true := by rw [p_ex, h]; rfl
theorem ex_f {F : Nat → Nat → Int32} {o : Nat} {t : Int32} (h : ¬ F 5 o >>> (t &&& 31) &&& 1 = 1) : p_ex F o t = false := by
  rcases and1 (F 5 o >>> (t &&& 31)) with q | q
  · rw [p_ex, q]; rfl
  · exact absurd q h
theorem ne_t {n k : Nat} (h : ¬ nI n = nI k) : (!decide (n = k)) = true := by
  rw [decide_eq_false (fun e => h (by rw [e]))]; rfl
theorem ne_f {n k : Nat} (hn : n < 2 ^ 31) (hk : k < 2 ^ 31) (h : nI n = nI k) : (!decide (n = k)) = false := by
  rw [decide_eq_true ((nI_eq hn hk).mp h)]; rfl
/-- what a call leaves: y where it throws nothing, x as it was else -/
def nx {α : Type} (k : Int32) (y x : α) : α := if k = 0 then y else x
theorem nx0 {α : Type} {y x : α} : nx 0 y x = y := if_pos rfl
theorem nx1 {α : Type} {y x : α} : nx 1 y x = x := if_neg (by decide)
theorem nx2 {α : Type} {y x : α} : nx 2 y x = x := if_neg (by decide)
theorem nx3 {α : Type} {y x : α} : nx 3 y x = x := if_neg (by decide)
theorem pred1 (n : Nat) : nI (n + 1) - 1 = nI n := nI_pred n
/-! the reference's own ways of counting -/
def p_pB (F : Nat → Nat → Int32) (sh nw : Int32) (k o : Nat) : Bool := p_on F sh o (nw + nI k + 1) && !p_on F sh o (nw + nI k)
def p_w0 (F : Nat → Nat → Int32) (wt : Nat → Int32) (p : Nat) : Nat → Nat → Int32
  | 0 => wt
  | i + 1 => upd (p_w0 F wt p i) i (-F 9 (p * 4 + i))
def p_w1 (F : Nat → Nat → Int32) (sh : Int32) (w0 : Nat → Int32) (p : Nat) (q t : Int32) : Nat → Nat → Int32
  | 0 => w0
  | o + 1 => if p_bars F sh o p q t then upd (p_w1 F sh w0 p q t o) (F 3 o).toNatClampNeg (p_w1 F sh w0 p q t o (F 3 o).toNatClampNeg + 1) else p_w1 F sh w0 p q t o
def p_sn (f : Nat → Nat) : Nat → Nat
  | 0 => 0
  | n + 1 => p_sn f n + f n
def p_pq (F : Nat → Nat → Int32) (sh : Int32) (no : Nat) (t : Int32) (p q : Nat) : Bool := decide (p_miss F sh no p (nI q) t (-1) = 0)
def p_pr (F : Nat → Nat → Int32) (sh : Int32) (nq no np : Nat) (t : Int32) : Nat := p_sn (fun p => p_ct (p_pq F sh no t p) nq) np
def p_lf (F : Nat → Nat → Int32) (o : Nat) : Nat → Nat → Int32 := va_up F 4 (upd (F 4) o 0)
def p_bM (F : Nat → Nat → Int32) (sh : Int32) (nq no np : Nat) (t : Int32) : Nat → Int32 × Nat
  | 0 => (-1, p_pr F sh nq no np t)
  | o + 1 => if F 4 o = 0 then p_bM F sh nq no np t o else if (p_bM F sh nq no np t o).2 < p_pr (p_lf F o) sh nq no np t then (nI o, p_pr (p_lf F o) sh nq no np t) else p_bM F sh nq no np t o
theorem lf_back {F : Nat → Nat → Int32} {o : Nat} (h : F 4 o = 1) : va_up F 4 (upd (upd (F 4) o 0) o 1) = F := by
  funext k
  by_cases hk : k = 4
  · subst hk
    rw [va_up_self]
    funext i
    by_cases hi : i = o
    · subst hi; simp [upd, h]
    · simp [upd, hi]
  · rw [va_up_ne _ _ hk]
theorem sn_le {f : Nat → Nat} {b : Nat} (h : ∀ k, f k ≤ b) : ∀ n, p_sn f n ≤ n * b
  | 0 => Nat.zero_le _
  | n + 1 => by have := sn_le h n; have := h n; simp only [p_sn, Nat.succ_mul]; omega
theorem pr_le (F : Nat → Nat → Int32) (sh : Int32) {nq no np : Nat} (t : Int32) (hq : nq ≤ 6) (hp : np ≤ 20) : p_pr F sh nq no np t ≤ 120 := by
  have h := sn_le (f := fun p => p_ct (p_pq F sh no t p) nq) (b := 6) (fun k => Nat.le_trans (ct_le _ _) hq) np
  unfold p_pr
  omega
theorem nn_vf {r : UInt64} (h : FP.Core.dIsNaN r = false) : vf_n64 r := by
  rw [← Bool.not_eq_true, FP.Core.isNaN_bits] at h
  unfold vf_n64
  rw [UInt64.le_iff_toNat_le, UInt64.toNat_and]
  have h1 : (0x7fffffffffffffff : UInt64).toNat = 2 ^ 63 - 1 := by decide
  have h2 : (0x7ff0000000000000 : UInt64).toNat = 9218868437227405312 := by decide
  rw [h1, h2, Nat.and_two_pow_sub_one_eq_mod]
  omega
theorem nn_div (x : Int32) {y : Int32} (h : y ≠ 0) : FP.Core.dIsNaN (FP.ddiv (FP.i2d x) (FP.i2d y)) = false := by
  show FP.Core.dIsNaN (FP.Core.ddiv (FP.Core.i2d x) (FP.Core.i2d y)) = false
  exact FP.Core.ddiv_out ((FP.Core.notNaN_iff _).mpr (FP.Core.i2d_fin x).ne_nan) (FP.Core.i2d_fin y) (mt (FP.Core.zero_bits2 _).mp (FP.Core.i2d_ne_zero h))
end ROW
end
section
section CAL
variable {p : Program} {l : Launch} {e : Env} {R : Room} {s : State} {m : MethodId} {args : Array Value} {below : List Frame} {meth : Method} {c : Code} {H : Heap} {locs : List Loc} {cells slots : Nat} {Q : State → Prop}
variable {cc : ByteArray} {pc : Nat} {ls : Array Slot} {rest st0 : List Value} {G : va_G} {tys tysC : List (ClassId × FieldType)} {ww wc wr : va_W} {A : Nat → Prop} {H0 : Heap} {mc ms : Nat} {aa : Array Value}
/-- a part of the world as a callee's start -/
theorem w_preP {vs : List Value} (hK : va_K G vwCl tysC s) (hP : va_P G vwCl ww H) (hD : va_D A ww) (isC : List Nat) (hn : va_nd isC = true) (hC : isC.map (fun i => ww[i]?) = wc.map some) (hC2 : isC.filterMap (fun i => ww[i]?) = wc) : ∀ U : State, U.heap = H → s.WarmedH U.vm → va_Pc vs (wPre G tysC wc H.size) vs.toArray U :=
  w_pre hK (hP.sub isC hC2) (hD.sub isC hn hC)
theorem w_pl_i {S : Type} {post : Int32 → S → Prop} {w1 : S → va_W} (hr : va_Run p l e R s m args below meth c H locs cells slots mc ms (F0 m pc ls st0) rest (va_Qi post (fun u => wP G tysC (w1 u) (va_A wc H.size)) (va_A wc H.size) aa) (va_A wc H.size))
    (hP : va_P G vwCl ww H) (hD : va_D A ww) (hS : va_S A H0 H locs) (hA : ∀ q : Nat, H0.size ≤ q → A q) (isC isR : List Nat) (hC : isC.map (fun i => ww[i]?) = wc.map some) (hR : isR.map (fun i => ww[i]?) = wr.map some) (hn : va_nd isR = true) (hdis : ∀ i ∈ isR, i ∉ isC)
    (kk : ∀ (r : Int32) (u : S) (H1 : Heap) (locs1 : List Loc), post r u → va_P G vwCl (wr ++ w1 u) H1 → va_D A (wr ++ w1 u) → va_S A H0 H1 locs1 → W p l e R s m args below meth c H1 locs1 (cells + mc) (slots + ms) Q (F0 m (pc + 3) ls (.int r :: rest))) : W p l e R s m args below meth c H locs cells slots Q (F0 m pc ls st0) := by
  have hF := va_free hD hS hA isC hC
  refine va_calli hr hS (fun q _ h => hF q h) hF (fun r u t H1 locs1 ht hvm hw hB hz hk hS1 => ?_)
  obtain ⟨hP1, hK1, hD1⟩ := hB
  rw [ht] at hP1
  obtain ⟨hP2, hD2⟩ := va_join (wr := wr) (w1 := w1 u) hP hD isC isR hC hR hn hdis hk hF hP1 hD1
  exact kk r u H1 locs1 hw hP2 hD2 hS1
theorem w_pl_l {S : Type} {post : Int64 → S → Prop} {w1 : S → va_W} (hr : va_Run p l e R s m args below meth c H locs cells slots mc ms (F0 m pc ls st0) rest (va_Ql post (fun u => wP G tysC (w1 u) (va_A wc H.size)) (va_A wc H.size) aa) (va_A wc H.size))
    (hP : va_P G vwCl ww H) (hD : va_D A ww) (hS : va_S A H0 H locs) (hA : ∀ q : Nat, H0.size ≤ q → A q) (isC isR : List Nat) (hC : isC.map (fun i => ww[i]?) = wc.map some) (hR : isR.map (fun i => ww[i]?) = wr.map some) (hn : va_nd isR = true) (hdis : ∀ i ∈ isR, i ∉ isC)
    (kk : ∀ (r : Int64) (u : S) (H1 : Heap) (locs1 : List Loc), post r u → va_P G vwCl (wr ++ w1 u) H1 → va_D A (wr ++ w1 u) → va_S A H0 H1 locs1 → W p l e R s m args below meth c H1 locs1 (cells + mc) (slots + ms) Q (F0 m (pc + 3) ls (.long r :: rest))) : W p l e R s m args below meth c H locs cells slots Q (F0 m pc ls st0) := by
  have hF := va_free hD hS hA isC hC
  refine va_calll hr hS (fun q _ h => hF q h) hF (fun r u t H1 locs1 ht hvm hw hB hz hk hS1 => ?_)
  obtain ⟨hP1, hK1, hD1⟩ := hB
  rw [ht] at hP1
  obtain ⟨hP2, hD2⟩ := va_join (wr := wr) (w1 := w1 u) hP hD isC isR hC hR hn hdis hk hF hP1 hD1
  exact kk r u H1 locs1 hw hP2 hD2 hS1
theorem w_pl_d {S : Type} {post : UInt64 → S → Prop} {w1 : S → va_W} (hr : va_Run p l e R s m args below meth c H locs cells slots mc ms (F0 m pc ls st0) rest (va_Qd post (fun u => wP G tysC (w1 u) (va_A wc H.size)) (va_A wc H.size) aa) (va_A wc H.size))
    (hP : va_P G vwCl ww H) (hD : va_D A ww) (hS : va_S A H0 H locs) (hA : ∀ q : Nat, H0.size ≤ q → A q) (isC isR : List Nat) (hC : isC.map (fun i => ww[i]?) = wc.map some) (hR : isR.map (fun i => ww[i]?) = wr.map some) (hn : va_nd isR = true) (hdis : ∀ i ∈ isR, i ∉ isC)
    (kk : ∀ (r : UInt64) (u : S) (H1 : Heap) (locs1 : List Loc), post r u → va_P G vwCl (wr ++ w1 u) H1 → va_D A (wr ++ w1 u) → va_S A H0 H1 locs1 → W p l e R s m args below meth c H1 locs1 (cells + mc) (slots + ms) Q (F0 m (pc + 3) ls (.double r :: rest))) : W p l e R s m args below meth c H locs cells slots Q (F0 m pc ls st0) := by
  have hF := va_free hD hS hA isC hC
  refine va_calld hr hS (fun q _ h => hF q h) hF (fun r u t H1 locs1 ht hvm hw hB hz hk hS1 => ?_)
  obtain ⟨hP1, hK1, hD1⟩ := hB
  rw [ht] at hP1
  obtain ⟨hP2, hD2⟩ := va_join (wr := wr) (w1 := w1 u) hP hD isC isR hC hR hn hdis hk hF hP1 hD1
  exact kk r u H1 locs1 hw hP2 hD2 hS1
theorem w_pl_v {S : Type} {post : S → Prop} {B : S → State → Prop} {w1 : S → va_W} {tysU : S → List (ClassId × FieldType)} (hr : va_Run p l e R s m args below meth c H locs cells slots mc ms (F0 m pc ls st0) rest (va_Qv post (fun u => wP G (tysU u) (w1 u) (va_A wc H.size)) (va_A wc H.size) aa) (va_A wc H.size))
    (hP : va_P G vwCl ww H) (hD : va_D A ww) (hS : va_S A H0 H locs) (hA : ∀ q : Nat, H0.size ≤ q → A q) (isC isR : List Nat) (hC : isC.map (fun i => ww[i]?) = wc.map some) (hR : isR.map (fun i => ww[i]?) = wr.map some) (hn : va_nd isR = true) (hdis : ∀ i ∈ isR, i ∉ isC)
    (kk : ∀ (u : S) (H1 : Heap) (locs1 : List Loc), post u → va_K G vwCl (tysU u) s → va_P G vwCl (wr ++ w1 u) H1 → va_D A (wr ++ w1 u) → va_S A H0 H1 locs1 → W p l e R s m args below meth c H1 locs1 (cells + mc) (slots + ms) Q (F0 m (pc + 3) ls rest)) : W p l e R s m args below meth c H locs cells slots Q (F0 m pc ls st0) := by
  have hF := va_free hD hS hA isC hC
  refine va_callv hr hS (fun q _ h => hF q h) hF (fun u t H1 locs1 ht hvm hw hB hz hk hS1 => ?_)
  obtain ⟨hP1, hK1, hD1⟩ := hB
  rw [ht] at hP1
  obtain ⟨hP2, hD2⟩ := va_join (wr := wr) (w1 := w1 u) hP hD isC isR hC hR hn hdis hk hF hP1 hD1
  exact kk u H1 locs1 hw (va_K.moved hvm.symm hK1) hP2 hD2 hS1
/-- new int[N], of the class that int[] is known to have -/
theorem w_newI {cI : ClassId} {n : Int32} {N : Nat} (hx : p.tables.exec = Jvm.exec) (hb : c.code = cc) (harr : (Cond.arrayClass .int).before args s = true) (hf : s.vm.findClass ("[" ++ FieldType.int.toString) = some cI) (hK : va_K G vwCl tys s) (hP : va_P G vwCl ww H) (hD : va_D A ww) (hS : va_S A H0 H locs) (hA : ∀ q : Nat, H0.size ≤ q → A q)
    (hn : ¬ n < 0) (hN : n.toNatClampNeg = N) (hbytes : N * componentBytes .int ≤ 536870912) (hcells : cells + 1 ≤ R.cells) (hslots : slots + N ≤ R.slots) (hdg : decode cc pc = .ok (.newarray .int, 2))
    (kk : ∀ (q : Nat) (H1 : Heap), ArrOfT s cI .int ∧ va_RA s cI .int → va_P G vwCl (ww ++ [(q, .inl (cI, N, .inl (fun _ => 0)))]) H1 → va_D A (ww ++ [(q, .inl (cI, N, .inl (fun _ => 0)))]) → va_S A H0 H1 locs → W p l e R s m args below meth c H1 locs (cells + 1) (slots + N) Q (F0 m (pc + 2) ls (.ref q :: rest))) : W p l e R s m args below meth c H locs cells slots Q (F0 m pc ls (.int n :: rest)) := by
  refine va_newa (atype := .int) (ty := .int) (a0 := (N, .inl (fun _ => 0))) hx hb harr rfl hK hP hD hS hA (fun cA => rfl) hn hN hbytes hcells hslots hdg (fun q cA H1 hK1 hP1 hD1 hS1 => ?_)
  have h1 := hK1.2 tys.length (cA, .int) (by simp)
  have h2 : s.vm.findClass ("[" ++ FieldType.int.toString) = some cA := h1.2
  have e : cA = cI := Option.some.inj (h2.symm.trans hf)
  subst e
  exact kk q H1 h1 hP1 hD1 hS1
theorem w_newZ {cI : ClassId} {n : Int32} {N : Nat} (hx : p.tables.exec = Jvm.exec) (hb : c.code = cc) (harr : (Cond.arrayClass .boolean).before args s = true) (hf : s.vm.findClass ("[" ++ FieldType.boolean.toString) = some cI) (hK : va_K G vwCl tys s) (hP : va_P G vwCl ww H) (hD : va_D A ww) (hS : va_S A H0 H locs) (hA : ∀ q : Nat, H0.size ≤ q → A q)
    (hn : ¬ n < 0) (hN : n.toNatClampNeg = N) (hbytes : N * componentBytes .boolean ≤ 536870912) (hcells : cells + 1 ≤ R.cells) (hslots : slots + N ≤ R.slots) (hdg : decode cc pc = .ok (.newarray .boolean, 2))
    (kk : ∀ (q : Nat) (H1 : Heap), ArrOfT s cI .boolean ∧ va_RA s cI .boolean → va_P G vwCl (ww ++ [(q, .inl (cI, N, .inl (fun _ => 0)))]) H1 → va_D A (ww ++ [(q, .inl (cI, N, .inl (fun _ => 0)))]) → va_S A H0 H1 locs → W p l e R s m args below meth c H1 locs (cells + 1) (slots + N) Q (F0 m (pc + 2) ls (.ref q :: rest))) : W p l e R s m args below meth c H locs cells slots Q (F0 m pc ls (.int n :: rest)) := by
  refine va_newa (atype := .boolean) (ty := .boolean) (a0 := (N, .inl (fun _ => 0))) hx hb harr rfl hK hP hD hS hA (fun cA => rfl) hn hN hbytes hcells hslots hdg (fun q cA H1 hK1 hP1 hD1 hS1 => ?_)
  have h1 := hK1.2 tys.length (cA, .boolean) (by simp)
  have h2 : s.vm.findClass ("[" ++ FieldType.boolean.toString) = some cA := h1.2
  have e : cA = cI := Option.some.inj (h2.symm.trans hf)
  subst e
  exact kk q H1 h1 hP1 hD1 hS1
theorem w_K2 {cI cZ : ClassId} (hK : va_K G vwCl [] s) (h1 : ArrOfT s cI .int ∧ va_RA s cI .int) (h2 : ArrOfT s cZ .boolean ∧ va_RA s cZ .boolean) : va_K G vwCl (ty2 cI cZ) s := by
  refine ⟨hK.1, fun k q hq => ?_⟩
  match k, hq with
  | 0, hq => cases hq; exact h1
  | 1, hq => cases hq; exact h2
  | k + 2, hq => simp [ty2] at hq
end CAL
end
section
set_option maxHeartbeats 4000000 in
set_option maxRecDepth 100000 in
theorem c_X0_tideOf (l : Launch) (G : va_G) (sz : Nat) (d : Int32) : Met l yX0_tideOf wsX0_tideOf ({ frames := 0, cells := 0, slots := 0, locals := 0 } : Room) (va_Pc [.int d] (wPre G [] [] sz)) (va_Qi (fun (r : Int32) (_ : Unit) => r = p_tide d) (fun _ => wP G [] [] (va_A [] sz)) (va_A [] sz)) 0 0 (va_A [] sz) := by
  refine w_met (cc := cX0_tideOf) (maxL := 2) (ret := (some .int)) (by decide) rfl (Nat.le_of_ble_eq_true rfl) ?_
  intro pg e s m below meth cd hx hb hml hr hts hown hlocks hnm hK hsz hP hD hA hS ls hl
  have hown : s.vm.findClass RX0 = some m.cls := hown
  have hl : lv_has ls 2 [(0, .int d)] := hl
  generalize hAe : va_A [] sz = A at hD hA hS ⊢
  refine lv_iload_n hx hb dX0_tideOf_0 rfl (lv_at hl 0 rfl) ?_
  refine lv_bipush (v := 40) hx hb dX0_tideOf_1 (by decide) ?_
  refine lv_irem hx hb dX0_tideOf_3 (by decide) ?_
  refine lv_istore_n (lv' := [(1, .int (d - d / 40 * 40)), (0, .int d)]) hx hb dX0_tideOf_4 rfl hl (by decide) rfl (fun ls hl => ?_)
  refine lv_iload_n hx hb dX0_tideOf_5 rfl (lv_at hl 0 rfl) ?_
  refine lv_bipush (v := 20) hx hb dX0_tideOf_6 (by decide) ?_
  refine lv_icmp_ge (tgt := 15) hx hb dX0_tideOf_8 (by decide) (fun c8 => ?_) (fun c8 => ?_)
  · refine lv_bipush (v := 39) hx hb dX0_tideOf_15 (by decide) ?_
    refine lv_iload_n hx hb dX0_tideOf_17 rfl (lv_at hl 0 rfl) ?_
    refine lv_isub hx hb dX0_tideOf_18 ?_
    refine lv_iconst (v := 4) hx hb dX0_tideOf_19 (by decide) ?_
    refine lv_idiv hx hb dX0_tideOf_20 (by decide) ?_
    exact w_iret () hx hb hr hlocks hK hP hD hS (Nat.le_of_ble_eq_true rfl) (Nat.le_of_ble_eq_true rfl) dX0_tideOf_21 (show ((39 - (d - d / 40 * 40)) / 4) = p_tide d from by first | rw [p_tide, if_pos c8] | rw [p_tide, if_neg c8])
  · refine lv_iload_n hx hb dX0_tideOf_11 rfl (lv_at hl 0 rfl) ?_
    refine lv_iconst (v := 4) hx hb dX0_tideOf_12 (by decide) ?_
    refine lv_idiv hx hb dX0_tideOf_13 (by decide) ?_
    exact w_iret () hx hb hr hlocks hK hP hD hS (Nat.le_of_ble_eq_true rfl) (Nat.le_of_ble_eq_true rfl) dX0_tideOf_14 (show ((d - d / 40 * 40) / 4) = p_tide d from by first | rw [p_tide, if_pos c8] | rw [p_tide, if_neg c8])
set_option maxHeartbeats 4000000 in
set_option maxRecDepth 100000 in
theorem c_X0_duskOf (l : Launch) (G : va_G) (cI cZ : ClassId) (h : Nat) (a : Nat → Nat) (F : Nat → Nat → Int32) (nq no np : Nat) (sh nw : Int32) (sz : Nat) (d : Int32) : Met l yX0_duskOf wsX0_duskOf ({ frames := 1, cells := 0, slots := 0, locals := 21 } : Room) (va_Pc [.ref h, .int d] (wPre G (ty2 cI cZ) (Dk cI cZ h a F nq no np sh nw) sz)) (va_Qi (fun (r : Int32) (_ : Unit) => r = p_dusk d sh) (fun _ => wP G (ty2 cI cZ) (Dk cI cZ h a F nq no np sh nw) (va_A (Dk cI cZ h a F nq no np sh nw) sz)) (va_A (Dk cI cZ h a F nq no np sh nw) sz)) 0 0 (va_A (Dk cI cZ h a F nq no np sh nw) sz) := by
  refine w_met (cc := cX0_duskOf) (maxL := 2) (ret := (some .int)) (by decide) rfl (Nat.le_of_ble_eq_true rfl) ?_
  intro pg e s m below meth cd hx hb hml hr hts hown hlocks hnm hK hsz hP hD hA hS ls hl
  have hown : s.vm.findClass RX0 = some m.cls := hown
  have hin : ∀ w ∈ wsX00, w ∈ wsX0_duskOf := by decide +kernel
  have hl : lv_has ls 2 [(0, .ref h), (1, .int d)] := hl
  generalize hAe : va_A (Dk cI cZ h a F nq no np sh nw) sz = A at hD hA hS ⊢
  refine lv_bipush (v := 34) hx hb dX0_duskOf_0 (by decide) ?_
  refine lv_iload_n hx hb dX0_duskOf_2 rfl (lv_at hl 1 rfl) ?_
  refine w_st_i (va_runS (As := [.int d]) (rest := [.int 34]) ⟨hx, hb, hml, hown, hts⟩ (c_X0_tideOf l G s.heap.size d ) (va_cwS 1 hts gX0_duskOf_X0_tideOf rfl rfl rfl (by decide +kernel) ⟨(Nat.le_of_ble_eq_true rfl), (Nat.le_of_ble_eq_true rfl)⟩) ⟨wPre_blind, w_pre (hK.sub [] rfl) w_P0 (w_D0 (A := A))⟩ rfl rfl hl.1 rfl (lv_room (Nat.le_of_ble_eq_true rfl)) dX0_duskOf_3 ⟨(Nat.le_of_ble_eq_true rfl), (Nat.le_of_ble_eq_true rfl)⟩) hP hS hA (fun r3 u3 H locs hw3 hP hS => ?_)
  have hw3 : r3 = p_tide d := hw3
  subst hw3
  refine lv_iadd hx hb dX0_duskOf_6 ?_
  refine lv_aload_n hx hb dX0_duskOf_7 rfl (lv_at hl 0 rfl) ?_
  refine va_get (ci := 0) (v := .int sh) (C := RX0) (T := TX0) (N := 16) hx hb hts hin hown hK hP 0 rfl rfl 14 (by decide) (hts (.fieldLink RX0 86 "CurfewDesk" "duskShift" "I") (by decide +kernel)) (fun _ h9 => h9) rfl dX0_duskOf_8 ?_
  refine lv_iadd hx hb dX0_duskOf_11 ?_
  exact w_iret () hx hb hr hlocks hK hP hD hS (Nat.le_of_ble_eq_true rfl) (Nat.le_of_ble_eq_true rfl) dX0_duskOf_12 (show ((34 + (p_tide d)) + sh) = p_dusk d sh from by rfl)
set_option maxHeartbeats 4000000 in
set_option maxRecDepth 100000 in
theorem c_X0_dawnOf (l : Launch) (G : va_G) (sz : Nat) (d : Int32) : Met l yX0_dawnOf wsX0_dawnOf ({ frames := 1, cells := 0, slots := 0, locals := 21 } : Room) (va_Pc [.int d] (wPre G [] [] sz)) (va_Qi (fun (r : Int32) (_ : Unit) => r = p_dawn d) (fun _ => wP G [] [] (va_A [] sz)) (va_A [] sz)) 0 0 (va_A [] sz) := by
  refine w_met (cc := cX0_dawnOf) (maxL := 1) (ret := (some .int)) (by decide) rfl (Nat.le_of_ble_eq_true rfl) ?_
  intro pg e s m below meth cd hx hb hml hr hts hown hlocks hnm hK hsz hP hD hA hS ls hl
  have hown : s.vm.findClass RX0 = some m.cls := hown
  have hl : lv_has ls 1 [(0, .int d)] := hl
  generalize hAe : va_A [] sz = A at hD hA hS ⊢
  refine lv_bipush (v := 14) hx hb dX0_dawnOf_0 (by decide) ?_
  refine lv_iload_n hx hb dX0_dawnOf_2 rfl (lv_at hl 0 rfl) ?_
  refine w_st_i (va_runS (As := [.int d]) (rest := [.int 14]) ⟨hx, hb, hml, hown, hts⟩ (c_X0_tideOf l G s.heap.size d ) (va_cwS 1 hts gX0_dawnOf_X0_tideOf rfl rfl rfl (by decide +kernel) ⟨(Nat.le_of_ble_eq_true rfl), (Nat.le_of_ble_eq_true rfl)⟩) ⟨wPre_blind, w_pre (hK.sub [] rfl) w_P0 (w_D0 (A := A))⟩ rfl rfl hl.1 rfl (lv_room (Nat.le_of_ble_eq_true rfl)) dX0_dawnOf_3 ⟨(Nat.le_of_ble_eq_true rfl), (Nat.le_of_ble_eq_true rfl)⟩) hP hS hA (fun r3 u3 H locs hw3 hP hS => ?_)
  have hw3 : r3 = p_tide d := hw3
  subst hw3
  refine lv_isub hx hb dX0_dawnOf_6 ?_
  exact w_iret () hx hb hr hlocks hK hP hD hS (Nat.le_of_ble_eq_true rfl) (Nat.le_of_ble_eq_true rfl) dX0_dawnOf_7 (show (14 - (p_tide d)) = p_dawn d from by rfl)
set_option maxHeartbeats 4000000 in
set_option maxRecDepth 100000 in
theorem c_X0_isInHours (l : Launch) (G : va_G) (cI cZ : ClassId) (h : Nat) (a : Nat → Nat) (F : Nat → Nat → Int32) (nq no np : Nat) (sh nw : Int32) (sz : Nat) (o : Nat) (t : Int32) (ho : o < 10) : Met l yX0_isInHours wsX0_isInHours ({ frames := 2, cells := 0, slots := 0, locals := 42 } : Room) (va_Pc [.ref h, .int (nI o), .int t] (wPre G (ty2 cI cZ) (Dk cI cZ h a F nq no np sh nw) sz)) (va_Qi (fun (r : Int32) (_ : Unit) => r = b2i (p_at F sh o t)) (fun _ => wP G (ty2 cI cZ) (Dk cI cZ h a F nq no np sh nw) (va_A (Dk cI cZ h a F nq no np sh nw) sz)) (va_A (Dk cI cZ h a F nq no np sh nw) sz)) 0 0 (va_A (Dk cI cZ h a F nq no np sh nw) sz) := by
  refine w_met (cc := cX0_isInHours) (maxL := 5) (ret := (some .boolean)) (by decide) rfl (Nat.le_of_ble_eq_true rfl) ?_
  intro pg e s m below meth cd hx hb hml hr hts hown hlocks hnm hK hsz hP hD hA hS ls hl
  have hown : s.vm.findClass RX0 = some m.cls := hown
  have hin : ∀ w ∈ wsX00, w ∈ wsX0_isInHours := by decide +kernel
  have hl : lv_has ls 5 [(0, .ref h), (1, .int (nI o)), (2, .int t)] := hl
  generalize hAe : va_A (Dk cI cZ h a F nq no np sh nw) sz = A at hD hA hS ⊢
  refine lv_iload_n hx hb dX0_isInHours_0 rfl (lv_at hl 2 rfl) ?_
  refine lv_bipush (v := 48) hx hb dX0_isInHours_1 (by decide) ?_
  refine lv_idiv hx hb dX0_isInHours_3 (by decide) ?_
  refine lv_istore_n (lv' := [(3, .int (t / 48)), (0, .ref h), (1, .int (nI o)), (2, .int t)]) hx hb dX0_isInHours_4 rfl hl (by decide) rfl (fun ls hl => ?_)
  refine lv_iload_n hx hb dX0_isInHours_5 rfl (lv_at hl 3 rfl) ?_
  refine lv_bipush (v := 48) hx hb dX0_isInHours_6 (by decide) ?_
  refine lv_irem hx hb dX0_isInHours_8 (by decide) ?_
  refine lv_istore (lv' := [(4, .int (t - t / 48 * 48)), (3, .int (t / 48)), (0, .ref h), (1, .int (nI o)), (2, .int t)]) hx hb dX0_isInHours_9 hl (by decide) rfl (fun ls hl => ?_)
  refine lv_iload hx hb dX0_isInHours_11 (lv_at hl 0 rfl) ?_
  refine lv_aload_n hx hb dX0_isInHours_13 rfl (lv_at hl 2 rfl) ?_
  refine lv_iload_n hx hb dX0_isInHours_14 rfl (lv_at hl 1 rfl) ?_
  refine w_in_i (va_runV (As := [.int (t / 48)]) (rest := [.int (t - t / 48 * 48)]) ⟨hx, hb, hml, hown, hts⟩ (c_X0_duskOf l G cI cZ h a F nq no np sh nw s.heap.size (t / 48) ) (cwV 1 hts gX0_isInHours_X0_duskOf rfl rfl rfl (by decide +kernel) ⟨(Nat.le_of_ble_eq_true rfl), (Nat.le_of_ble_eq_true rfl)⟩) ⟨wPre_blind, va_recv hK hP (ci := 0) (q0 := 0) rfl rfl, w_pre hK hP hD⟩ rfl rfl hl.1 rfl (lv_room (Nat.le_of_ble_eq_true rfl)) dX0_isInHours_15 ⟨(Nat.le_of_ble_eq_true rfl), (Nat.le_of_ble_eq_true rfl)⟩) hD hS hA (fun r15 u15 H locs hw15 hP hD hS => ?_)
  have hP : va_P G vwCl (Dk cI cZ h a F nq no np sh nw) H := hP
  have hD : va_D A (Dk cI cZ h a F nq no np sh nw) := hD
  have hw15 : r15 = p_dusk (t / 48) sh := hw15
  subst hw15
  refine lv_aload_n hx hb dX0_isInHours_18 rfl (lv_at hl 2 rfl) ?_
  refine va_get (ci := 0) (v := .ref (a 1)) (C := RX0) (T := TX0) (N := 16) hx hb hts hin hown hK hP 0 rfl rfl 1 (by decide) (hts (.fieldLink RX0 13 "CurfewDesk" "orderAhead" "[I") (by decide +kernel)) (fun _ h9 => h9) rfl dX0_isInHours_19 ?_
  refine lv_iload_n hx hb dX0_isInHours_22 rfl (lv_at hl 3 rfl) ?_
  refine w_iald hx hb hK hP 2 0 rfl rfl (f := (F 1)) (j := o) (by omega) (by omega) dX0_isInHours_23 ?_
  refine lv_isub hx hb dX0_isInHours_24 ?_
  refine lv_icmp_ge (tgt := 44) hx hb dX0_isInHours_25 (by decide) (fun c25 => ?_) (fun c25 => ?_)
  · refine lv_iconst (v := 1) hx hb dX0_isInHours_44 (by decide) ?_
    refine lv_goto (tgt := 49) hx hb dX0_isInHours_45 (by decide) ?_
    exact w_zret () hx hb hr hlocks hK hP hD hS (Nat.le_of_ble_eq_true rfl) (Nat.le_of_ble_eq_true rfl) dX0_isInHours_49 rfl (show 1 = b2i (p_at F sh o t) from by simp only [p_at, decide_eq_true c25, Bool.not_true, Bool.not_false, Bool.true_or, Bool.false_or, Bool.or_true, Bool.or_false, Bool.true_and, Bool.false_and, Bool.and_true, Bool.and_false, b2i_T, b2i_F])
  · refine lv_iload hx hb dX0_isInHours_28 (lv_at hl 0 rfl) ?_
    refine lv_iload_n hx hb dX0_isInHours_30 rfl (lv_at hl 1 rfl) ?_
    refine w_st_i (va_runS (As := [.int (t / 48)]) (rest := [.int (t - t / 48 * 48)]) ⟨hx, hb, hml, hown, hts⟩ (c_X0_dawnOf l G H.size (t / 48) ) (va_cwS 1 hts gX0_isInHours_X0_dawnOf rfl rfl rfl (by decide +kernel) ⟨(Nat.le_of_ble_eq_true rfl), (Nat.le_of_ble_eq_true rfl)⟩) ⟨wPre_blind, w_pre (hK.sub [] rfl) w_P0 (w_D0 (A := A))⟩ rfl rfl hl.1 rfl (lv_room (Nat.le_of_ble_eq_true rfl)) dX0_isInHours_31 ⟨(Nat.le_of_ble_eq_true rfl), (Nat.le_of_ble_eq_true rfl)⟩) hP hS hA (fun r31 u31 H locs hw31 hP hS => ?_)
    have hw31 : r31 = p_dawn (t / 48) := hw31
    subst hw31
    refine lv_aload_n hx hb dX0_isInHours_34 rfl (lv_at hl 2 rfl) ?_
    refine va_get (ci := 0) (v := .ref (a 2)) (C := RX0) (T := TX0) (N := 16) hx hb hts hin hown hK hP 0 rfl rfl 2 (by decide) (hts (.fieldLink RX0 16 "CurfewDesk" "orderBehind" "[I") (by decide +kernel)) (fun _ h9 => h9) rfl dX0_isInHours_35 ?_
    refine lv_iload_n hx hb dX0_isInHours_38 rfl (lv_at hl 3 rfl) ?_
    refine w_iald hx hb hK hP 3 0 rfl rfl (f := (F 2)) (j := o) (by omega) (by omega) dX0_isInHours_39 ?_
    refine lv_iadd hx hb dX0_isInHours_40 ?_
    refine lv_icmp_ge (tgt := 48) hx hb dX0_isInHours_41 (by decide) (fun c41 => ?_) (fun c41 => ?_)
    · refine lv_iconst (v := 0) hx hb dX0_isInHours_48 (by decide) ?_
      exact w_zret () hx hb hr hlocks hK hP hD hS (Nat.le_of_ble_eq_true rfl) (Nat.le_of_ble_eq_true rfl) dX0_isInHours_49 rfl (show 0 = b2i (p_at F sh o t) from by simp only [p_at, decide_eq_false c25, decide_eq_true c41, Bool.not_true, Bool.not_false, Bool.true_or, Bool.false_or, Bool.or_true, Bool.or_false, Bool.true_and, Bool.false_and, Bool.and_true, Bool.and_false, b2i_T, b2i_F])
    · refine lv_iconst (v := 1) hx hb dX0_isInHours_44 (by decide) ?_
      refine lv_goto (tgt := 49) hx hb dX0_isInHours_45 (by decide) ?_
      exact w_zret () hx hb hr hlocks hK hP hD hS (Nat.le_of_ble_eq_true rfl) (Nat.le_of_ble_eq_true rfl) dX0_isInHours_49 rfl (show 1 = b2i (p_at F sh o t) from by simp only [p_at, decide_eq_false c25, decide_eq_false c41, Bool.not_true, Bool.not_false, Bool.true_or, Bool.false_or, Bool.or_true, Bool.or_false, Bool.true_and, Bool.false_and, Bool.and_true, Bool.and_false, b2i_T, b2i_F])
set_option maxHeartbeats 4000000 in
set_option maxRecDepth 100000 in
theorem c_X0_isOnAt (l : Launch) (G : va_G) (cI cZ : ClassId) (h : Nat) (a : Nat → Nat) (F : Nat → Nat → Int32) (nq no np : Nat) (sh nw : Int32) (sz : Nat) (o : Nat) (t : Int32) (ho : o < 10) : Met l yX0_isOnAt wsX0_isOnAt ({ frames := 3, cells := 0, slots := 0, locals := 66 } : Room) (va_Pc [.ref h, .int (nI o), .int t] (wPre G (ty2 cI cZ) (Dk cI cZ h a F nq no np sh nw) sz)) (va_Qi (fun (r : Int32) (_ : Unit) => r = b2i (p_on F sh o t)) (fun _ => wP G (ty2 cI cZ) (Dk cI cZ h a F nq no np sh nw) (va_A (Dk cI cZ h a F nq no np sh nw) sz)) (va_A (Dk cI cZ h a F nq no np sh nw) sz)) 0 0 (va_A (Dk cI cZ h a F nq no np sh nw) sz) := by
  refine w_met (cc := cX0_isOnAt) (maxL := 3) (ret := (some .boolean)) (by decide) rfl (Nat.le_of_ble_eq_true rfl) ?_
  intro pg e s m below meth cd hx hb hml hr hts hown hlocks hnm hK hsz hP hD hA hS ls hl
  have hown : s.vm.findClass RX0 = some m.cls := hown
  have hin : ∀ w ∈ wsX00, w ∈ wsX0_isOnAt := by decide +kernel
  have hl : lv_has ls 3 [(0, .ref h), (1, .int (nI o)), (2, .int t)] := hl
  generalize hAe : va_A (Dk cI cZ h a F nq no np sh nw) sz = A at hD hA hS ⊢
  refine lv_aload_n hx hb dX0_isOnAt_0 rfl (lv_at hl 0 rfl) ?_
  refine va_get (ci := 0) (v := .ref (a 4)) (C := RX0) (T := TX0) (N := 16) hx hb hts hin hown hK hP 0 rfl rfl 4 (by decide) (hts (.fieldLink RX0 22 "CurfewDesk" "orderInForce" "[Z") (by decide +kernel)) (fun _ h9 => h9) rfl dX0_isOnAt_1 ?_
  refine lv_iload_n hx hb dX0_isOnAt_4 rfl (lv_at hl 1 rfl) ?_
  refine w_zald hx hb hK hP 5 1 rfl rfl (f := (F 4)) (j := o) (by omega) (by omega) dX0_isOnAt_5 ?_
  refine lv_if_eq (tgt := 22) hx hb dX0_isOnAt_6 (by decide) (fun c6 => ?_) (fun c6 => ?_)
  · refine lv_iconst (v := 0) hx hb dX0_isOnAt_22 (by decide) ?_
    exact w_zret () hx hb hr hlocks hK hP hD hS (Nat.le_of_ble_eq_true rfl) (Nat.le_of_ble_eq_true rfl) dX0_isOnAt_23 rfl (show 0 = b2i (p_on F sh o t) from by simp only [p_on, decide_eq_true c6, Bool.not_true, Bool.not_false, Bool.true_or, Bool.false_or, Bool.or_true, Bool.or_false, Bool.true_and, Bool.false_and, Bool.and_true, Bool.and_false, b2i_T, b2i_F])
  · refine lv_aload_n hx hb dX0_isOnAt_9 rfl (lv_at hl 0 rfl) ?_
    refine lv_iload_n hx hb dX0_isOnAt_10 rfl (lv_at hl 1 rfl) ?_
    refine lv_iload_n hx hb dX0_isOnAt_11 rfl (lv_at hl 2 rfl) ?_
    refine w_in_i (va_runV (As := [.int (nI o), .int t]) (rest := []) ⟨hx, hb, hml, hown, hts⟩ (c_X0_isInHours l G cI cZ h a F nq no np sh nw s.heap.size o t (by omega)) (cwV 2 hts gX0_isOnAt_X0_isInHours rfl rfl rfl (by decide +kernel) ⟨(Nat.le_of_ble_eq_true rfl), (Nat.le_of_ble_eq_true rfl)⟩) ⟨wPre_blind, va_recv hK hP (ci := 0) (q0 := 0) rfl rfl, w_pre hK hP hD⟩ rfl rfl hl.1 rfl (lv_room (Nat.le_of_ble_eq_true rfl)) dX0_isOnAt_12 ⟨(Nat.le_of_ble_eq_true rfl), (Nat.le_of_ble_eq_true rfl)⟩) hD hS hA (fun r12 u12 H locs hw12 hP hD hS => ?_)
    have hP : va_P G vwCl (Dk cI cZ h a F nq no np sh nw) H := hP
    have hD : va_D A (Dk cI cZ h a F nq no np sh nw) := hD
    have hw12 : r12 = b2i (p_at F sh o t) := hw12
    subst hw12
    refine w_selE (v1 := 1) (v2 := 0) hx hb dX0_isOnAt_15 (by decide) dX0_isOnAt_18 (by decide) dX0_isOnAt_19 (by decide) dX0_isOnAt_22 (by decide) ?_
    rw [b2i_sel]
    exact w_zret () hx hb hr hlocks hK hP hD hS (Nat.le_of_ble_eq_true rfl) (Nat.le_of_ble_eq_true rfl) dX0_isOnAt_23 (b2i_n _) (show (b2i (p_at F sh o t)) = b2i (p_on F sh o t) from by simp only [p_on, decide_eq_false c6, Bool.not_true, Bool.not_false, Bool.true_or, Bool.false_or, Bool.or_true, Bool.or_false, Bool.true_and, Bool.false_and, Bool.and_true, Bool.and_false, b2i_T, b2i_F])
set_option maxHeartbeats 4000000 in
set_option maxRecDepth 100000 in
theorem c_X0_timesBegun (l : Launch) (G : va_G) (cI cZ : ClassId) (h : Nat) (a : Nat → Nat) (F : Nat → Nat → Int32) (nq no np : Nat) (sh nw : Int32) (sz : Nat) (o : Nat) (hh : Nat) (ho : o < 10) (hhh : hh ≤ 200) : Met l yX0_timesBegun wsX0_timesBegun ({ frames := 4, cells := 0, slots := 0, locals := 88 } : Room) (va_Pc [.ref h, .int (nI o), .int (nI hh)] (wPre G (ty2 cI cZ) (Dk cI cZ h a F nq no np sh nw) sz)) (va_Qi (fun (r : Int32) (_ : Unit) => r = nI (p_ct (p_tb F sh nw o) hh)) (fun _ => wP G (ty2 cI cZ) (Dk cI cZ h a F nq no np sh nw) (va_A (Dk cI cZ h a F nq no np sh nw) sz)) (va_A (Dk cI cZ h a F nq no np sh nw) sz)) 0 0 (va_A (Dk cI cZ h a F nq no np sh nw) sz) := by
  refine w_met (cc := cX0_timesBegun) (maxL := 7) (ret := (some .int)) (by decide) rfl (Nat.le_of_ble_eq_true rfl) ?_
  intro pg e s m below meth cd hx hb hml hr hts hown hlocks hnm hK hsz hP hD hA hS ls hl
  have hown : s.vm.findClass RX0 = some m.cls := hown
  have hin : ∀ w ∈ wsX00, w ∈ wsX0_timesBegun := by decide +kernel
  have hl : lv_has ls 7 [(0, .ref h), (1, .int (nI o)), (2, .int (nI hh))] := hl
  generalize hAe : va_A (Dk cI cZ h a F nq no np sh nw) sz = A at hD hA hS ⊢
  refine lv_iconst (v := 0) hx hb dX0_timesBegun_0 (by decide) ?_
  refine lv_istore_n (lv' := [(3, .int 0), (0, .ref h), (1, .int (nI o)), (2, .int (nI hh))]) hx hb dX0_timesBegun_1 rfl hl (by decide) rfl (fun ls hl => ?_)
  refine lv_aload_n hx hb dX0_timesBegun_2 rfl (lv_at hl 1 rfl) ?_
  refine lv_iload_n hx hb dX0_timesBegun_3 rfl (lv_at hl 2 rfl) ?_
  refine lv_aload_n hx hb dX0_timesBegun_4 rfl (lv_at hl 1 rfl) ?_
  refine va_get (ci := 0) (v := .int nw) (C := RX0) (T := TX0) (N := 16) hx hb hts hin hown hK hP 0 rfl rfl 15 (by decide) (hts (.fieldLink RX0 101 "CurfewDesk" "now" "I") (by decide +kernel)) (fun _ h9 => h9) rfl dX0_timesBegun_5 ?_
  refine w_in_i (va_runV (As := [.int (nI o), .int nw]) (rest := []) ⟨hx, hb, hml, hown, hts⟩ (c_X0_isOnAt l G cI cZ h a F nq no np sh nw s.heap.size o nw (by omega)) (cwV 2 hts gX0_timesBegun_X0_isOnAt rfl rfl rfl (by decide +kernel) ⟨(Nat.le_of_ble_eq_true rfl), (Nat.le_of_ble_eq_true rfl)⟩) ⟨wPre_blind, va_recv hK hP (ci := 0) (q0 := 0) rfl rfl, w_pre hK hP hD⟩ rfl rfl hl.1 rfl (lv_room (Nat.le_of_ble_eq_true rfl)) dX0_timesBegun_8 ⟨(Nat.le_of_ble_eq_true rfl), (Nat.le_of_ble_eq_true rfl)⟩) hD hS hA (fun r8 u8 H locs hw8 hP hD hS => ?_)
  have hP : va_P G vwCl (Dk cI cZ h a F nq no np sh nw) H := hP
  have hD : va_D A (Dk cI cZ h a F nq no np sh nw) := hD
  have hw8 : r8 = b2i (p_on F sh o nw) := hw8
  subst hw8
  refine lv_istore (lv' := [(4, .int (b2i (p_on F sh o nw))), (3, .int 0), (0, .ref h), (1, .int (nI o)), (2, .int (nI hh))]) hx hb dX0_timesBegun_11 hl (by decide) rfl (fun ls hl => ?_)
  refine lv_iconst (v := 1) hx hb dX0_timesBegun_13 (by decide) ?_
  refine lv_istore (lv' := [(5, .int 1), (4, .int (b2i (p_on F sh o nw))), (3, .int 0), (0, .ref h), (1, .int (nI o)), (2, .int (nI hh))]) hx hb dX0_timesBegun_14 hl (by decide) rfl (fun ls hl => ?_)
  have key16 : ∀ (n i16 : Nat), i16 ≤ hh → hh < i16 + n → ∀ (x3 : Int32) (x4 : Int32) (x5 : Int32), x3 = nI (p_ct (p_tb F sh nw o) i16) → x4 = b2i (p_on F sh o (nw + nI i16)) → x5 = nI (i16 + 1) → ∀ (H : Heap) (locs : List Loc), va_P G vwCl (Dk cI cZ h a F nq no np sh nw) H → va_D A (Dk cI cZ h a F nq no np sh nw) → va_S A s.heap H locs → ∀ ls : Array Slot, lv_has ls 7 [(0, .ref h), (1, .int (nI o)), (2, .int (nI hh)), (3, .int x3), (4, .int x4), (5, .int x5)] → W pg l e ({ frames := 4, cells := 0, slots := 0, locals := 88 } : Room) s m ([.ref h, .int (nI o), .int (nI hh)] : List Value).toArray below meth cd H locs (0 + 0) (0 + 0) (MQ below (va_Qi (fun (r : Int32) (_ : Unit) => r = nI (p_ct (p_tb F sh nw o) hh)) (fun _ => wP G (ty2 cI cZ) (Dk cI cZ h a F nq no np sh nw) A) A) ([.ref h, .int (nI o), .int (nI hh)] : List Value).toArray s 0 0 A) (F0 m 16 ls []) := by
    intro n
    induction n with
    | zero => intro i16 h1 h2; exact absurd h2 (by omega)
    | succ n ih16 =>
      intro i16 hi_i16 hn_i16 x3 x4 x5 e3 e4 e5 H locs hP hD hS ls hl
      subst e3 e4 e5
      refine lv_iload hx hb dX0_timesBegun_16 (lv_at hl 5 rfl) ?_
      refine lv_iload_n hx hb dX0_timesBegun_18 rfl (lv_at hl 2 rfl) ?_
      refine lv_icmp_gt (tgt := 59) hx hb dX0_timesBegun_19 (by decide) (fun c19 => ?_) (fun c19 => ?_)
      · have c19 := (nI_ltI (a := hh) (b := (i16 + 1)) (by omega) (by omega)).mp c19
        have ei : hh = i16 := by omega
        subst ei
        refine lv_iload_n hx hb dX0_timesBegun_59 rfl (lv_at hl 3 rfl) ?_
        exact w_iret () hx hb hr hlocks hK hP hD hS (Nat.le_of_ble_eq_true rfl) (Nat.le_of_ble_eq_true rfl) dX0_timesBegun_60 (show (nI (p_ct (p_tb F sh nw o) hh)) = nI (p_ct (p_tb F sh nw o) hh) from by rfl)
      · have c19 := mt (nI_ltI (a := hh) (b := (i16 + 1)) (by omega) (by omega)).mpr c19
        have hlt_i16 : i16 < hh := by omega
        refine lv_aload_n hx hb dX0_timesBegun_22 rfl (lv_at hl 0 rfl) ?_
        refine lv_iload_n hx hb dX0_timesBegun_23 rfl (lv_at hl 1 rfl) ?_
        refine lv_aload_n hx hb dX0_timesBegun_24 rfl (lv_at hl 0 rfl) ?_
        refine va_get (ci := 0) (v := .int nw) (C := RX0) (T := TX0) (N := 16) hx hb hts hin hown hK hP 0 rfl rfl 15 (by decide) (hts (.fieldLink RX0 101 "CurfewDesk" "now" "I") (by decide +kernel)) (fun _ h9 => h9) rfl dX0_timesBegun_25 ?_
        refine lv_iload hx hb dX0_timesBegun_28 (lv_at hl 5 rfl) ?_
        refine lv_iadd hx hb dX0_timesBegun_30 ?_
        refine w_in_i (va_runV (As := [.int (nI o), .int (nw + (nI (i16 + 1)))]) (rest := []) ⟨hx, hb, hml, hown, hts⟩ (c_X0_isOnAt l G cI cZ h a F nq no np sh nw H.size o (nw + (nI (i16 + 1))) (by omega)) (cwV 2 hts gX0_timesBegun_X0_isOnAt rfl rfl rfl (by decide +kernel) ⟨(Nat.le_of_ble_eq_true rfl), (Nat.le_of_ble_eq_true rfl)⟩) ⟨wPre_blind, va_recv hK hP (ci := 0) (q0 := 0) rfl rfl, w_pre hK hP hD⟩ rfl rfl hl.1 rfl (lv_room (Nat.le_of_ble_eq_true rfl)) dX0_timesBegun_31 ⟨(Nat.le_of_ble_eq_true rfl), (Nat.le_of_ble_eq_true rfl)⟩) hD hS hA (fun r31 u31 H locs hw31 hP hD hS => ?_)
        have hP : va_P G vwCl (Dk cI cZ h a F nq no np sh nw) H := hP
        have hD : va_D A (Dk cI cZ h a F nq no np sh nw) := hD
        have hw31 : r31 = b2i (p_on F sh o (nw + (nI (i16 + 1)))) := hw31
        subst hw31
        refine lv_istore (lv' := [(6, .int (b2i (p_on F sh o (nw + (nI (i16 + 1)))))), (0, .ref h), (1, .int (nI o)), (2, .int (nI hh)), (3, .int (nI (p_ct (p_tb F sh nw o) i16))), (4, .int (b2i (p_on F sh o (nw + nI i16)))), (5, .int (nI (i16 + 1)))]) hx hb dX0_timesBegun_34 hl (by decide) rfl (fun ls hl => ?_)
        refine lv_iload hx hb dX0_timesBegun_36 (lv_at hl 0 rfl) ?_
        refine lv_if_eq (tgt := 49) hx hb dX0_timesBegun_38 (by decide) (fun c38 => ?_) (fun c38 => ?_)
        · have c38 := b2i_0.mp c38
          refine lv_iload hx hb dX0_timesBegun_49 (lv_at hl 0 rfl) ?_
          refine lv_istore (lv' := [(4, .int (b2i (p_on F sh o (nw + (nI (i16 + 1)))))), (6, .int (b2i (p_on F sh o (nw + (nI (i16 + 1)))))), (0, .ref h), (1, .int (nI o)), (2, .int (nI hh)), (3, .int (nI (p_ct (p_tb F sh nw o) i16))), (5, .int (nI (i16 + 1)))]) hx hb dX0_timesBegun_51 hl (by decide) rfl (fun ls hl => ?_)
          refine lv_iinc (v := nI (i16 + 1) + 1) (lv' := [(5, .int (nI (i16 + 1) + 1)), (4, .int (b2i (p_on F sh o (nw + (nI (i16 + 1)))))), (6, .int (b2i (p_on F sh o (nw + (nI (i16 + 1)))))), (0, .ref h), (1, .int (nI o)), (2, .int (nI hh)), (3, .int (nI (p_ct (p_tb F sh nw o) i16)))]) hx hb dX0_timesBegun_53 hl (k := 6) rfl rfl (by decide) rfl (fun ls hl => ?_)
          refine lv_goto (tgt := 16) hx hb dX0_timesBegun_56 (by decide) ?_
          exact ih16 (i16 + 1) (by omega) (by omega) (nI (p_ct (p_tb F sh nw o) i16)) (b2i (p_on F sh o (nw + (nI (i16 + 1))))) (nI (i16 + 1) + 1) (by first | exact nct_t (by rw [p_tb, c38]; rfl) | exact nct_f (by rw [p_tb, c38]; rfl)) (by rfl) (by first | exact nI_1 _ | exact nct_t (by assumption) | exact nct_f (by assumption) | exact nct_b | rfl) _ _ hP hD hS _ (lv_sub hl [3, 4, 5, 6, 1, 0] rfl)
        · have c38 := b2i_1.mp c38
          refine lv_iload hx hb dX0_timesBegun_41 (lv_at hl 5 rfl) ?_
          refine lv_if_ne (tgt := 49) hx hb dX0_timesBegun_43 (by decide) (fun c43 => ?_) (fun c43 => ?_)
          · have c43 := b2i_1.mp c43
            refine lv_iload hx hb dX0_timesBegun_49 (lv_at hl 0 rfl) ?_
            refine lv_istore (lv' := [(4, .int (b2i (p_on F sh o (nw + (nI (i16 + 1)))))), (6, .int (b2i (p_on F sh o (nw + (nI (i16 + 1)))))), (0, .ref h), (1, .int (nI o)), (2, .int (nI hh)), (3, .int (nI (p_ct (p_tb F sh nw o) i16))), (5, .int (nI (i16 + 1)))]) hx hb dX0_timesBegun_51 hl (by decide) rfl (fun ls hl => ?_)
            refine lv_iinc (v := nI (i16 + 1) + 1) (lv' := [(5, .int (nI (i16 + 1) + 1)), (4, .int (b2i (p_on F sh o (nw + (nI (i16 + 1)))))), (6, .int (b2i (p_on F sh o (nw + (nI (i16 + 1)))))), (0, .ref h), (1, .int (nI o)), (2, .int (nI hh)), (3, .int (nI (p_ct (p_tb F sh nw o) i16)))]) hx hb dX0_timesBegun_53 hl (k := 6) rfl rfl (by decide) rfl (fun ls hl => ?_)
            refine lv_goto (tgt := 16) hx hb dX0_timesBegun_56 (by decide) ?_
            exact ih16 (i16 + 1) (by omega) (by omega) (nI (p_ct (p_tb F sh nw o) i16)) (b2i (p_on F sh o (nw + (nI (i16 + 1))))) (nI (i16 + 1) + 1) (by first | exact nct_t (by rw [p_tb, c38, c43]; rfl) | exact nct_f (by rw [p_tb, c38, c43]; rfl)) (by rfl) (by first | exact nI_1 _ | exact nct_t (by assumption) | exact nct_f (by assumption) | exact nct_b | rfl) _ _ hP hD hS _ (lv_sub hl [3, 4, 5, 6, 1, 0] rfl)
          · have c43 := b2i_0.mp c43
            refine lv_iinc (v := nI (p_ct (p_tb F sh nw o) i16) + 1) (lv' := [(3, .int (nI (p_ct (p_tb F sh nw o) i16) + 1)), (6, .int (b2i (p_on F sh o (nw + (nI (i16 + 1)))))), (0, .ref h), (1, .int (nI o)), (2, .int (nI hh)), (4, .int (b2i (p_on F sh o (nw + nI i16)))), (5, .int (nI (i16 + 1)))]) hx hb dX0_timesBegun_46 hl (k := 4) rfl rfl (by decide) rfl (fun ls hl => ?_)
            refine lv_iload hx hb dX0_timesBegun_49 (lv_at hl 1 rfl) ?_
            refine lv_istore (lv' := [(4, .int (b2i (p_on F sh o (nw + (nI (i16 + 1)))))), (3, .int (nI (p_ct (p_tb F sh nw o) i16) + 1)), (6, .int (b2i (p_on F sh o (nw + (nI (i16 + 1)))))), (0, .ref h), (1, .int (nI o)), (2, .int (nI hh)), (5, .int (nI (i16 + 1)))]) hx hb dX0_timesBegun_51 hl (by decide) rfl (fun ls hl => ?_)
            refine lv_iinc (v := nI (i16 + 1) + 1) (lv' := [(5, .int (nI (i16 + 1) + 1)), (4, .int (b2i (p_on F sh o (nw + (nI (i16 + 1)))))), (3, .int (nI (p_ct (p_tb F sh nw o) i16) + 1)), (6, .int (b2i (p_on F sh o (nw + (nI (i16 + 1)))))), (0, .ref h), (1, .int (nI o)), (2, .int (nI hh))]) hx hb dX0_timesBegun_53 hl (k := 6) rfl rfl (by decide) rfl (fun ls hl => ?_)
            refine lv_goto (tgt := 16) hx hb dX0_timesBegun_56 (by decide) ?_
            exact ih16 (i16 + 1) (by omega) (by omega) (nI (p_ct (p_tb F sh nw o) i16) + 1) (b2i (p_on F sh o (nw + (nI (i16 + 1))))) (nI (i16 + 1) + 1) (by first | exact nct_t (by rw [p_tb, c38, c43]; rfl) | exact nct_f (by rw [p_tb, c38, c43]; rfl)) (by rfl) (by first | exact nI_1 _ | exact nct_t (by assumption) | exact nct_f (by assumption) | exact nct_b | rfl) _ _ hP hD hS _ (lv_sub hl [4, 5, 6, 2, 1, 0] rfl)
  exact key16 (hh + 1) 0 (by omega) (by omega) 0 (b2i (p_on F sh o nw)) 1 (by first | rfl | simp [p_ct, p_sm, p_fl, p_fg, nI_0]) (by rw [nI_0, Int32.add_zero]) (by first | rfl | simp [p_ct, p_sm, p_fl, p_fg, nI_0]) _ _ hP hD hS _ (lv_sub hl [3, 4, 5, 2, 1, 0] rfl)
set_option maxHeartbeats 4000000 in
set_option maxRecDepth 100000 in
theorem c_X0_requireQuarter (l : Launch) (G : va_G) (cI cZ : ClassId) (h : Nat) (a : Nat → Nat) (F : Nat → Nat → Int32) (nq no np : Nat) (sh nw : Int32) (sz : Nat) (x : Int32) (hnq : nq ≤ 6) (hx9 : p_in x nq = true) : Met l yX0_requireQuarter wsX0_requireQuarter ({ frames := 0, cells := 0, slots := 0, locals := 0 } : Room) (va_Pc [.ref h, .int x] (wPre G (ty2 cI cZ) (Dk cI cZ h a F nq no np sh nw) sz)) (va_Qv (fun (_ : Unit) => True) (fun _ => wP G (ty2 cI cZ) (Dk cI cZ h a F nq no np sh nw) (va_A (Dk cI cZ h a F nq no np sh nw) sz)) (va_A (Dk cI cZ h a F nq no np sh nw) sz)) 0 0 (va_A (Dk cI cZ h a F nq no np sh nw) sz) := by
  refine w_met (cc := cX0_requireQuarter) (maxL := 2) (ret := none) (by decide) rfl (Nat.le_of_ble_eq_true rfl) ?_
  intro pg e s m below meth cd hx hb hml hr hts hown hlocks hnm hK hsz hP hD hA hS ls hl
  have hown : s.vm.findClass RX0 = some m.cls := hown
  have hin : ∀ w ∈ wsX00, w ∈ wsX0_requireQuarter := by decide +kernel
  have hl : lv_has ls 2 [(0, .ref h), (1, .int x)] := hl
  generalize hAe : va_A (Dk cI cZ h a F nq no np sh nw) sz = A at hD hA hS ⊢
  refine lv_iload_n hx hb dX0_requireQuarter_0 rfl (lv_at hl 1 rfl) ?_
  refine lv_if_lt (tgt := 12) hx hb dX0_requireQuarter_1 (by decide) (fun c1 => ?_) (fun c1 => ?_)
  · first | exact absurd hx9 (by rw [pin_ge (n := nq) (by omega) c9]; decide) | exact absurd hx9 (by rw [pin_neg c1]; decide)
  · refine lv_iload_n hx hb dX0_requireQuarter_4 rfl (lv_at hl 1 rfl) ?_
    refine lv_aload_n hx hb dX0_requireQuarter_5 rfl (lv_at hl 0 rfl) ?_
    refine va_get (ci := 0) (v := .int (nI nq)) (C := RX0) (T := TX0) (N := 16) hx hb hts hin hown hK hP 0 rfl rfl 11 (by decide) (hts (.fieldLink RX0 44 "CurfewDesk" "quarterCount" "I") (by decide +kernel)) (fun _ h9 => h9) rfl dX0_requireQuarter_6 ?_
    refine lv_icmp_lt (tgt := 22) hx hb dX0_requireQuarter_9 (by decide) (fun c9 => ?_) (fun c9 => ?_)
    · exact w_vret () hx hb hr hlocks hK hP hD hS (Nat.le_of_ble_eq_true rfl) (Nat.le_of_ble_eq_true rfl) dX0_requireQuarter_22 trivial
    · first | exact absurd hx9 (by rw [pin_ge (n := nq) (by omega) c9]; decide) | exact absurd hx9 (by rw [pin_neg c1]; decide)
set_option maxHeartbeats 4000000 in
set_option maxRecDepth 100000 in
theorem c_X0_requireTrade (l : Launch) (G : va_G) (sz : Nat) (x : Int32) (hx9 : p_in x 8 = true) : Met l yX0_requireTrade wsX0_requireTrade ({ frames := 0, cells := 0, slots := 0, locals := 0 } : Room) (va_Pc [.int x] (wPre G [] [] sz)) (va_Qv (fun (_ : Unit) => True) (fun _ => wP G [] [] (va_A [] sz)) (va_A [] sz)) 0 0 (va_A [] sz) := by
  refine w_met (cc := cX0_requireTrade) (maxL := 1) (ret := none) (by decide) rfl (Nat.le_of_ble_eq_true rfl) ?_
  intro pg e s m below meth cd hx hb hml hr hts hown hlocks hnm hK hsz hP hD hA hS ls hl
  have hown : s.vm.findClass RX0 = some m.cls := hown
  have hl : lv_has ls 1 [(0, .int x)] := hl
  generalize hAe : va_A [] sz = A at hD hA hS ⊢
  refine lv_iload_n hx hb dX0_requireTrade_0 rfl (lv_at hl 0 rfl) ?_
  refine lv_if_lt (tgt := 10) hx hb dX0_requireTrade_1 (by decide) (fun c1 => ?_) (fun c1 => ?_)
  · first | exact absurd hx9 (by rw [pin_ge (n := 8) (by omega) c7]; decide) | exact absurd hx9 (by rw [pin_neg c1]; decide)
  · refine lv_iload_n hx hb dX0_requireTrade_4 rfl (lv_at hl 0 rfl) ?_
    refine lv_bipush (v := 8) hx hb dX0_requireTrade_5 (by decide) ?_
    refine lv_icmp_lt (tgt := 20) hx hb dX0_requireTrade_7 (by decide) (fun c7 => ?_) (fun c7 => ?_)
    · exact w_vret () hx hb hr hlocks hK hP hD hS (Nat.le_of_ble_eq_true rfl) (Nat.le_of_ble_eq_true rfl) dX0_requireTrade_20 trivial
    · first | exact absurd hx9 (by rw [pin_ge (n := 8) (by omega) c7]; decide) | exact absurd hx9 (by rw [pin_neg c1]; decide)
set_option maxHeartbeats 4000000 in
set_option maxRecDepth 100000 in
theorem c_X0_requireColour (l : Launch) (G : va_G) (sz : Nat) (x : Int32) (hx9 : p_in x 4 = true) : Met l yX0_requireColour wsX0_requireColour ({ frames := 0, cells := 0, slots := 0, locals := 0 } : Room) (va_Pc [.int x] (wPre G [] [] sz)) (va_Qv (fun (_ : Unit) => True) (fun _ => wP G [] [] (va_A [] sz)) (va_A [] sz)) 0 0 (va_A [] sz) := by
  refine w_met (cc := cX0_requireColour) (maxL := 1) (ret := none) (by decide) rfl (Nat.le_of_ble_eq_true rfl) ?_
  intro pg e s m below meth cd hx hb hml hr hts hown hlocks hnm hK hsz hP hD hA hS ls hl
  have hown : s.vm.findClass RX0 = some m.cls := hown
  have hl : lv_has ls 1 [(0, .int x)] := hl
  generalize hAe : va_A [] sz = A at hD hA hS ⊢
  refine lv_iload_n hx hb dX0_requireColour_0 rfl (lv_at hl 0 rfl) ?_
  refine lv_if_lt (tgt := 9) hx hb dX0_requireColour_1 (by decide) (fun c1 => ?_) (fun c1 => ?_)
  · first | exact absurd hx9 (by rw [pin_ge (n := 4) (by omega) c6]; decide) | exact absurd hx9 (by rw [pin_neg c1]; decide)
  · refine lv_iload_n hx hb dX0_requireColour_4 rfl (lv_at hl 0 rfl) ?_
    refine lv_iconst (v := 4) hx hb dX0_requireColour_5 (by decide) ?_
    refine lv_icmp_lt (tgt := 19) hx hb dX0_requireColour_6 (by decide) (fun c6 => ?_) (fun c6 => ?_)
    · exact w_vret () hx hb hr hlocks hK hP hD hS (Nat.le_of_ble_eq_true rfl) (Nat.le_of_ble_eq_true rfl) dX0_requireColour_19 trivial
    · first | exact absurd hx9 (by rw [pin_ge (n := 4) (by omega) c6]; decide) | exact absurd hx9 (by rw [pin_neg c1]; decide)
set_option maxHeartbeats 4000000 in
set_option maxRecDepth 100000 in
theorem c_X0_requireWithin (l : Launch) (G : va_G) (sz : Nat) (x : Int32) (a9 : Int32) (b9 : Int32) (hx9 : p_wi x a9 b9 = true) : Met l yX0_requireWithin wsX0_requireWithin ({ frames := 0, cells := 0, slots := 0, locals := 0 } : Room) (va_Pc [.int x, .int a9, .int b9] (wPre G [] [] sz)) (va_Qv (fun (_ : Unit) => True) (fun _ => wP G [] [] (va_A [] sz)) (va_A [] sz)) 0 0 (va_A [] sz) := by
  refine w_met (cc := cX0_requireWithin) (maxL := 3) (ret := none) (by decide) rfl (Nat.le_of_ble_eq_true rfl) ?_
  intro pg e s m below meth cd hx hb hml hr hts hown hlocks hnm hK hsz hP hD hA hS ls hl
  have hown : s.vm.findClass RX0 = some m.cls := hown
  have hl : lv_has ls 3 [(0, .int x), (1, .int a9), (2, .int b9)] := hl
  generalize hAe : va_A [] sz = A at hD hA hS ⊢
  refine lv_iload_n hx hb dX0_requireWithin_0 rfl (lv_at hl 0 rfl) ?_
  refine lv_iload_n hx hb dX0_requireWithin_1 rfl (lv_at hl 1 rfl) ?_
  refine lv_icmp_lt (tgt := 10) hx hb dX0_requireWithin_2 (by decide) (fun c2 => ?_) (fun c2 => ?_)
  · first | exact absurd hx9 (by rw [pwi_gt c7]; decide) | exact absurd hx9 (by rw [pwi_lt c2]; decide)
  · refine lv_iload_n hx hb dX0_requireWithin_5 rfl (lv_at hl 0 rfl) ?_
    refine lv_iload_n hx hb dX0_requireWithin_6 rfl (lv_at hl 2 rfl) ?_
    refine lv_icmp_le (tgt := 20) hx hb dX0_requireWithin_7 (by decide) (fun c7 => ?_) (fun c7 => ?_)
    · exact w_vret () hx hb hr hlocks hK hP hD hS (Nat.le_of_ble_eq_true rfl) (Nat.le_of_ble_eq_true rfl) dX0_requireWithin_20 trivial
    · first | exact absurd hx9 (by rw [pwi_gt c7]; decide) | exact absurd hx9 (by rw [pwi_lt c2]; decide)
set_option maxHeartbeats 4000000 in
set_option maxRecDepth 100000 in
theorem c_X0_addQuarter (l : Launch) (G : va_G) (cI cZ : ClassId) (h : Nat) (a : Nat → Nat) (F : Nat → Nat → Int32) (nq no np : Nat) (sh nw : Int32) (sz : Nat) (hnq : nq ≤ 6) (hx9 : nq < 6) : Met l yX0_addQuarter wsX0_addQuarter ({ frames := 0, cells := 0, slots := 0, locals := 0 } : Room) (va_Pc [.ref h] (wPre G (ty2 cI cZ) (Dk cI cZ h a F nq no np sh nw) sz)) (va_Qi (fun (r : Int32) (_ : Unit) => r = nI nq) (fun _ => wP G (ty2 cI cZ) (Dk cI cZ h a F (nq + 1) no np sh nw) (va_A (Dk cI cZ h a F nq no np sh nw) sz)) (va_A (Dk cI cZ h a F nq no np sh nw) sz)) 0 0 (va_A (Dk cI cZ h a F nq no np sh nw) sz) := by
  refine w_met (cc := cX0_addQuarter) (maxL := 2) (ret := (some .int)) (by decide) rfl (Nat.le_of_ble_eq_true rfl) ?_
  intro pg e s m below meth cd hx hb hml hr hts hown hlocks hnm hK hsz hP hD hA hS ls hl
  have hown : s.vm.findClass RX0 = some m.cls := hown
  have hin : ∀ w ∈ wsX00, w ∈ wsX0_addQuarter := by decide +kernel
  have hl : lv_has ls 2 [(0, .ref h)] := hl
  generalize hAe : va_A (Dk cI cZ h a F nq no np sh nw) sz = A at hD hA hS ⊢
  refine lv_aload_n hx hb dX0_addQuarter_0 rfl (lv_at hl 0 rfl) ?_
  refine va_get (ci := 0) (v := .int (nI nq)) (C := RX0) (T := TX0) (N := 16) hx hb hts hin hown hK hP 0 rfl rfl 11 (by decide) (hts (.fieldLink RX0 44 "CurfewDesk" "quarterCount" "I") (by decide +kernel)) (fun _ h9 => h9) rfl dX0_addQuarter_1 ?_
  refine lv_bipush (v := 6) hx hb dX0_addQuarter_4 (by decide) ?_
  refine lv_icmp_lt (tgt := 19) hx hb dX0_addQuarter_6 (by decide) (fun c6 => ?_) (fun c6 => ?_)
  · have q6 := (nI_ltI (a := nq) (b := 6) (by omega) (by omega)).mp c6
    refine lv_aload_n hx hb dX0_addQuarter_19 rfl (lv_at hl 0 rfl) ?_
    refine va_get (ci := 0) (v := .int (nI nq)) (C := RX0) (T := TX0) (N := 16) hx hb hts hin hown hK hP 0 rfl rfl 11 (by decide) (hts (.fieldLink RX0 44 "CurfewDesk" "quarterCount" "I") (by decide +kernel)) (fun _ h9 => h9) rfl dX0_addQuarter_20 ?_
    refine lv_istore_n (lv' := [(1, .int (nI nq)), (0, .ref h)]) hx hb dX0_addQuarter_23 rfl hl (by decide) rfl (fun ls hl => ?_)
    refine lv_aload_n hx hb dX0_addQuarter_24 rfl (lv_at hl 1 rfl) ?_
    refine lv_dup hx hb dX0_addQuarter_25 rfl ?_
    refine va_get (ci := 0) (v := .int (nI nq)) (C := RX0) (T := TX0) (N := 16) hx hb hts hin hown hK hP 0 rfl rfl 11 (by decide) (hts (.fieldLink RX0 44 "CurfewDesk" "quarterCount" "I") (by decide +kernel)) (fun _ h9 => h9) rfl dX0_addQuarter_26 ?_
    refine lv_iconst (v := 1) hx hb dX0_addQuarter_29 (by decide) ?_
    refine lv_iadd hx hb dX0_addQuarter_30 ?_
    rw [nI_1]
    refine va_put (ci := 0) (v := .int (nI (nq + 1))) (ty := .int) (C := RX0) (T := TX0) (N := 16) hx hb hts hin tyX0 tyX0_ok nmX0 hown hK hP hD hS 0 rfl rfl 11 (by decide) (hts (.fieldLink RX0 44 "CurfewDesk" "quarterCount" "I") (by decide +kernel)) (fun _ h9 => h9) rfl (by decide +kernel) rfl rfl (Nat.le_of_ble_eq_true rfl) dX0_addQuarter_31 (fun H locs hP hD hS => ?_)
    have hP : va_P G vwCl (Dk cI cZ h a F (nq + 1) no np sh nw) H := hP
    have hD : va_D A (Dk cI cZ h a F (nq + 1) no np sh nw) := hD
    refine lv_iload_n hx hb dX0_addQuarter_34 rfl (lv_at hl 0 rfl) ?_
    exact w_iret () hx hb hr hlocks hK hP hD hS (Nat.le_of_ble_eq_true rfl) (Nat.le_of_ble_eq_true rfl) dX0_addQuarter_35 (show (nI nq) = nI nq from by rfl)
  · have q6 := mt (nI_ltI (a := nq) (b := 6) (by omega) (by omega)).mpr c6
    exact absurd hx9 q6
set_option maxHeartbeats 4000000 in
set_option maxRecDepth 100000 in
theorem c_X0_addPerson (l : Launch) (G : va_G) (cI cZ : ClassId) (h : Nat) (a : Nat → Nat) (F : Nat → Nat → Int32) (nq no np : Nat) (sh nw : Int32) (sz : Nat) (x : Int32) (hnp : np ≤ 20) (hx9 : p_in x 8 = true) (hy9 : np < 20) : Met l yX0_addPerson wsX0_addPerson ({ frames := 1, cells := 0, slots := 0, locals := 20 } : Room) (va_Pc [.ref h, .int x] (wPre G (ty2 cI cZ) (Dk cI cZ h a F nq no np sh nw) sz)) (va_Qi (fun (r : Int32) (_ : Unit) => r = nI np) (fun _ => wP G (ty2 cI cZ) (Dk cI cZ h a (n_pe F np x) nq no (np + 1) sh nw) (va_A (Dk cI cZ h a F nq no np sh nw) sz)) (va_A (Dk cI cZ h a F nq no np sh nw) sz)) 0 0 (va_A (Dk cI cZ h a F nq no np sh nw) sz) := by
  refine w_met (cc := cX0_addPerson) (maxL := 3) (ret := (some .int)) (by decide) rfl (Nat.le_of_ble_eq_true rfl) ?_
  intro pg e s m below meth cd hx hb hml hr hts hown hlocks hnm hK hsz hP hD hA hS ls hl
  have hown : s.vm.findClass RX0 = some m.cls := hown
  have hin : ∀ w ∈ wsX00, w ∈ wsX0_addPerson := by decide +kernel
  have hl : lv_has ls 3 [(0, .ref h), (1, .int x)] := hl
  generalize hAe : va_A (Dk cI cZ h a F nq no np sh nw) sz = A at hD hA hS ⊢
  refine lv_iload_n hx hb dX0_addPerson_0 rfl (lv_at hl 1 rfl) ?_
  refine w_st_v (va_runS (As := [.int x]) (rest := []) ⟨hx, hb, hml, hown, hts⟩ (c_X0_requireTrade l G s.heap.size x (hx9)) (va_cwS 1 hts gX0_addPerson_X0_requireTrade rfl rfl rfl (by decide +kernel) ⟨(Nat.le_of_ble_eq_true rfl), (Nat.le_of_ble_eq_true rfl)⟩) ⟨wPre_blind, w_pre (hK.sub [] rfl) w_P0 (w_D0 (A := A))⟩ rfl rfl hl.1 rfl (lv_room (Nat.le_of_ble_eq_true rfl)) dX0_addPerson_1 ⟨(Nat.le_of_ble_eq_true rfl), (Nat.le_of_ble_eq_true rfl)⟩) hP hS hA (fun u1 H locs hw1 hP hS => ?_)
  refine lv_aload_n hx hb dX0_addPerson_4 rfl (lv_at hl 0 rfl) ?_
  refine va_get (ci := 0) (v := .int (nI np)) (C := RX0) (T := TX0) (N := 16) hx hb hts hin hown hK hP 0 rfl rfl 13 (by decide) (hts (.fieldLink RX0 59 "CurfewDesk" "personCount" "I") (by decide +kernel)) (fun _ h9 => h9) rfl dX0_addPerson_5 ?_
  refine lv_bipush (v := 20) hx hb dX0_addPerson_8 (by decide) ?_
  refine lv_icmp_lt (tgt := 23) hx hb dX0_addPerson_10 (by decide) (fun c10 => ?_) (fun c10 => ?_)
  · have q10 := (nI_ltI (a := np) (b := 20) (by omega) (by omega)).mp c10
    refine lv_aload_n hx hb dX0_addPerson_23 rfl (lv_at hl 0 rfl) ?_
    refine va_get (ci := 0) (v := .int (nI np)) (C := RX0) (T := TX0) (N := 16) hx hb hts hin hown hK hP 0 rfl rfl 13 (by decide) (hts (.fieldLink RX0 59 "CurfewDesk" "personCount" "I") (by decide +kernel)) (fun _ h9 => h9) rfl dX0_addPerson_24 ?_
    refine lv_istore_n (lv' := [(2, .int (nI np)), (0, .ref h), (1, .int x)]) hx hb dX0_addPerson_27 rfl hl (by decide) rfl (fun ls hl => ?_)
    refine lv_aload_n hx hb dX0_addPerson_28 rfl (lv_at hl 1 rfl) ?_
    refine va_get (ci := 0) (v := .ref (a 6)) (C := RX0) (T := TX0) (N := 16) hx hb hts hin hown hK hP 0 rfl rfl 6 (by decide) (hts (.fieldLink RX0 29 "CurfewDesk" "personTrade" "[I") (by decide +kernel)) (fun _ h9 => h9) rfl dX0_addPerson_29 ?_
    refine lv_iload_n hx hb dX0_addPerson_32 rfl (lv_at hl 0 rfl) ?_
    refine lv_iload_n hx hb dX0_addPerson_33 rfl (lv_at hl 2 rfl) ?_
    refine w_iast hx hb hK hP hD hS 7 0 rfl rfl (f := (F 6)) (j := np) (by omega) (by omega) dX0_addPerson_34 (fun H locs hP hD hS => ?_)
    have hP : va_P G vwCl (Dk cI cZ h a (va_up F 6 (upd (F 6) np x)) nq no np sh nw) H := hP
    have hD : va_D A (Dk cI cZ h a (va_up F 6 (upd (F 6) np x)) nq no np sh nw) := hD
    refine lv_aload_n hx hb dX0_addPerson_35 rfl (lv_at hl 1 rfl) ?_
    refine lv_dup hx hb dX0_addPerson_36 rfl ?_
    refine va_get (ci := 0) (v := .int (nI np)) (C := RX0) (T := TX0) (N := 16) hx hb hts hin hown hK hP 0 rfl rfl 13 (by decide) (hts (.fieldLink RX0 59 "CurfewDesk" "personCount" "I") (by decide +kernel)) (fun _ h9 => h9) rfl dX0_addPerson_37 ?_
    refine lv_iconst (v := 1) hx hb dX0_addPerson_40 (by decide) ?_
    refine lv_iadd hx hb dX0_addPerson_41 ?_
    rw [nI_1]
    refine va_put (ci := 0) (v := .int (nI (np + 1))) (ty := .int) (C := RX0) (T := TX0) (N := 16) hx hb hts hin tyX0 tyX0_ok nmX0 hown hK hP hD hS 0 rfl rfl 13 (by decide) (hts (.fieldLink RX0 59 "CurfewDesk" "personCount" "I") (by decide +kernel)) (fun _ h9 => h9) rfl (by decide +kernel) rfl rfl (Nat.le_of_ble_eq_true rfl) dX0_addPerson_42 (fun H locs hP hD hS => ?_)
    have hP : va_P G vwCl (Dk cI cZ h a (va_up F 6 (upd (F 6) np x)) nq no (np + 1) sh nw) H := hP
    have hD : va_D A (Dk cI cZ h a (va_up F 6 (upd (F 6) np x)) nq no (np + 1) sh nw) := hD
    refine lv_iload_n hx hb dX0_addPerson_45 rfl (lv_at hl 0 rfl) ?_
    exact w_iret () hx hb hr hlocks hK hP hD hS (Nat.le_of_ble_eq_true rfl) (Nat.le_of_ble_eq_true rfl) dX0_addPerson_46 (show (nI np) = nI np from by rfl)
  · have q10 := mt (nI_ltI (a := np) (b := 20) (by omega) (by omega)).mpr c10
    exact absurd hy9 q10
set_option maxHeartbeats 4000000 in
set_option maxRecDepth 100000 in
theorem c_X0_addOrder (l : Launch) (G : va_G) (cI cZ : ClassId) (h : Nat) (a : Nat → Nat) (F : Nat → Nat → Int32) (nq no np : Nat) (sh nw : Int32) (sz : Nat) (x : Int32) (y : Int32) (z : Int32) (v : Int32) (hnq : nq ≤ 6) (hno : no ≤ 10) (hx9 : p_in x nq = true) (hv9 : p_in v 4 = true) (hy9 : p_wi y 0 4 = true) (hz9 : p_wi z 0 4 = true) (ho9 : no < 10) : Met l yX0_addOrder wsX0_addOrder ({ frames := 1, cells := 0, slots := 0, locals := 22 } : Room) (va_Pc [.ref h, .int x, .int y, .int z, .int v] (wPre G (ty2 cI cZ) (Dk cI cZ h a F nq no np sh nw) sz)) (va_Qi (fun (r : Int32) (_ : Unit) => r = nI no) (fun _ => wP G (ty2 cI cZ) (Dk cI cZ h a (n_or F no x y z v) nq (no + 1) np sh nw) (va_A (Dk cI cZ h a F nq no np sh nw) sz)) (va_A (Dk cI cZ h a F nq no np sh nw) sz)) 0 0 (va_A (Dk cI cZ h a F nq no np sh nw) sz) := by
  refine w_met (cc := cX0_addOrder) (maxL := 6) (ret := (some .int)) (by decide) rfl (Nat.le_of_ble_eq_true rfl) ?_
  intro pg e s m below meth cd hx hb hml hr hts hown hlocks hnm hK hsz hP hD hA hS ls hl
  have hown : s.vm.findClass RX0 = some m.cls := hown
  have hin : ∀ w ∈ wsX00, w ∈ wsX0_addOrder := by decide +kernel
  have hl : lv_has ls 6 [(0, .ref h), (1, .int x), (2, .int y), (3, .int z), (4, .int v)] := hl
  generalize hAe : va_A (Dk cI cZ h a F nq no np sh nw) sz = A at hD hA hS ⊢
  refine lv_aload_n hx hb dX0_addOrder_0 rfl (lv_at hl 0 rfl) ?_
  refine lv_iload_n hx hb dX0_addOrder_1 rfl (lv_at hl 1 rfl) ?_
  refine w_in_v (va_runV (As := [.int x]) (rest := []) ⟨hx, hb, hml, hown, hts⟩ (c_X0_requireQuarter l G cI cZ h a F nq no np sh nw s.heap.size x (by omega) (hx9)) (cwV 1 hts gX0_addOrder_X0_requireQuarter rfl rfl rfl (by decide +kernel) ⟨(Nat.le_of_ble_eq_true rfl), (Nat.le_of_ble_eq_true rfl)⟩) ⟨wPre_blind, va_recv hK hP (ci := 0) (q0 := 0) rfl rfl, w_pre hK hP hD⟩ rfl rfl hl.1 rfl (lv_room (Nat.le_of_ble_eq_true rfl)) dX0_addOrder_2 ⟨(Nat.le_of_ble_eq_true rfl), (Nat.le_of_ble_eq_true rfl)⟩) hD hS hA (fun u2 H locs hw2 hP hD hS => ?_)
  have hP : va_P G vwCl (Dk cI cZ h a F nq no np sh nw) H := hP
  have hD : va_D A (Dk cI cZ h a F nq no np sh nw) := hD
  refine lv_iload hx hb dX0_addOrder_5 (lv_at hl 4 rfl) ?_
  refine w_st_v (va_runS (As := [.int v]) (rest := []) ⟨hx, hb, hml, hown, hts⟩ (c_X0_requireColour l G H.size v (hv9)) (va_cwS 1 hts gX0_addOrder_X0_requireColour rfl rfl rfl (by decide +kernel) ⟨(Nat.le_of_ble_eq_true rfl), (Nat.le_of_ble_eq_true rfl)⟩) ⟨wPre_blind, w_pre (hK.sub [] rfl) w_P0 (w_D0 (A := A))⟩ rfl rfl hl.1 rfl (lv_room (Nat.le_of_ble_eq_true rfl)) dX0_addOrder_7 ⟨(Nat.le_of_ble_eq_true rfl), (Nat.le_of_ble_eq_true rfl)⟩) hP hS hA (fun u7 H locs hw7 hP hS => ?_)
  refine lv_iload_n hx hb dX0_addOrder_10 rfl (lv_at hl 2 rfl) ?_
  refine lv_iconst (v := 0) hx hb dX0_addOrder_11 (by decide) ?_
  refine lv_iconst (v := 4) hx hb dX0_addOrder_12 (by decide) ?_
  refine w_st_v (va_runS (As := [.int y, .int 0, .int 4]) (rest := []) ⟨hx, hb, hml, hown, hts⟩ (c_X0_requireWithin l G H.size y 0 4 (hy9)) (va_cwS 3 hts gX0_addOrder_X0_requireWithin rfl rfl rfl (by decide +kernel) ⟨(Nat.le_of_ble_eq_true rfl), (Nat.le_of_ble_eq_true rfl)⟩) ⟨wPre_blind, w_pre (hK.sub [] rfl) w_P0 (w_D0 (A := A))⟩ rfl rfl hl.1 rfl (lv_room (Nat.le_of_ble_eq_true rfl)) dX0_addOrder_13 ⟨(Nat.le_of_ble_eq_true rfl), (Nat.le_of_ble_eq_true rfl)⟩) hP hS hA (fun u13 H locs hw13 hP hS => ?_)
  refine lv_iload_n hx hb dX0_addOrder_16 rfl (lv_at hl 3 rfl) ?_
  refine lv_iconst (v := 0) hx hb dX0_addOrder_17 (by decide) ?_
  refine lv_iconst (v := 4) hx hb dX0_addOrder_18 (by decide) ?_
  refine w_st_v (va_runS (As := [.int z, .int 0, .int 4]) (rest := []) ⟨hx, hb, hml, hown, hts⟩ (c_X0_requireWithin l G H.size z 0 4 (hz9)) (va_cwS 3 hts gX0_addOrder_X0_requireWithin rfl rfl rfl (by decide +kernel) ⟨(Nat.le_of_ble_eq_true rfl), (Nat.le_of_ble_eq_true rfl)⟩) ⟨wPre_blind, w_pre (hK.sub [] rfl) w_P0 (w_D0 (A := A))⟩ rfl rfl hl.1 rfl (lv_room (Nat.le_of_ble_eq_true rfl)) dX0_addOrder_19 ⟨(Nat.le_of_ble_eq_true rfl), (Nat.le_of_ble_eq_true rfl)⟩) hP hS hA (fun u19 H locs hw19 hP hS => ?_)
  refine lv_aload_n hx hb dX0_addOrder_22 rfl (lv_at hl 0 rfl) ?_
  refine va_get (ci := 0) (v := .int (nI no)) (C := RX0) (T := TX0) (N := 16) hx hb hts hin hown hK hP 0 rfl rfl 12 (by decide) (hts (.fieldLink RX0 74 "CurfewDesk" "orderCount" "I") (by decide +kernel)) (fun _ h9 => h9) rfl dX0_addOrder_23 ?_
  refine lv_bipush (v := 10) hx hb dX0_addOrder_26 (by decide) ?_
  refine lv_icmp_lt (tgt := 41) hx hb dX0_addOrder_28 (by decide) (fun c28 => ?_) (fun c28 => ?_)
  · have q28 := (nI_ltI (a := no) (b := 10) (by omega) (by omega)).mp c28
    refine lv_aload_n hx hb dX0_addOrder_41 rfl (lv_at hl 0 rfl) ?_
    refine va_get (ci := 0) (v := .int (nI no)) (C := RX0) (T := TX0) (N := 16) hx hb hts hin hown hK hP 0 rfl rfl 12 (by decide) (hts (.fieldLink RX0 74 "CurfewDesk" "orderCount" "I") (by decide +kernel)) (fun _ h9 => h9) rfl dX0_addOrder_42 ?_
    refine lv_istore (lv' := [(5, .int (nI no)), (0, .ref h), (1, .int x), (2, .int y), (3, .int z), (4, .int v)]) hx hb dX0_addOrder_45 hl (by decide) rfl (fun ls hl => ?_)
    refine lv_aload_n hx hb dX0_addOrder_47 rfl (lv_at hl 1 rfl) ?_
    refine va_get (ci := 0) (v := .ref (a 0)) (C := RX0) (T := TX0) (N := 16) hx hb hts hin hown hK hP 0 rfl rfl 0 (by decide) (hts (.fieldLink RX0 9 "CurfewDesk" "orderQuarter" "[I") (by decide +kernel)) (fun _ h9 => h9) rfl dX0_addOrder_48 ?_
    refine lv_iload hx hb dX0_addOrder_51 (lv_at hl 0 rfl) ?_
    refine lv_iload_n hx hb dX0_addOrder_53 rfl (lv_at hl 2 rfl) ?_
    refine w_iast hx hb hK hP hD hS 1 0 rfl rfl (f := (F 0)) (j := no) (by omega) (by omega) dX0_addOrder_54 (fun H locs hP hD hS => ?_)
    have hP : va_P G vwCl (Dk cI cZ h a (va_up F 0 (upd (F 0) no x)) nq no np sh nw) H := hP
    have hD : va_D A (Dk cI cZ h a (va_up F 0 (upd (F 0) no x)) nq no np sh nw) := hD
    refine lv_aload_n hx hb dX0_addOrder_55 rfl (lv_at hl 1 rfl) ?_
    refine va_get (ci := 0) (v := .ref (a 1)) (C := RX0) (T := TX0) (N := 16) hx hb hts hin hown hK hP 0 rfl rfl 1 (by decide) (hts (.fieldLink RX0 13 "CurfewDesk" "orderAhead" "[I") (by decide +kernel)) (fun _ h9 => h9) rfl dX0_addOrder_56 ?_
    refine lv_iload hx hb dX0_addOrder_59 (lv_at hl 0 rfl) ?_
    refine lv_iload_n hx hb dX0_addOrder_61 rfl (lv_at hl 3 rfl) ?_
    refine w_iast hx hb hK hP hD hS 2 0 rfl rfl (f := (F 1)) (j := no) (by omega) (by omega) dX0_addOrder_62 (fun H locs hP hD hS => ?_)
    have hP : va_P G vwCl (Dk cI cZ h a (va_up (va_up F 0 (upd (F 0) no x)) 1 (upd (F 1) no y)) nq no np sh nw) H := hP
    have hD : va_D A (Dk cI cZ h a (va_up (va_up F 0 (upd (F 0) no x)) 1 (upd (F 1) no y)) nq no np sh nw) := hD
    refine lv_aload_n hx hb dX0_addOrder_63 rfl (lv_at hl 1 rfl) ?_
    refine va_get (ci := 0) (v := .ref (a 2)) (C := RX0) (T := TX0) (N := 16) hx hb hts hin hown hK hP 0 rfl rfl 2 (by decide) (hts (.fieldLink RX0 16 "CurfewDesk" "orderBehind" "[I") (by decide +kernel)) (fun _ h9 => h9) rfl dX0_addOrder_64 ?_
    refine lv_iload hx hb dX0_addOrder_67 (lv_at hl 0 rfl) ?_
    refine lv_iload_n hx hb dX0_addOrder_69 rfl (lv_at hl 4 rfl) ?_
    refine w_iast hx hb hK hP hD hS 3 0 rfl rfl (f := (F 2)) (j := no) (by omega) (by omega) dX0_addOrder_70 (fun H locs hP hD hS => ?_)
    have hP : va_P G vwCl (Dk cI cZ h a (va_up (va_up (va_up F 0 (upd (F 0) no x)) 1 (upd (F 1) no y)) 2 (upd (F 2) no z)) nq no np sh nw) H := hP
    have hD : va_D A (Dk cI cZ h a (va_up (va_up (va_up F 0 (upd (F 0) no x)) 1 (upd (F 1) no y)) 2 (upd (F 2) no z)) nq no np sh nw) := hD
    refine lv_aload_n hx hb dX0_addOrder_71 rfl (lv_at hl 1 rfl) ?_
    refine va_get (ci := 0) (v := .ref (a 3)) (C := RX0) (T := TX0) (N := 16) hx hb hts hin hown hK hP 0 rfl rfl 3 (by decide) (hts (.fieldLink RX0 19 "CurfewDesk" "orderColour" "[I") (by decide +kernel)) (fun _ h9 => h9) rfl dX0_addOrder_72 ?_
    refine lv_iload hx hb dX0_addOrder_75 (lv_at hl 0 rfl) ?_
    refine lv_iload hx hb dX0_addOrder_77 (lv_at hl 5 rfl) ?_
    refine w_iast hx hb hK hP hD hS 4 0 rfl rfl (f := (F 3)) (j := no) (by omega) (by omega) dX0_addOrder_79 (fun H locs hP hD hS => ?_)
    have hP : va_P G vwCl (Dk cI cZ h a (va_up (va_up (va_up (va_up F 0 (upd (F 0) no x)) 1 (upd (F 1) no y)) 2 (upd (F 2) no z)) 3 (upd (F 3) no v)) nq no np sh nw) H := hP
    have hD : va_D A (Dk cI cZ h a (va_up (va_up (va_up (va_up F 0 (upd (F 0) no x)) 1 (upd (F 1) no y)) 2 (upd (F 2) no z)) 3 (upd (F 3) no v)) nq no np sh nw) := hD
    refine lv_aload_n hx hb dX0_addOrder_80 rfl (lv_at hl 1 rfl) ?_
    refine va_get (ci := 0) (v := .ref (a 4)) (C := RX0) (T := TX0) (N := 16) hx hb hts hin hown hK hP 0 rfl rfl 4 (by decide) (hts (.fieldLink RX0 22 "CurfewDesk" "orderInForce" "[Z") (by decide +kernel)) (fun _ h9 => h9) rfl dX0_addOrder_81 ?_
    refine lv_iload hx hb dX0_addOrder_84 (lv_at hl 0 rfl) ?_
    refine lv_iconst (v := 1) hx hb dX0_addOrder_86 (by decide) ?_
    refine w_zast hx hb hK hP hD hS 5 1 rfl rfl (f := (F 4)) (j := no) (by omega) (by omega) (rfl) dX0_addOrder_87 (fun H locs hP hD hS => ?_)
    have hP : va_P G vwCl (Dk cI cZ h a (va_up (va_up (va_up (va_up (va_up F 0 (upd (F 0) no x)) 1 (upd (F 1) no y)) 2 (upd (F 2) no z)) 3 (upd (F 3) no v)) 4 (upd (F 4) no 1)) nq no np sh nw) H := hP
    have hD : va_D A (Dk cI cZ h a (va_up (va_up (va_up (va_up (va_up F 0 (upd (F 0) no x)) 1 (upd (F 1) no y)) 2 (upd (F 2) no z)) 3 (upd (F 3) no v)) 4 (upd (F 4) no 1)) nq no np sh nw) := hD
    refine lv_aload_n hx hb dX0_addOrder_88 rfl (lv_at hl 1 rfl) ?_
    refine lv_dup hx hb dX0_addOrder_89 rfl ?_
    refine va_get (ci := 0) (v := .int (nI no)) (C := RX0) (T := TX0) (N := 16) hx hb hts hin hown hK hP 0 rfl rfl 12 (by decide) (hts (.fieldLink RX0 74 "CurfewDesk" "orderCount" "I") (by decide +kernel)) (fun _ h9 => h9) rfl dX0_addOrder_90 ?_
    refine lv_iconst (v := 1) hx hb dX0_addOrder_93 (by decide) ?_
    refine lv_iadd hx hb dX0_addOrder_94 ?_
    rw [nI_1]
    refine va_put (ci := 0) (v := .int (nI (no + 1))) (ty := .int) (C := RX0) (T := TX0) (N := 16) hx hb hts hin tyX0 tyX0_ok nmX0 hown hK hP hD hS 0 rfl rfl 12 (by decide) (hts (.fieldLink RX0 74 "CurfewDesk" "orderCount" "I") (by decide +kernel)) (fun _ h9 => h9) rfl (by decide +kernel) rfl rfl (Nat.le_of_ble_eq_true rfl) dX0_addOrder_95 (fun H locs hP hD hS => ?_)
    have hP : va_P G vwCl (Dk cI cZ h a (va_up (va_up (va_up (va_up (va_up F 0 (upd (F 0) no x)) 1 (upd (F 1) no y)) 2 (upd (F 2) no z)) 3 (upd (F 3) no v)) 4 (upd (F 4) no 1)) nq (no + 1) np sh nw) H := hP
    have hD : va_D A (Dk cI cZ h a (va_up (va_up (va_up (va_up (va_up F 0 (upd (F 0) no x)) 1 (upd (F 1) no y)) 2 (upd (F 2) no z)) 3 (upd (F 3) no v)) 4 (upd (F 4) no 1)) nq (no + 1) np sh nw) := hD
    refine lv_iload hx hb dX0_addOrder_98 (lv_at hl 0 rfl) ?_
    exact w_iret () hx hb hr hlocks hK hP hD hS (Nat.le_of_ble_eq_true rfl) (Nat.le_of_ble_eq_true rfl) dX0_addOrder_100 (show (nI no) = nI no from by rfl)
  · have q28 := mt (nI_ltI (a := no) (b := 10) (by omega) (by omega)).mpr c28
    exact absurd ho9 q28
set_option maxHeartbeats 4000000 in
set_option maxRecDepth 100000 in
theorem c_X0_pass (l : Launch) (G : va_G) (cI cZ : ClassId) (h : Nat) (a : Nat → Nat) (F : Nat → Nat → Int32) (nq no np : Nat) (sh nw : Int32) (sz : Nat) (x : Int32) (hno : no ≤ 10) (hx9 : p_wi x 1 200 = true) : Met l yX0_pass wsX0_pass ({ frames := 5, cells := 0, slots := 0, locals := 114 } : Room) (va_Pc [.ref h, .int x] (wPre G (ty2 cI cZ) (Dk cI cZ h a F nq no np sh nw) sz)) (va_Qi (fun (r : Int32) (_ : Unit) => r = a_pa F sh nw no x.toNatClampNeg) (fun _ => wP G (ty2 cI cZ) (Dk cI cZ h a F nq no np sh (nw + x)) (va_A (Dk cI cZ h a F nq no np sh nw) sz)) (va_A (Dk cI cZ h a F nq no np sh nw) sz)) 0 0 (va_A (Dk cI cZ h a F nq no np sh nw) sz) := by
  refine w_met (cc := cX0_pass) (maxL := 4) (ret := (some .int)) (by decide) rfl (Nat.le_of_ble_eq_true rfl) ?_
  intro pg e s m below meth cd hx hb hml hr hts hown hlocks hnm hK hsz hP hD hA hS ls hl
  have hown : s.vm.findClass RX0 = some m.cls := hown
  have hin : ∀ w ∈ wsX00, w ∈ wsX0_pass := by decide +kernel
  have hl : lv_has ls 4 [(0, .ref h), (1, .int x)] := hl
  generalize hAe : va_A (Dk cI cZ h a F nq no np sh nw) sz = A at hD hA hS ⊢
  refine lv_iload_n hx hb dX0_pass_0 rfl (lv_at hl 1 rfl) ?_
  refine lv_iconst (v := 1) hx hb dX0_pass_1 (by decide) ?_
  refine lv_sipush (v := 200) hx hb dX0_pass_2 (by decide) ?_
  refine w_st_v (va_runS (As := [.int x, .int 1, .int 200]) (rest := []) ⟨hx, hb, hml, hown, hts⟩ (c_X0_requireWithin l G s.heap.size x 1 200 (hx9)) (va_cwS 3 hts gX0_pass_X0_requireWithin rfl rfl rfl (by decide +kernel) ⟨(Nat.le_of_ble_eq_true rfl), (Nat.le_of_ble_eq_true rfl)⟩) ⟨wPre_blind, w_pre (hK.sub [] rfl) w_P0 (w_D0 (A := A))⟩ rfl rfl hl.1 rfl (lv_room (Nat.le_of_ble_eq_true rfl)) dX0_pass_5 ⟨(Nat.le_of_ble_eq_true rfl), (Nat.le_of_ble_eq_true rfl)⟩) hP hS hA (fun u5 H locs hw5 hP hS => ?_)
  obtain ⟨j, hj, rfl⟩ := pwi_ofn (b := 200) (by decide) (by decide) hx9
  refine lv_iconst (v := 0) hx hb dX0_pass_8 (by decide) ?_
  refine lv_istore_n (lv' := [(2, .int 0), (0, .ref h), (1, .int (nI j))]) hx hb dX0_pass_9 rfl hl (by decide) rfl (fun ls hl => ?_)
  refine lv_iconst (v := 0) hx hb dX0_pass_10 (by decide) ?_
  refine lv_istore_n (lv' := [(3, .int 0), (2, .int 0), (0, .ref h), (1, .int (nI j))]) hx hb dX0_pass_11 rfl hl (by decide) rfl (fun ls hl => ?_)
  have key12 : ∀ (n i12 : Nat), i12 ≤ no → no < i12 + n → ∀ (x2 : Int32) (x3 : Int32), x2 = p_sm (fun o => nI (p_ct (p_tb F sh nw o) j)) i12 → x3 = nI i12 → ∀ (H : Heap) (locs : List Loc), va_P G vwCl (Dk cI cZ h a F nq no np sh nw) H → va_D A (Dk cI cZ h a F nq no np sh nw) → va_S A s.heap H locs → ∀ ls : Array Slot, lv_has ls 4 [(0, .ref h), (1, .int (nI j)), (2, .int x2), (3, .int x3)] → W pg l e ({ frames := 5, cells := 0, slots := 0, locals := 114 } : Room) s m ([.ref h, .int (nI j)] : List Value).toArray below meth cd H locs (0 + 0) (0 + 0) (MQ below (va_Qi (fun (r : Int32) (_ : Unit) => r = a_pa F sh nw no (nI j).toNatClampNeg) (fun _ => wP G (ty2 cI cZ) (Dk cI cZ h a F nq no np sh (nw + (nI j))) A) A) ([.ref h, .int (nI j)] : List Value).toArray s 0 0 A) (F0 m 12 ls []) := by
    intro n
    induction n with
    | zero => intro i12 h1 h2; exact absurd h2 (by omega)
    | succ n ih12 =>
      intro i12 hi_i12 hn_i12 x2 x3 e2 e3 H locs hP hD hS ls hl
      subst e2 e3
      refine lv_iload_n hx hb dX0_pass_12 rfl (lv_at hl 3 rfl) ?_
      refine lv_aload_n hx hb dX0_pass_13 rfl (lv_at hl 0 rfl) ?_
      refine va_get (ci := 0) (v := .int (nI no)) (C := RX0) (T := TX0) (N := 16) hx hb hts hin hown hK hP 0 rfl rfl 12 (by decide) (hts (.fieldLink RX0 74 "CurfewDesk" "orderCount" "I") (by decide +kernel)) (fun _ h9 => h9) rfl dX0_pass_14 ?_
      refine lv_icmp_ge (tgt := 35) hx hb dX0_pass_17 (by decide) (fun c17 => ?_) (fun c17 => ?_)
      · have c17 := (nI_leI (a := no) (b := i12) (by omega) (by omega)).mp c17
        have ei : no = i12 := by omega
        subst ei
        refine lv_aload_n hx hb dX0_pass_35 rfl (lv_at hl 0 rfl) ?_
        refine lv_dup hx hb dX0_pass_36 rfl ?_
        refine va_get (ci := 0) (v := .int nw) (C := RX0) (T := TX0) (N := 16) hx hb hts hin hown hK hP 0 rfl rfl 15 (by decide) (hts (.fieldLink RX0 101 "CurfewDesk" "now" "I") (by decide +kernel)) (fun _ h9 => h9) rfl dX0_pass_37 ?_
        refine lv_iload_n hx hb dX0_pass_40 rfl (lv_at hl 1 rfl) ?_
        refine lv_iadd hx hb dX0_pass_41 ?_
        refine va_put (ci := 0) (v := .int (nw + (nI j))) (ty := .int) (C := RX0) (T := TX0) (N := 16) hx hb hts hin tyX0 tyX0_ok nmX0 hown hK hP hD hS 0 rfl rfl 15 (by decide) (hts (.fieldLink RX0 101 "CurfewDesk" "now" "I") (by decide +kernel)) (fun _ h9 => h9) rfl (by decide +kernel) rfl rfl (Nat.le_of_ble_eq_true rfl) dX0_pass_42 (fun H locs hP hD hS => ?_)
        have hP : va_P G vwCl (Dk cI cZ h a F nq no np sh (nw + (nI j))) H := hP
        have hD : va_D A (Dk cI cZ h a F nq no np sh (nw + (nI j))) := hD
        refine lv_iload_n hx hb dX0_pass_45 rfl (lv_at hl 2 rfl) ?_
        exact w_iret () hx hb hr hlocks hK hP hD hS (Nat.le_of_ble_eq_true rfl) (Nat.le_of_ble_eq_true rfl) dX0_pass_46 (show (p_sm (fun o => nI (p_ct (p_tb F sh nw o) j)) no) = a_pa F sh nw no (nI j).toNatClampNeg from by rw [a_pa, nI_clamp (show j < 2 ^ 31 by omega)])
      · have c17 := mt (nI_leI (a := no) (b := i12) (by omega) (by omega)).mpr c17
        have hlt_i12 : i12 < no := by omega
        refine lv_iload_n hx hb dX0_pass_20 rfl (lv_at hl 2 rfl) ?_
        refine lv_aload_n hx hb dX0_pass_21 rfl (lv_at hl 0 rfl) ?_
        refine lv_iload_n hx hb dX0_pass_22 rfl (lv_at hl 3 rfl) ?_
        refine lv_iload_n hx hb dX0_pass_23 rfl (lv_at hl 1 rfl) ?_
        refine w_in_i (va_runV (As := [.int (nI i12), .int (nI j)]) (rest := [.int (p_sm (fun o => nI (p_ct (p_tb F sh nw o) j)) i12)]) ⟨hx, hb, hml, hown, hts⟩ (c_X0_timesBegun l G cI cZ h a F nq no np sh nw H.size i12 j (by omega) (by omega)) (cwV 2 hts gX0_pass_X0_timesBegun rfl rfl rfl (by decide +kernel) ⟨(Nat.le_of_ble_eq_true rfl), (Nat.le_of_ble_eq_true rfl)⟩) ⟨wPre_blind, va_recv hK hP (ci := 0) (q0 := 0) rfl rfl, w_pre hK hP hD⟩ rfl rfl hl.1 rfl (lv_room (Nat.le_of_ble_eq_true rfl)) dX0_pass_24 ⟨(Nat.le_of_ble_eq_true rfl), (Nat.le_of_ble_eq_true rfl)⟩) hD hS hA (fun r24 u24 H locs hw24 hP hD hS => ?_)
        have hP : va_P G vwCl (Dk cI cZ h a F nq no np sh nw) H := hP
        have hD : va_D A (Dk cI cZ h a F nq no np sh nw) := hD
        have hw24 : r24 = nI (p_ct (p_tb F sh nw i12) j) := hw24
        subst hw24
        refine lv_iadd hx hb dX0_pass_27 ?_
        refine lv_istore_n (lv' := [(2, .int ((p_sm (fun o => nI (p_ct (p_tb F sh nw o) j)) i12) + (nI (p_ct (p_tb F sh nw i12) j)))), (0, .ref h), (1, .int (nI j)), (3, .int (nI i12))]) hx hb dX0_pass_28 rfl hl (by decide) rfl (fun ls hl => ?_)
        refine lv_iinc (v := nI i12 + 1) (lv' := [(3, .int (nI i12 + 1)), (2, .int ((p_sm (fun o => nI (p_ct (p_tb F sh nw o) j)) i12) + (nI (p_ct (p_tb F sh nw i12) j)))), (0, .ref h), (1, .int (nI j))]) hx hb dX0_pass_29 hl (k := 3) rfl rfl (by decide) rfl (fun ls hl => ?_)
        refine lv_goto (tgt := 12) hx hb dX0_pass_32 (by decide) ?_
        exact ih12 (i12 + 1) (by omega) (by omega) ((p_sm (fun o => nI (p_ct (p_tb F sh nw o) j)) i12) + (nI (p_ct (p_tb F sh nw i12) j))) (nI i12 + 1) (by rfl) (by first | exact nI_1 _ | exact nct_t (by assumption) | exact nct_f (by assumption) | exact nct_b | rfl) _ _ hP hD hS _ (lv_sub hl [2, 3, 1, 0] rfl)
  exact key12 (no + 1) 0 (by omega) (by omega) 0 0 (by first | rfl | simp [p_ct, p_sm, p_fl, p_fg, nI_0]) (by first | rfl | simp [p_ct, p_sm, p_fl, p_fg, nI_0]) _ _ hP hD hS _ (lv_sub hl [2, 3, 1, 0] rfl)
end
section
set_option maxHeartbeats 4000000 in
set_option maxRecDepth 100000 in
theorem c_X0_init (l : Launch) (G : va_G) (h : Nat) (sz : Nat) : Met l yX0_init wsX0_init ({ frames := 1, cells := 11, slots := 204, locals := 12 } : Room) (va_Pc [.ref h] (wPre G [] [(h, .inr (0, [.null, .null, .null, .null, .null, .null, .null, .null, .null, .null, .null, .int 0, .int 0, .int 0, .int 0, .int 0]))] sz)) (va_Qv (fun _ : (Nat → Nat) × ClassId × ClassId => True) (fun u => wP G (ty2 u.2.1 u.2.2) (Dk u.2.1 u.2.2 h u.1 (fun _ _ => 0) 0 0 0 0 0) (va_A [(h, .inr (0, [.null, .null, .null, .null, .null, .null, .null, .null, .null, .null, .null, .int 0, .int 0, .int 0, .int 0, .int 0]))] sz)) (va_A [(h, .inr (0, [.null, .null, .null, .null, .null, .null, .null, .null, .null, .null, .null, .int 0, .int 0, .int 0, .int 0, .int 0]))] sz)) 11 204 (va_A [(h, .inr (0, [.null, .null, .null, .null, .null, .null, .null, .null, .null, .null, .null, .int 0, .int 0, .int 0, .int 0, .int 0]))] sz) := by
  refine w_met (cc := cX0_init) (maxL := 1) (ret := none) (by decide) rfl (Nat.le_of_ble_eq_true rfl) ?_
  intro pg e s m below meth cd hx hb hml hr hts hown hlocks hnm hK hsz hP hD hA hS ls hl
  have hown : s.vm.findClass RX0 = some m.cls := hown
  have hin : ∀ w ∈ wsX00, w ∈ wsX0_init := by decide +kernel
  have hl : lv_has ls 1 [(0, .ref h)] := hl
  have haI := hts (.arrayClass .int) (by decide +kernel)
  have haZ := hts (.arrayClass .boolean) (by decide +kernel)
  obtain ⟨cI, _, _, hfI, -, -⟩ := Cond.arrayClass_spec haI
  obtain ⟨cZ, _, _, hfZ, -, -⟩ := Cond.arrayClass_spec haZ
  generalize hAe : va_A [(h, .inr (0, [.null, .null, .null, .null, .null, .null, .null, .null, .null, .null, .null, .int 0, .int 0, .int 0, .int 0, .int 0]))] sz = A at hD hA hS ⊢
  refine lv_aload_n hx hb dX0_init_0 rfl (lv_at hl 0 rfl) ?_
  refine W.objInit hx hb hown (hts (.methodLink RX0 1 objectInit) (by decide +kernel)) (hts (.instanceMethod objectInit) (by decide +kernel)) (hts (.code objectInit ⟨#[0xb1]⟩ 1 none) (by decide +kernel)) rfl (by rw [hml]; exact hl.1) rfl dX0_init_1 (Nat.le_of_ble_eq_true rfl) (Nat.le_of_ble_eq_true rfl) ?_
  refine W.eq (g2 := F0 m 4 ls []) rfl ?_
  refine lv_aload_n hx hb dX0_init_4 rfl (lv_at hl 0 rfl) ?_
  refine lv_bipush (v := 10) hx hb dX0_init_5 (by decide) ?_
  refine w_newI (N := 10) hx hb haI hfI hK hP hD hS hA (by decide) (by decide) (by decide) (Nat.le_of_ble_eq_true rfl) (Nat.le_of_ble_eq_true rfl) dX0_init_7 (fun q0 H hKI hP hD hS => ?_)
  have hP : va_P G vwCl [(h, .inr (0, [.null, .null, .null, .null, .null, .null, .null, .null, .null, .null, .null, .int 0, .int 0, .int 0, .int 0, .int 0])), (q0, .inl (cI, 10, .inl (fun _ => 0)))] H := hP
  have hD : va_D A [(h, .inr (0, [.null, .null, .null, .null, .null, .null, .null, .null, .null, .null, .null, .int 0, .int 0, .int 0, .int 0, .int 0])), (q0, .inl (cI, 10, .inl (fun _ => 0)))] := hD
  refine va_putF (ci := 0) (v := .ref q0) (ty := .array .int) (C := RX0) (T := TX0) (N := 16) hx hb hts hin tyX0 tyX0_ok nmX0 hown hK hP hD hS 0 rfl rfl 0 (by decide) (hts (.fieldLink RX0 9 "CurfewDesk" "orderQuarter" "[I") (by decide +kernel)) (fun _ h9 => h9) rfl hnm rfl (by decide +kernel) rfl rfl (Nat.le_of_ble_eq_true rfl) dX0_init_9 (fun H locs hP hD hS => ?_)
  have hP : va_P G vwCl [(h, .inr (0, [.ref q0, .null, .null, .null, .null, .null, .null, .null, .null, .null, .null, .int 0, .int 0, .int 0, .int 0, .int 0])), (q0, .inl (cI, 10, .inl (fun _ => 0)))] H := hP
  have hD : va_D A [(h, .inr (0, [.ref q0, .null, .null, .null, .null, .null, .null, .null, .null, .null, .null, .int 0, .int 0, .int 0, .int 0, .int 0])), (q0, .inl (cI, 10, .inl (fun _ => 0)))] := hD
  refine lv_aload_n hx hb dX0_init_12 rfl (lv_at hl 0 rfl) ?_
  refine lv_bipush (v := 10) hx hb dX0_init_13 (by decide) ?_
  refine w_newI (N := 10) hx hb haI hfI hK hP hD hS hA (by decide) (by decide) (by decide) (Nat.le_of_ble_eq_true rfl) (Nat.le_of_ble_eq_true rfl) dX0_init_15 (fun q1 H hKI hP hD hS => ?_)
  have hP : va_P G vwCl [(h, .inr (0, [.ref q0, .null, .null, .null, .null, .null, .null, .null, .null, .null, .null, .int 0, .int 0, .int 0, .int 0, .int 0])), (q0, .inl (cI, 10, .inl (fun _ => 0))), (q1, .inl (cI, 10, .inl (fun _ => 0)))] H := hP
  have hD : va_D A [(h, .inr (0, [.ref q0, .null, .null, .null, .null, .null, .null, .null, .null, .null, .null, .int 0, .int 0, .int 0, .int 0, .int 0])), (q0, .inl (cI, 10, .inl (fun _ => 0))), (q1, .inl (cI, 10, .inl (fun _ => 0)))] := hD
  refine va_putF (ci := 0) (v := .ref q1) (ty := .array .int) (C := RX0) (T := TX0) (N := 16) hx hb hts hin tyX0 tyX0_ok nmX0 hown hK hP hD hS 0 rfl rfl 1 (by decide) (hts (.fieldLink RX0 13 "CurfewDesk" "orderAhead" "[I") (by decide +kernel)) (fun _ h9 => h9) rfl hnm rfl (by decide +kernel) rfl rfl (Nat.le_of_ble_eq_true rfl) dX0_init_17 (fun H locs hP hD hS => ?_)
  have hP : va_P G vwCl [(h, .inr (0, [.ref q0, .ref q1, .null, .null, .null, .null, .null, .null, .null, .null, .null, .int 0, .int 0, .int 0, .int 0, .int 0])), (q0, .inl (cI, 10, .inl (fun _ => 0))), (q1, .inl (cI, 10, .inl (fun _ => 0)))] H := hP
  have hD : va_D A [(h, .inr (0, [.ref q0, .ref q1, .null, .null, .null, .null, .null, .null, .null, .null, .null, .int 0, .int 0, .int 0, .int 0, .int 0])), (q0, .inl (cI, 10, .inl (fun _ => 0))), (q1, .inl (cI, 10, .inl (fun _ => 0)))] := hD
  refine lv_aload_n hx hb dX0_init_20 rfl (lv_at hl 0 rfl) ?_
  refine lv_bipush (v := 10) hx hb dX0_init_21 (by decide) ?_
  refine w_newI (N := 10) hx hb haI hfI hK hP hD hS hA (by decide) (by decide) (by decide) (Nat.le_of_ble_eq_true rfl) (Nat.le_of_ble_eq_true rfl) dX0_init_23 (fun q2 H hKI hP hD hS => ?_)
  have hP : va_P G vwCl [(h, .inr (0, [.ref q0, .ref q1, .null, .null, .null, .null, .null, .null, .null, .null, .null, .int 0, .int 0, .int 0, .int 0, .int 0])), (q0, .inl (cI, 10, .inl (fun _ => 0))), (q1, .inl (cI, 10, .inl (fun _ => 0))), (q2, .inl (cI, 10, .inl (fun _ => 0)))] H := hP
  have hD : va_D A [(h, .inr (0, [.ref q0, .ref q1, .null, .null, .null, .null, .null, .null, .null, .null, .null, .int 0, .int 0, .int 0, .int 0, .int 0])), (q0, .inl (cI, 10, .inl (fun _ => 0))), (q1, .inl (cI, 10, .inl (fun _ => 0))), (q2, .inl (cI, 10, .inl (fun _ => 0)))] := hD
  refine va_putF (ci := 0) (v := .ref q2) (ty := .array .int) (C := RX0) (T := TX0) (N := 16) hx hb hts hin tyX0 tyX0_ok nmX0 hown hK hP hD hS 0 rfl rfl 2 (by decide) (hts (.fieldLink RX0 16 "CurfewDesk" "orderBehind" "[I") (by decide +kernel)) (fun _ h9 => h9) rfl hnm rfl (by decide +kernel) rfl rfl (Nat.le_of_ble_eq_true rfl) dX0_init_25 (fun H locs hP hD hS => ?_)
  have hP : va_P G vwCl [(h, .inr (0, [.ref q0, .ref q1, .ref q2, .null, .null, .null, .null, .null, .null, .null, .null, .int 0, .int 0, .int 0, .int 0, .int 0])), (q0, .inl (cI, 10, .inl (fun _ => 0))), (q1, .inl (cI, 10, .inl (fun _ => 0))), (q2, .inl (cI, 10, .inl (fun _ => 0)))] H := hP
  have hD : va_D A [(h, .inr (0, [.ref q0, .ref q1, .ref q2, .null, .null, .null, .null, .null, .null, .null, .null, .int 0, .int 0, .int 0, .int 0, .int 0])), (q0, .inl (cI, 10, .inl (fun _ => 0))), (q1, .inl (cI, 10, .inl (fun _ => 0))), (q2, .inl (cI, 10, .inl (fun _ => 0)))] := hD
  refine lv_aload_n hx hb dX0_init_28 rfl (lv_at hl 0 rfl) ?_
  refine lv_bipush (v := 10) hx hb dX0_init_29 (by decide) ?_
  refine w_newI (N := 10) hx hb haI hfI hK hP hD hS hA (by decide) (by decide) (by decide) (Nat.le_of_ble_eq_true rfl) (Nat.le_of_ble_eq_true rfl) dX0_init_31 (fun q3 H hKI hP hD hS => ?_)
  have hP : va_P G vwCl [(h, .inr (0, [.ref q0, .ref q1, .ref q2, .null, .null, .null, .null, .null, .null, .null, .null, .int 0, .int 0, .int 0, .int 0, .int 0])), (q0, .inl (cI, 10, .inl (fun _ => 0))), (q1, .inl (cI, 10, .inl (fun _ => 0))), (q2, .inl (cI, 10, .inl (fun _ => 0))), (q3, .inl (cI, 10, .inl (fun _ => 0)))] H := hP
  have hD : va_D A [(h, .inr (0, [.ref q0, .ref q1, .ref q2, .null, .null, .null, .null, .null, .null, .null, .null, .int 0, .int 0, .int 0, .int 0, .int 0])), (q0, .inl (cI, 10, .inl (fun _ => 0))), (q1, .inl (cI, 10, .inl (fun _ => 0))), (q2, .inl (cI, 10, .inl (fun _ => 0))), (q3, .inl (cI, 10, .inl (fun _ => 0)))] := hD
  refine va_putF (ci := 0) (v := .ref q3) (ty := .array .int) (C := RX0) (T := TX0) (N := 16) hx hb hts hin tyX0 tyX0_ok nmX0 hown hK hP hD hS 0 rfl rfl 3 (by decide) (hts (.fieldLink RX0 19 "CurfewDesk" "orderColour" "[I") (by decide +kernel)) (fun _ h9 => h9) rfl hnm rfl (by decide +kernel) rfl rfl (Nat.le_of_ble_eq_true rfl) dX0_init_33 (fun H locs hP hD hS => ?_)
  have hP : va_P G vwCl [(h, .inr (0, [.ref q0, .ref q1, .ref q2, .ref q3, .null, .null, .null, .null, .null, .null, .null, .int 0, .int 0, .int 0, .int 0, .int 0])), (q0, .inl (cI, 10, .inl (fun _ => 0))), (q1, .inl (cI, 10, .inl (fun _ => 0))), (q2, .inl (cI, 10, .inl (fun _ => 0))), (q3, .inl (cI, 10, .inl (fun _ => 0)))] H := hP
  have hD : va_D A [(h, .inr (0, [.ref q0, .ref q1, .ref q2, .ref q3, .null, .null, .null, .null, .null, .null, .null, .int 0, .int 0, .int 0, .int 0, .int 0])), (q0, .inl (cI, 10, .inl (fun _ => 0))), (q1, .inl (cI, 10, .inl (fun _ => 0))), (q2, .inl (cI, 10, .inl (fun _ => 0))), (q3, .inl (cI, 10, .inl (fun _ => 0)))] := hD
  refine lv_aload_n hx hb dX0_init_36 rfl (lv_at hl 0 rfl) ?_
  refine lv_bipush (v := 10) hx hb dX0_init_37 (by decide) ?_
  refine w_newZ (N := 10) hx hb haZ hfZ hK hP hD hS hA (by decide) (by decide) (by decide) (Nat.le_of_ble_eq_true rfl) (Nat.le_of_ble_eq_true rfl) dX0_init_39 (fun q4 H hKZ hP hD hS => ?_)
  have hP : va_P G vwCl [(h, .inr (0, [.ref q0, .ref q1, .ref q2, .ref q3, .null, .null, .null, .null, .null, .null, .null, .int 0, .int 0, .int 0, .int 0, .int 0])), (q0, .inl (cI, 10, .inl (fun _ => 0))), (q1, .inl (cI, 10, .inl (fun _ => 0))), (q2, .inl (cI, 10, .inl (fun _ => 0))), (q3, .inl (cI, 10, .inl (fun _ => 0))), (q4, .inl (cZ, 10, .inl (fun _ => 0)))] H := hP
  have hD : va_D A [(h, .inr (0, [.ref q0, .ref q1, .ref q2, .ref q3, .null, .null, .null, .null, .null, .null, .null, .int 0, .int 0, .int 0, .int 0, .int 0])), (q0, .inl (cI, 10, .inl (fun _ => 0))), (q1, .inl (cI, 10, .inl (fun _ => 0))), (q2, .inl (cI, 10, .inl (fun _ => 0))), (q3, .inl (cI, 10, .inl (fun _ => 0))), (q4, .inl (cZ, 10, .inl (fun _ => 0)))] := hD
  refine va_putF (ci := 0) (v := .ref q4) (ty := .array .boolean) (C := RX0) (T := TX0) (N := 16) hx hb hts hin tyX0 tyX0_ok nmX0 hown hK hP hD hS 0 rfl rfl 4 (by decide) (hts (.fieldLink RX0 22 "CurfewDesk" "orderInForce" "[Z") (by decide +kernel)) (fun _ h9 => h9) rfl hnm rfl (by decide +kernel) rfl rfl (Nat.le_of_ble_eq_true rfl) dX0_init_41 (fun H locs hP hD hS => ?_)
  have hP : va_P G vwCl [(h, .inr (0, [.ref q0, .ref q1, .ref q2, .ref q3, .ref q4, .null, .null, .null, .null, .null, .null, .int 0, .int 0, .int 0, .int 0, .int 0])), (q0, .inl (cI, 10, .inl (fun _ => 0))), (q1, .inl (cI, 10, .inl (fun _ => 0))), (q2, .inl (cI, 10, .inl (fun _ => 0))), (q3, .inl (cI, 10, .inl (fun _ => 0))), (q4, .inl (cZ, 10, .inl (fun _ => 0)))] H := hP
  have hD : va_D A [(h, .inr (0, [.ref q0, .ref q1, .ref q2, .ref q3, .ref q4, .null, .null, .null, .null, .null, .null, .int 0, .int 0, .int 0, .int 0, .int 0])), (q0, .inl (cI, 10, .inl (fun _ => 0))), (q1, .inl (cI, 10, .inl (fun _ => 0))), (q2, .inl (cI, 10, .inl (fun _ => 0))), (q3, .inl (cI, 10, .inl (fun _ => 0))), (q4, .inl (cZ, 10, .inl (fun _ => 0)))] := hD
  refine lv_aload_n hx hb dX0_init_44 rfl (lv_at hl 0 rfl) ?_
  refine lv_bipush (v := 10) hx hb dX0_init_45 (by decide) ?_
  refine w_newI (N := 10) hx hb haI hfI hK hP hD hS hA (by decide) (by decide) (by decide) (Nat.le_of_ble_eq_true rfl) (Nat.le_of_ble_eq_true rfl) dX0_init_47 (fun q5 H hKI hP hD hS => ?_)
  have hP : va_P G vwCl [(h, .inr (0, [.ref q0, .ref q1, .ref q2, .ref q3, .ref q4, .null, .null, .null, .null, .null, .null, .int 0, .int 0, .int 0, .int 0, .int 0])), (q0, .inl (cI, 10, .inl (fun _ => 0))), (q1, .inl (cI, 10, .inl (fun _ => 0))), (q2, .inl (cI, 10, .inl (fun _ => 0))), (q3, .inl (cI, 10, .inl (fun _ => 0))), (q4, .inl (cZ, 10, .inl (fun _ => 0))), (q5, .inl (cI, 10, .inl (fun _ => 0)))] H := hP
  have hD : va_D A [(h, .inr (0, [.ref q0, .ref q1, .ref q2, .ref q3, .ref q4, .null, .null, .null, .null, .null, .null, .int 0, .int 0, .int 0, .int 0, .int 0])), (q0, .inl (cI, 10, .inl (fun _ => 0))), (q1, .inl (cI, 10, .inl (fun _ => 0))), (q2, .inl (cI, 10, .inl (fun _ => 0))), (q3, .inl (cI, 10, .inl (fun _ => 0))), (q4, .inl (cZ, 10, .inl (fun _ => 0))), (q5, .inl (cI, 10, .inl (fun _ => 0)))] := hD
  refine va_putF (ci := 0) (v := .ref q5) (ty := .array .int) (C := RX0) (T := TX0) (N := 16) hx hb hts hin tyX0 tyX0_ok nmX0 hown hK hP hD hS 0 rfl rfl 5 (by decide) (hts (.fieldLink RX0 26 "CurfewDesk" "orderExempt" "[I") (by decide +kernel)) (fun _ h9 => h9) rfl hnm rfl (by decide +kernel) rfl rfl (Nat.le_of_ble_eq_true rfl) dX0_init_49 (fun H locs hP hD hS => ?_)
  have hP : va_P G vwCl [(h, .inr (0, [.ref q0, .ref q1, .ref q2, .ref q3, .ref q4, .ref q5, .null, .null, .null, .null, .null, .int 0, .int 0, .int 0, .int 0, .int 0])), (q0, .inl (cI, 10, .inl (fun _ => 0))), (q1, .inl (cI, 10, .inl (fun _ => 0))), (q2, .inl (cI, 10, .inl (fun _ => 0))), (q3, .inl (cI, 10, .inl (fun _ => 0))), (q4, .inl (cZ, 10, .inl (fun _ => 0))), (q5, .inl (cI, 10, .inl (fun _ => 0)))] H := hP
  have hD : va_D A [(h, .inr (0, [.ref q0, .ref q1, .ref q2, .ref q3, .ref q4, .ref q5, .null, .null, .null, .null, .null, .int 0, .int 0, .int 0, .int 0, .int 0])), (q0, .inl (cI, 10, .inl (fun _ => 0))), (q1, .inl (cI, 10, .inl (fun _ => 0))), (q2, .inl (cI, 10, .inl (fun _ => 0))), (q3, .inl (cI, 10, .inl (fun _ => 0))), (q4, .inl (cZ, 10, .inl (fun _ => 0))), (q5, .inl (cI, 10, .inl (fun _ => 0)))] := hD
  refine lv_aload_n hx hb dX0_init_52 rfl (lv_at hl 0 rfl) ?_
  refine lv_bipush (v := 20) hx hb dX0_init_53 (by decide) ?_
  refine w_newI (N := 20) hx hb haI hfI hK hP hD hS hA (by decide) (by decide) (by decide) (Nat.le_of_ble_eq_true rfl) (Nat.le_of_ble_eq_true rfl) dX0_init_55 (fun q6 H hKI hP hD hS => ?_)
  have hP : va_P G vwCl [(h, .inr (0, [.ref q0, .ref q1, .ref q2, .ref q3, .ref q4, .ref q5, .null, .null, .null, .null, .null, .int 0, .int 0, .int 0, .int 0, .int 0])), (q0, .inl (cI, 10, .inl (fun _ => 0))), (q1, .inl (cI, 10, .inl (fun _ => 0))), (q2, .inl (cI, 10, .inl (fun _ => 0))), (q3, .inl (cI, 10, .inl (fun _ => 0))), (q4, .inl (cZ, 10, .inl (fun _ => 0))), (q5, .inl (cI, 10, .inl (fun _ => 0))), (q6, .inl (cI, 20, .inl (fun _ => 0)))] H := hP
  have hD : va_D A [(h, .inr (0, [.ref q0, .ref q1, .ref q2, .ref q3, .ref q4, .ref q5, .null, .null, .null, .null, .null, .int 0, .int 0, .int 0, .int 0, .int 0])), (q0, .inl (cI, 10, .inl (fun _ => 0))), (q1, .inl (cI, 10, .inl (fun _ => 0))), (q2, .inl (cI, 10, .inl (fun _ => 0))), (q3, .inl (cI, 10, .inl (fun _ => 0))), (q4, .inl (cZ, 10, .inl (fun _ => 0))), (q5, .inl (cI, 10, .inl (fun _ => 0))), (q6, .inl (cI, 20, .inl (fun _ => 0)))] := hD
  refine va_putF (ci := 0) (v := .ref q6) (ty := .array .int) (C := RX0) (T := TX0) (N := 16) hx hb hts hin tyX0 tyX0_ok nmX0 hown hK hP hD hS 0 rfl rfl 6 (by decide) (hts (.fieldLink RX0 29 "CurfewDesk" "personTrade" "[I") (by decide +kernel)) (fun _ h9 => h9) rfl hnm rfl (by decide +kernel) rfl rfl (Nat.le_of_ble_eq_true rfl) dX0_init_57 (fun H locs hP hD hS => ?_)
  have hP : va_P G vwCl [(h, .inr (0, [.ref q0, .ref q1, .ref q2, .ref q3, .ref q4, .ref q5, .ref q6, .null, .null, .null, .null, .int 0, .int 0, .int 0, .int 0, .int 0])), (q0, .inl (cI, 10, .inl (fun _ => 0))), (q1, .inl (cI, 10, .inl (fun _ => 0))), (q2, .inl (cI, 10, .inl (fun _ => 0))), (q3, .inl (cI, 10, .inl (fun _ => 0))), (q4, .inl (cZ, 10, .inl (fun _ => 0))), (q5, .inl (cI, 10, .inl (fun _ => 0))), (q6, .inl (cI, 20, .inl (fun _ => 0)))] H := hP
  have hD : va_D A [(h, .inr (0, [.ref q0, .ref q1, .ref q2, .ref q3, .ref q4, .ref q5, .ref q6, .null, .null, .null, .null, .int 0, .int 0, .int 0, .int 0, .int 0])), (q0, .inl (cI, 10, .inl (fun _ => 0))), (q1, .inl (cI, 10, .inl (fun _ => 0))), (q2, .inl (cI, 10, .inl (fun _ => 0))), (q3, .inl (cI, 10, .inl (fun _ => 0))), (q4, .inl (cZ, 10, .inl (fun _ => 0))), (q5, .inl (cI, 10, .inl (fun _ => 0))), (q6, .inl (cI, 20, .inl (fun _ => 0)))] := hD
  refine lv_aload_n hx hb dX0_init_60 rfl (lv_at hl 0 rfl) ?_
  refine lv_bipush (v := 20) hx hb dX0_init_61 (by decide) ?_
  refine w_newI (N := 20) hx hb haI hfI hK hP hD hS hA (by decide) (by decide) (by decide) (Nat.le_of_ble_eq_true rfl) (Nat.le_of_ble_eq_true rfl) dX0_init_63 (fun q7 H hKI hP hD hS => ?_)
  have hP : va_P G vwCl [(h, .inr (0, [.ref q0, .ref q1, .ref q2, .ref q3, .ref q4, .ref q5, .ref q6, .null, .null, .null, .null, .int 0, .int 0, .int 0, .int 0, .int 0])), (q0, .inl (cI, 10, .inl (fun _ => 0))), (q1, .inl (cI, 10, .inl (fun _ => 0))), (q2, .inl (cI, 10, .inl (fun _ => 0))), (q3, .inl (cI, 10, .inl (fun _ => 0))), (q4, .inl (cZ, 10, .inl (fun _ => 0))), (q5, .inl (cI, 10, .inl (fun _ => 0))), (q6, .inl (cI, 20, .inl (fun _ => 0))), (q7, .inl (cI, 20, .inl (fun _ => 0)))] H := hP
  have hD : va_D A [(h, .inr (0, [.ref q0, .ref q1, .ref q2, .ref q3, .ref q4, .ref q5, .ref q6, .null, .null, .null, .null, .int 0, .int 0, .int 0, .int 0, .int 0])), (q0, .inl (cI, 10, .inl (fun _ => 0))), (q1, .inl (cI, 10, .inl (fun _ => 0))), (q2, .inl (cI, 10, .inl (fun _ => 0))), (q3, .inl (cI, 10, .inl (fun _ => 0))), (q4, .inl (cZ, 10, .inl (fun _ => 0))), (q5, .inl (cI, 10, .inl (fun _ => 0))), (q6, .inl (cI, 20, .inl (fun _ => 0))), (q7, .inl (cI, 20, .inl (fun _ => 0)))] := hD
  refine va_putF (ci := 0) (v := .ref q7) (ty := .array .int) (C := RX0) (T := TX0) (N := 16) hx hb hts hin tyX0 tyX0_ok nmX0 hown hK hP hD hS 0 rfl rfl 7 (by decide) (hts (.fieldLink RX0 32 "CurfewDesk" "personFined" "[I") (by decide +kernel)) (fun _ h9 => h9) rfl hnm rfl (by decide +kernel) rfl rfl (Nat.le_of_ble_eq_true rfl) dX0_init_65 (fun H locs hP hD hS => ?_)
  have hP : va_P G vwCl [(h, .inr (0, [.ref q0, .ref q1, .ref q2, .ref q3, .ref q4, .ref q5, .ref q6, .ref q7, .null, .null, .null, .int 0, .int 0, .int 0, .int 0, .int 0])), (q0, .inl (cI, 10, .inl (fun _ => 0))), (q1, .inl (cI, 10, .inl (fun _ => 0))), (q2, .inl (cI, 10, .inl (fun _ => 0))), (q3, .inl (cI, 10, .inl (fun _ => 0))), (q4, .inl (cZ, 10, .inl (fun _ => 0))), (q5, .inl (cI, 10, .inl (fun _ => 0))), (q6, .inl (cI, 20, .inl (fun _ => 0))), (q7, .inl (cI, 20, .inl (fun _ => 0)))] H := hP
  have hD : va_D A [(h, .inr (0, [.ref q0, .ref q1, .ref q2, .ref q3, .ref q4, .ref q5, .ref q6, .ref q7, .null, .null, .null, .int 0, .int 0, .int 0, .int 0, .int 0])), (q0, .inl (cI, 10, .inl (fun _ => 0))), (q1, .inl (cI, 10, .inl (fun _ => 0))), (q2, .inl (cI, 10, .inl (fun _ => 0))), (q3, .inl (cI, 10, .inl (fun _ => 0))), (q4, .inl (cZ, 10, .inl (fun _ => 0))), (q5, .inl (cI, 10, .inl (fun _ => 0))), (q6, .inl (cI, 20, .inl (fun _ => 0))), (q7, .inl (cI, 20, .inl (fun _ => 0)))] := hD
  refine lv_aload_n hx hb dX0_init_68 rfl (lv_at hl 0 rfl) ?_
  refine lv_bipush (v := 20) hx hb dX0_init_69 (by decide) ?_
  refine w_newI (N := 20) hx hb haI hfI hK hP hD hS hA (by decide) (by decide) (by decide) (Nat.le_of_ble_eq_true rfl) (Nat.le_of_ble_eq_true rfl) dX0_init_71 (fun q8 H hKI hP hD hS => ?_)
  have hP : va_P G vwCl [(h, .inr (0, [.ref q0, .ref q1, .ref q2, .ref q3, .ref q4, .ref q5, .ref q6, .ref q7, .null, .null, .null, .int 0, .int 0, .int 0, .int 0, .int 0])), (q0, .inl (cI, 10, .inl (fun _ => 0))), (q1, .inl (cI, 10, .inl (fun _ => 0))), (q2, .inl (cI, 10, .inl (fun _ => 0))), (q3, .inl (cI, 10, .inl (fun _ => 0))), (q4, .inl (cZ, 10, .inl (fun _ => 0))), (q5, .inl (cI, 10, .inl (fun _ => 0))), (q6, .inl (cI, 20, .inl (fun _ => 0))), (q7, .inl (cI, 20, .inl (fun _ => 0))), (q8, .inl (cI, 20, .inl (fun _ => 0)))] H := hP
  have hD : va_D A [(h, .inr (0, [.ref q0, .ref q1, .ref q2, .ref q3, .ref q4, .ref q5, .ref q6, .ref q7, .null, .null, .null, .int 0, .int 0, .int 0, .int 0, .int 0])), (q0, .inl (cI, 10, .inl (fun _ => 0))), (q1, .inl (cI, 10, .inl (fun _ => 0))), (q2, .inl (cI, 10, .inl (fun _ => 0))), (q3, .inl (cI, 10, .inl (fun _ => 0))), (q4, .inl (cZ, 10, .inl (fun _ => 0))), (q5, .inl (cI, 10, .inl (fun _ => 0))), (q6, .inl (cI, 20, .inl (fun _ => 0))), (q7, .inl (cI, 20, .inl (fun _ => 0))), (q8, .inl (cI, 20, .inl (fun _ => 0)))] := hD
  refine va_putF (ci := 0) (v := .ref q8) (ty := .array .int) (C := RX0) (T := TX0) (N := 16) hx hb hts hin tyX0 tyX0_ok nmX0 hown hK hP hD hS 0 rfl rfl 8 (by decide) (hts (.fieldLink RX0 35 "CurfewDesk" "personOwes" "[I") (by decide +kernel)) (fun _ h9 => h9) rfl hnm rfl (by decide +kernel) rfl rfl (Nat.le_of_ble_eq_true rfl) dX0_init_73 (fun H locs hP hD hS => ?_)
  have hP : va_P G vwCl [(h, .inr (0, [.ref q0, .ref q1, .ref q2, .ref q3, .ref q4, .ref q5, .ref q6, .ref q7, .ref q8, .null, .null, .int 0, .int 0, .int 0, .int 0, .int 0])), (q0, .inl (cI, 10, .inl (fun _ => 0))), (q1, .inl (cI, 10, .inl (fun _ => 0))), (q2, .inl (cI, 10, .inl (fun _ => 0))), (q3, .inl (cI, 10, .inl (fun _ => 0))), (q4, .inl (cZ, 10, .inl (fun _ => 0))), (q5, .inl (cI, 10, .inl (fun _ => 0))), (q6, .inl (cI, 20, .inl (fun _ => 0))), (q7, .inl (cI, 20, .inl (fun _ => 0))), (q8, .inl (cI, 20, .inl (fun _ => 0)))] H := hP
  have hD : va_D A [(h, .inr (0, [.ref q0, .ref q1, .ref q2, .ref q3, .ref q4, .ref q5, .ref q6, .ref q7, .ref q8, .null, .null, .int 0, .int 0, .int 0, .int 0, .int 0])), (q0, .inl (cI, 10, .inl (fun _ => 0))), (q1, .inl (cI, 10, .inl (fun _ => 0))), (q2, .inl (cI, 10, .inl (fun _ => 0))), (q3, .inl (cI, 10, .inl (fun _ => 0))), (q4, .inl (cZ, 10, .inl (fun _ => 0))), (q5, .inl (cI, 10, .inl (fun _ => 0))), (q6, .inl (cI, 20, .inl (fun _ => 0))), (q7, .inl (cI, 20, .inl (fun _ => 0))), (q8, .inl (cI, 20, .inl (fun _ => 0)))] := hD
  refine lv_aload_n hx hb dX0_init_76 rfl (lv_at hl 0 rfl) ?_
  refine lv_bipush (v := 80) hx hb dX0_init_77 (by decide) ?_
  refine w_newI (N := 80) hx hb haI hfI hK hP hD hS hA (by decide) (by decide) (by decide) (Nat.le_of_ble_eq_true rfl) (Nat.le_of_ble_eq_true rfl) dX0_init_79 (fun q9 H hKI hP hD hS => ?_)
  have hP : va_P G vwCl [(h, .inr (0, [.ref q0, .ref q1, .ref q2, .ref q3, .ref q4, .ref q5, .ref q6, .ref q7, .ref q8, .null, .null, .int 0, .int 0, .int 0, .int 0, .int 0])), (q0, .inl (cI, 10, .inl (fun _ => 0))), (q1, .inl (cI, 10, .inl (fun _ => 0))), (q2, .inl (cI, 10, .inl (fun _ => 0))), (q3, .inl (cI, 10, .inl (fun _ => 0))), (q4, .inl (cZ, 10, .inl (fun _ => 0))), (q5, .inl (cI, 10, .inl (fun _ => 0))), (q6, .inl (cI, 20, .inl (fun _ => 0))), (q7, .inl (cI, 20, .inl (fun _ => 0))), (q8, .inl (cI, 20, .inl (fun _ => 0))), (q9, .inl (cI, 80, .inl (fun _ => 0)))] H := hP
  have hD : va_D A [(h, .inr (0, [.ref q0, .ref q1, .ref q2, .ref q3, .ref q4, .ref q5, .ref q6, .ref q7, .ref q8, .null, .null, .int 0, .int 0, .int 0, .int 0, .int 0])), (q0, .inl (cI, 10, .inl (fun _ => 0))), (q1, .inl (cI, 10, .inl (fun _ => 0))), (q2, .inl (cI, 10, .inl (fun _ => 0))), (q3, .inl (cI, 10, .inl (fun _ => 0))), (q4, .inl (cZ, 10, .inl (fun _ => 0))), (q5, .inl (cI, 10, .inl (fun _ => 0))), (q6, .inl (cI, 20, .inl (fun _ => 0))), (q7, .inl (cI, 20, .inl (fun _ => 0))), (q8, .inl (cI, 20, .inl (fun _ => 0))), (q9, .inl (cI, 80, .inl (fun _ => 0)))] := hD
  refine va_putF (ci := 0) (v := .ref q9) (ty := .array .int) (C := RX0) (T := TX0) (N := 16) hx hb hts hin tyX0 tyX0_ok nmX0 hown hK hP hD hS 0 rfl rfl 9 (by decide) (hts (.fieldLink RX0 38 "CurfewDesk" "personStamps" "[I") (by decide +kernel)) (fun _ h9 => h9) rfl hnm rfl (by decide +kernel) rfl rfl (Nat.le_of_ble_eq_true rfl) dX0_init_81 (fun H locs hP hD hS => ?_)
  have hP : va_P G vwCl [(h, .inr (0, [.ref q0, .ref q1, .ref q2, .ref q3, .ref q4, .ref q5, .ref q6, .ref q7, .ref q8, .ref q9, .null, .int 0, .int 0, .int 0, .int 0, .int 0])), (q0, .inl (cI, 10, .inl (fun _ => 0))), (q1, .inl (cI, 10, .inl (fun _ => 0))), (q2, .inl (cI, 10, .inl (fun _ => 0))), (q3, .inl (cI, 10, .inl (fun _ => 0))), (q4, .inl (cZ, 10, .inl (fun _ => 0))), (q5, .inl (cI, 10, .inl (fun _ => 0))), (q6, .inl (cI, 20, .inl (fun _ => 0))), (q7, .inl (cI, 20, .inl (fun _ => 0))), (q8, .inl (cI, 20, .inl (fun _ => 0))), (q9, .inl (cI, 80, .inl (fun _ => 0)))] H := hP
  have hD : va_D A [(h, .inr (0, [.ref q0, .ref q1, .ref q2, .ref q3, .ref q4, .ref q5, .ref q6, .ref q7, .ref q8, .ref q9, .null, .int 0, .int 0, .int 0, .int 0, .int 0])), (q0, .inl (cI, 10, .inl (fun _ => 0))), (q1, .inl (cI, 10, .inl (fun _ => 0))), (q2, .inl (cI, 10, .inl (fun _ => 0))), (q3, .inl (cI, 10, .inl (fun _ => 0))), (q4, .inl (cZ, 10, .inl (fun _ => 0))), (q5, .inl (cI, 10, .inl (fun _ => 0))), (q6, .inl (cI, 20, .inl (fun _ => 0))), (q7, .inl (cI, 20, .inl (fun _ => 0))), (q8, .inl (cI, 20, .inl (fun _ => 0))), (q9, .inl (cI, 80, .inl (fun _ => 0)))] := hD
  refine lv_aload_n hx hb dX0_init_84 rfl (lv_at hl 0 rfl) ?_
  refine lv_iconst (v := 4) hx hb dX0_init_85 (by decide) ?_
  refine w_newI (N := 4) hx hb haI hfI hK hP hD hS hA (by decide) (by decide) (by decide) (Nat.le_of_ble_eq_true rfl) (Nat.le_of_ble_eq_true rfl) dX0_init_86 (fun q10 H hKI hP hD hS => ?_)
  have hP : va_P G vwCl [(h, .inr (0, [.ref q0, .ref q1, .ref q2, .ref q3, .ref q4, .ref q5, .ref q6, .ref q7, .ref q8, .ref q9, .null, .int 0, .int 0, .int 0, .int 0, .int 0])), (q0, .inl (cI, 10, .inl (fun _ => 0))), (q1, .inl (cI, 10, .inl (fun _ => 0))), (q2, .inl (cI, 10, .inl (fun _ => 0))), (q3, .inl (cI, 10, .inl (fun _ => 0))), (q4, .inl (cZ, 10, .inl (fun _ => 0))), (q5, .inl (cI, 10, .inl (fun _ => 0))), (q6, .inl (cI, 20, .inl (fun _ => 0))), (q7, .inl (cI, 20, .inl (fun _ => 0))), (q8, .inl (cI, 20, .inl (fun _ => 0))), (q9, .inl (cI, 80, .inl (fun _ => 0))), (q10, .inl (cI, 4, .inl (fun _ => 0)))] H := hP
  have hD : va_D A [(h, .inr (0, [.ref q0, .ref q1, .ref q2, .ref q3, .ref q4, .ref q5, .ref q6, .ref q7, .ref q8, .ref q9, .null, .int 0, .int 0, .int 0, .int 0, .int 0])), (q0, .inl (cI, 10, .inl (fun _ => 0))), (q1, .inl (cI, 10, .inl (fun _ => 0))), (q2, .inl (cI, 10, .inl (fun _ => 0))), (q3, .inl (cI, 10, .inl (fun _ => 0))), (q4, .inl (cZ, 10, .inl (fun _ => 0))), (q5, .inl (cI, 10, .inl (fun _ => 0))), (q6, .inl (cI, 20, .inl (fun _ => 0))), (q7, .inl (cI, 20, .inl (fun _ => 0))), (q8, .inl (cI, 20, .inl (fun _ => 0))), (q9, .inl (cI, 80, .inl (fun _ => 0))), (q10, .inl (cI, 4, .inl (fun _ => 0)))] := hD
  refine va_putF (ci := 0) (v := .ref q10) (ty := .array .int) (C := RX0) (T := TX0) (N := 16) hx hb hts hin tyX0 tyX0_ok nmX0 hown hK hP hD hS 0 rfl rfl 10 (by decide) (hts (.fieldLink RX0 41 "CurfewDesk" "usedStamps" "[I") (by decide +kernel)) (fun _ h9 => h9) rfl hnm rfl (by decide +kernel) rfl rfl (Nat.le_of_ble_eq_true rfl) dX0_init_88 (fun H locs hP hD hS => ?_)
  have hP : va_P G vwCl [(h, .inr (0, [.ref q0, .ref q1, .ref q2, .ref q3, .ref q4, .ref q5, .ref q6, .ref q7, .ref q8, .ref q9, .ref q10, .int 0, .int 0, .int 0, .int 0, .int 0])), (q0, .inl (cI, 10, .inl (fun _ => 0))), (q1, .inl (cI, 10, .inl (fun _ => 0))), (q2, .inl (cI, 10, .inl (fun _ => 0))), (q3, .inl (cI, 10, .inl (fun _ => 0))), (q4, .inl (cZ, 10, .inl (fun _ => 0))), (q5, .inl (cI, 10, .inl (fun _ => 0))), (q6, .inl (cI, 20, .inl (fun _ => 0))), (q7, .inl (cI, 20, .inl (fun _ => 0))), (q8, .inl (cI, 20, .inl (fun _ => 0))), (q9, .inl (cI, 80, .inl (fun _ => 0))), (q10, .inl (cI, 4, .inl (fun _ => 0)))] H := hP
  have hD : va_D A [(h, .inr (0, [.ref q0, .ref q1, .ref q2, .ref q3, .ref q4, .ref q5, .ref q6, .ref q7, .ref q8, .ref q9, .ref q10, .int 0, .int 0, .int 0, .int 0, .int 0])), (q0, .inl (cI, 10, .inl (fun _ => 0))), (q1, .inl (cI, 10, .inl (fun _ => 0))), (q2, .inl (cI, 10, .inl (fun _ => 0))), (q3, .inl (cI, 10, .inl (fun _ => 0))), (q4, .inl (cZ, 10, .inl (fun _ => 0))), (q5, .inl (cI, 10, .inl (fun _ => 0))), (q6, .inl (cI, 20, .inl (fun _ => 0))), (q7, .inl (cI, 20, .inl (fun _ => 0))), (q8, .inl (cI, 20, .inl (fun _ => 0))), (q9, .inl (cI, 80, .inl (fun _ => 0))), (q10, .inl (cI, 4, .inl (fun _ => 0)))] := hD
  have hP9 := hP.sub (ws' := Dk cI cZ h (fun k => ([q0, q1, q2, q3, q4, q5, q6, q7, q8, q9, q10] : List Nat).getD k 0) (fun _ _ => 0) 0 0 0 0 0) [0, 1, 2, 3, 4, 5, 6, 7, 8, 9, 10, 11] rfl
  have hD9 := hD.sub (ws' := Dk cI cZ h (fun k => ([q0, q1, q2, q3, q4, q5, q6, q7, q8, q9, q10] : List Nat).getD k 0) (fun _ _ => 0) 0 0 0 0 0) [0, 1, 2, 3, 4, 5, 6, 7, 8, 9, 10, 11] (by decide) rfl
  refine W.widen (k := 11) (n := 204) (Nat.le_of_ble_eq_true rfl) (Nat.le_of_ble_eq_true rfl) ?_
  exact W.vret hx hb hr (fun t ht hW => ⟨⟨((fun k => ([q0, q1, q2, q3, q4, q5, q6, q7, q8, q9, q10] : List Nat).getD k 0), cI, cZ), rfl, trivial, by rw [ht]; exact hP9, va_K.moved hW.alike (w_K2 hK hKI hKZ), hD9⟩, hS.F ht⟩) hS.2.2 dX0_init_91 hlocks
end
section
section MAS
/-! the book of the slots along a walk: what a heap weighs never falls, so a lower bound goes along with any row -/
theorem o_push {H H1 : Heap} {cell : Cell} (hz : H1.size = H.size + 1) (ho : ∀ q : Nat, q < H.size → H1[q]? = H[q]?) (hc : H1[H.size]? = some cell) : slotSum H1 = slotSum H + cell.slots.size := by
  have e : H1 = H.push cell := by
    apply Array.ext_getElem?
    intro i
    rw [Array.getElem?_push]
    by_cases h : i = H.size
    · subst h
      rw [if_pos rfl]
      exact hc
    · rw [if_neg h]
      by_cases h2 : i < H.size
      · exact ho i h2
      · rw [Array.getElem?_eq_none (by omega), Array.getElem?_eq_none (by omega)]
  rw [e, slotSum_push]
section MA1
variable {p : Program} {l : Launch} {e : Env} {R : Room} {s : State} {m : MethodId} {args : Array Value} {below : List Frame} {meth : Method} {c : Code} {H : Heap} {locs : List Loc} {cells slots : Nat} {Q : State → Prop}
variable {cc : ByteArray} {pc : Nat} {ls : Array Slot} {rest st0 : List Value} {G : va_G} {tys tysC : List (ClassId × FieldType)} {ww wc wr : va_W} {A : Nat → Prop} {H0 : Heap} {mc ms : Nat} {aa : Array Value} {g : JFrame} {K : Nat}
theorem o_book {T : State} (X : Stand p l e R s m args below meth c T locs cells slots) : T.slotsUsed = slotSum T.heap := (State.slotsTrue_iff T).mp X.book
theorem W_up (hM : K ≤ slotSum H) (row : W p l e R s m args below meth c H locs cells slots (fun t => Q t ∨ t.slotsUsed < K) g) : W p l e R s m args below meth c H locs cells slots Q g := by
  intro T hT X
  obtain ⟨t, st, q⟩ := row T hT X
  refine ⟨t, st, q.resolve_right (fun hlt => ?_)⟩
  have hbook := o_book X
  obtain ⟨n, hn, -⟩ := st
  have h1 := (stepsAlone_heap_grows p.tables e n (T.setTop g)).2
  rw [hn] at h1
  have h2 : (T.setTop g).slotsUsed = T.slotsUsed := rfl
  rw [h2, hbook, hT] at h1
  omega
theorem W_dn (kk : K ≤ slotSum H → W p l e R s m args below meth c H locs cells slots Q g) : W p l e R s m args below meth c H locs cells slots (fun t => Q t ∨ t.slotsUsed < K) g := by
  intro T hT X
  by_cases h : K ≤ slotSum H
  · obtain ⟨t, st, q⟩ := kk h T hT X
    exact ⟨t, st, Or.inl q⟩
  · refine ⟨T.setTop g, Steps.refl _, Or.inr ?_⟩
    have hbook := o_book X
    show T.slotsUsed < K
    rw [hbook, hT]
    omega
/-- a bound given up -/
theorem W_le {K2 : Nat} (h : K2 ≤ K) (hM : K ≤ slotSum H) : K2 ≤ slotSum H := Nat.le_trans h hM
/-- new T[N], and what it weighs -/
theorem o_newa {cA : ClassId} {atype : ArrayType} {ty : FieldType} {a0 : vp_A} {n : Int32} {N : Nat} (hx : p.tables.exec = Jvm.exec) (hb : c.code = cc) (harr : (Cond.arrayClass (newarray.typeOf atype)).before args s = true) (hty : newarray.typeOf atype = ty) (hf : s.vm.findClass ("[" ++ ty.toString) = some cA) (hP : va_P G vwCl ww H) (hD : va_D A ww) (hS : va_S A H0 H locs) (hA : ∀ q : Nat, H0.size ≤ q → A q) (hM : K ≤ slotSum H)
    (ha : vp_cell cA a0 = arrV cA N (fun _ => defaultValue ty)) (hn : ¬ n < 0) (hN : n.toNatClampNeg = N) (hbytes : N * componentBytes ty ≤ 536870912) (hcells : cells + 1 ≤ R.cells) (hslots : slots + N ≤ R.slots) (hdg : decode cc pc = .ok (.newarray atype, 2))
    (kk : ∀ (q : Nat) (H1 : Heap), ArrOfT s cA ty → q = H.size → va_P G vwCl (ww ++ [(q, .inl (cA, a0))]) H1 → va_D A (ww ++ [(q, .inl (cA, a0))]) → va_S A H0 H1 locs → K + N ≤ slotSum H1 → W p l e R s m args below meth c H1 locs (cells + 1) (slots + N) Q (F0 m (pc + 2) ls (.ref q :: rest))) : W p l e R s m args below meth c H locs cells slots Q (F0 m pc ls (.int n :: rest)) := by
  subst hty
  refine va_newaK hx hb harr rfl hdg rfl hn hN hbytes hcells hslots rfl fun H1 cB e1 z1 o1 hAr hNm => ?_
  have e : cB = cA := Option.some.inj (hNm.symm.trans hf)
  subst e
  have hk : ∀ (k : Nat) (x : Nat × va_E), ww[k]? = some x → H1[x.1]? = H[x.1]? := fun k x hx => o1 x.1 ((hP k x hx).lt)
  have hsum := o_push z1 o1 e1
  rw [arrV_size] at hsum
  refine kk H.size H1 hAr rfl ((hP.kept hk).app (fun k x hx => ?_)) (hD.push hP rfl (hA _ hS.1)) ⟨Nat.le_trans hS.1 (by omega), fun x h1 h2 => (o1 x (Nat.lt_of_lt_of_le h1 hS.1)).trans (hS.2.1 x h1 h2), hS.2.2⟩ (by omega)
  have hz : k < 1 := (List.getElem?_eq_some_iff.mp hx).1
  rw [show k = 0 by omega] at hx
  cases hx
  show H1[H.size]? = some (vp_cell cB a0)
  rw [ha]
  exact e1
/-- a row of rows, read -/
theorem o_ald {cA : ClassId} {ty : FieldType} {a n q0 t0 : Nat} {f : Nat → Option Nat} (hx : p.tables.exec = Jvm.exec) (hb : c.code = cc) (hK : va_K G vwCl tys s) (hP : va_P G vwCl ww H) (ha : ww[q0]? = some (a, .inl (cA, n, .inr (.inr (.inr (.inr f)))))) (ht : tys[t0]? = some (cA, .array ty)) {j r : Nat} (hj : j < n) (hn : n < 2 ^ 31) (hr : f j = some r) (hdg : decode cc pc = .ok (.aaload, 1))
    (kk : W p l e R s m args below meth c H locs cells slots Q (F0 m (pc + 1) ls (.ref r :: rest))) : W p l e R s m args below meth c H locs cells slots Q (F0 m pc ls (.int (nI j) :: .ref a :: rest)) := by
  have hin : vp_in (nI j) n := vp_in_nI hj hn
  have hc := nI_clamp (n := j) (by omega)
  have hlt : (nI j).toNatClampNeg < n := by rw [hc]; exact hj
  refine W.aald (v := .ref r) (ty := .array ty) hx hb (hP q0 _ ha) ((hK.2 t0 _ ht).1 n (fun j => va_rf (f j))) rfl (fun q => by cases q) (by show ¬ (nI j < 0 ∨ (arrV _ _ _).slots.size ≤ _); rw [arrV_size]; exact hin) ?_ rfl rfl hdg kk
  show (arrV _ _ _).slots[_]? = _
  rw [arrV_read _ _ hlt, hc, hr]
  rfl
end MA1
/-! a method's start: what it may write (wm), what it only reads (wr), what the heap weighs -/
def oPre (G : va_G) (tys : List (ClassId × FieldType)) (wm wr : va_W) (sz K : Nat) (U : State) : Prop :=
  U.heap.size = sz ∧ K ≤ slotSum U.heap ∧ va_P G vwCl wm U.heap ∧ va_P G vwCl wr U.heap ∧ va_K G vwCl tys U ∧ va_D (fun _ => True) wm ∧ ∀ (k : Nat) (q : Nat × va_E), wr[k]? = some q → ∀ (j : Nat) (x : va_E), wm[j]? ≠ some (q.1, x)
theorem oPre_blind {G : va_G} {tys : List (ClassId × FieldType)} {wm wr : va_W} {sz K : Nat} {vs : List Value} : FrameBlind (va_Pc vs (oPre G tys wm wr sz K)) := by
  intro a U g mk q
  obtain ⟨q0, q1, qM, qP, qR, qK, qD, qx⟩ := q
  exact ⟨q0, q1, qM, qP, qR, va_K.moved (u := U) (U := U.calling g mk a) (Vm.Alike.refl U.vm) qK, qD, qx⟩
def oB (G : va_G) (tys : List (ClassId × FieldType)) (ww : va_W) (A : Nat → Prop) (K : Nat) (t : State) : Prop := wP G tys ww A t ∧ K ≤ slotSum t.heap
theorem o_pre {s : State} {H : Heap} {G : va_G} {tys : List (ClassId × FieldType)} {wm wr : va_W} {A : Nat → Prop} {K : Nat} {vs : List Value} (hM : K ≤ slotSum H) (hK : va_K G vwCl tys s) (hP : va_P G vwCl wm H) (hR : va_P G vwCl wr H) (hD : va_D A wm) (hx : ∀ (k : Nat) (q : Nat × va_E), wr[k]? = some q → ∀ (j : Nat) (x : va_E), wm[j]? ≠ some (q.1, x)) : ∀ U : State, U.heap = H → s.WarmedH U.vm → va_Pc vs (oPre G tys wm wr H.size K) vs.toArray U :=
  fun U hU hW => ⟨rfl, by rw [hU], by rw [hU]; exact hM, by rw [hU]; exact hP, by rw [hU]; exact hR, va_K.moved hW.alike hK, hD.weaken (fun _ _ _ _ => trivial), hx⟩
/-- nothing that it writes -/
theorem o_x0 {wr : va_W} : ∀ (k : Nat) (q : Nat × va_E), wr[k]? = some q → ∀ (j : Nat) (x : va_E), ([] : va_W)[j]? ≠ some (q.1, x) := fun _ _ _ j x h => by simp at h
/-- what is only read is kept -/
theorem o_keep {G : va_G} {wr : va_W} {A : Nat → Prop} {H0 H : Heap} {locs : List Loc} (hR : va_P G vwCl wr H0) (hro : ∀ (k : Nat) (q : Nat × va_E), wr[k]? = some q → ¬ A q.1) (hS : va_S A H0 H locs) : va_P G vwCl wr H :=
  hR.kept (fun k q hk => hS.2.1 q.1 ((hR k q hk).lt) (hro k q hk))
theorem o_met {l : Launch} {y : MethodName} {ws ws' : List Cond} {rm : Room} {Qc : Array Value → State → Outcome → State → Prop} {mc ms : Nat} {cc : ByteArray} {maxL : Nat} {ret : Option FieldType} {G : va_G} {tys : List (ClassId × FieldType)} {wm wr : va_W} {sz K : Nat} {vs : List Value}
    (hy : plainName y.cls = true) (hw : ws = Cond.code y cc maxL ret :: ws') (hn : (lg_sl vs).length ≤ maxL)
    (body : ∀ (p : Program) (e : Env) (s : State) (m : MethodId) (below : List Frame) (meth : Method) (c : Code), p.tables.exec = Jvm.exec → c.code = cc → c.maxLocals = maxL → meth.sig.returnType = ret → (∀ w ∈ ws, w.before vs.toArray s = true) → s.vm.findClass y.cls = some m.cls → meth.locks = false → meth.name = y.name →
      va_K G vwCl tys s → K ≤ slotSum s.heap → va_P G vwCl wr s.heap → (∀ (k : Nat) (q : Nat × va_E), wr[k]? = some q → ¬ va_A wm sz q.1) → s.heap.size = sz → va_P G vwCl wm s.heap → va_D (va_A wm sz) wm → (∀ q : Nat, s.heap.size ≤ q → va_A wm sz q) → va_S (va_A wm sz) s.heap s.heap [] → ∀ ls : Array Slot, lv_has ls maxL (lv_args 0 vs) →
      W p l e rm s m vs.toArray below meth c s.heap [] 0 0 (MQ below Qc vs.toArray s mc ms (va_A wm sz)) (F0 m 0 ls [])) :
    Met l y ws rm (va_Pc vs (oPre G tys wm wr sz K)) Qc mc ms (va_A wm sz) := by
  refine Met.ofW (cc := cc) (maxL := maxL) (ret := ret) hy hw ?_
  intro p e s m args below meth c s₁ B hml hv
  obtain ⟨rfl, hsz, hM, hP, hR, hK, hD0, hx0⟩ := hv
  have hts := atoms_spec (ws := ws) B.pre
  have hl := lv_entry vs (n := maxL) hn
  rw [lg_entry_eq]
  generalize (lg_sl vs ++ List.replicate (maxL - (lg_sl vs).length) Slot.unset).toArray = ls at hl ⊢
  refine body p e s m below meth c B.exec B.bytes hml B.returns hts (findClass_of_methodNamed B.named) B.notSynchronized (name_of_methodNamed B.named B.method).1 hK hM hR (fun k q hk h => ?_) hsz hP (hD0.self (sz := sz)) (fun q h => Or.inr (by rw [← hsz]; exact h)) va_S.rf ls hl
  rcases h with ⟨j, x, hj⟩ | h
  · exact hx0 k q hk j x hj
  · have := (hR k q hk).lt
    omega
section MA2
variable {p : Program} {l : Launch} {e : Env} {R : Room} {s : State} {m : MethodId} {args : Array Value} {below : List Frame} {meth : Method} {c : Code} {H : Heap} {locs : List Loc} {cells slots : Nat} {Q : State → Prop}
variable {cc : ByteArray} {pc : Nat} {ls : Array Slot} {rest st0 : List Value} {G : va_G} {tys tysC : List (ClassId × FieldType)} {ww wc wr wm : va_W} {A : Nat → Prop} {H0 : Heap} {mc ms : Nat} {aa : Array Value} {K : Nat}
theorem o_iret {S : Type} {post : Int32 → S → Prop} {w1 : S → va_W} {v : Int32} (u : S) (hx : p.tables.exec = Jvm.exec) (hb : c.code = cc) (hr : meth.sig.returnType = some .int) (hlocks : meth.locks = false)
    (hK : va_K G vwCl tys s) (hM : K ≤ slotSum H) (hP : va_P G vwCl (w1 u) H) (hD : va_D A (w1 u)) (hS : va_S A s.heap H locs) (hc : cells ≤ mc) (hs : slots ≤ ms) (hdg : decode cc pc = .ok (.ireturn, 1)) (hq : post v u) :
    W p l e R s m args below meth c H locs cells slots (MQ below (va_Qi post (fun u => oB G tys (w1 u) A K) A) args s mc ms A) (F0 m pc ls [.int v]) :=
  W.widen hc hs (W.iret hx hb hr (fun t ht hW => ⟨⟨v, u, rfl, hq, ⟨by rw [ht]; exact hP, va_K.moved hW.alike hK, hD⟩, by rw [ht]; exact hM⟩, hS.F ht⟩) hS.2.2 hdg hlocks)
theorem o_zret {S : Type} {post : Int32 → S → Prop} {w1 : S → va_W} {v : Int32} (u : S) (hx : p.tables.exec = Jvm.exec) (hb : c.code = cc) (hr : meth.sig.returnType = some .boolean) (hlocks : meth.locks = false)
    (hK : va_K G vwCl tys s) (hM : K ≤ slotSum H) (hP : va_P G vwCl (w1 u) H) (hD : va_D A (w1 u)) (hS : va_S A s.heap H locs) (hc : cells ≤ mc) (hs : slots ≤ ms) (hdg : decode cc pc = .ok (.ireturn, 1)) (hn : narrow .boolean (.int v) = .int v) (hq : post v u) :
    W p l e R s m args below meth c H locs cells slots (MQ below (va_Qi post (fun u => oB G tys (w1 u) A K) A) args s mc ms A) (F0 m pc ls [.int v]) :=
  W.widen hc hs (W.zret hx hb hr hn (fun t ht hW => ⟨⟨v, u, rfl, hq, ⟨by rw [ht]; exact hP, va_K.moved hW.alike hK, hD⟩, by rw [ht]; exact hM⟩, hS.F ht⟩) hS.2.2 hdg hlocks)
/-- a call that writes nothing that was there: every world stays -/
theorem o_in {S : Type} {post : Int32 → S → Prop} {w1 : S → va_W} {K1 : Nat} (hr : va_Run p l e R s m args below meth c H locs cells slots mc ms (F0 m pc ls st0) rest (va_Qi post (fun u => oB G tysC (w1 u) (va_A [] H.size) K1) (va_A [] H.size) aa) (va_A [] H.size))
    (hP : va_P G vwCl ww H) (hS : va_S A H0 H locs) (hA : ∀ q : Nat, H0.size ≤ q → A q)
    (kk : ∀ (r : Int32) (u : S) (H1 : Heap) (locs1 : List Loc), post r u → va_P G vwCl ww H1 → va_S A H0 H1 locs1 → K1 ≤ slotSum H1 → W p l e R s m args below meth c H1 locs1 (cells + mc) (slots + ms) Q (F0 m (pc + 3) ls (.int r :: rest))) : W p l e R s m args below meth c H locs cells slots Q (F0 m pc ls st0) := by
  have hF := w_free0 hS hA
  exact va_calli hr hS (fun q _ h => hF q h) hF (fun r u t H1 locs1 ht hvm hw hB hz hk hS1 => kk r u H1 locs1 hw (w_keep0 hP hk) hS1 (by rw [← ht]; exact hB.2))
/-- a call that writes wc, a part of the world in front of the pool -/
theorem o_pl {S : Type} {post : Int32 → S → Prop} {w1 : S → va_W} {K1 : Nat} {X pl : va_W} (hr : va_Run p l e R s m args below meth c H locs cells slots mc ms (F0 m pc ls st0) rest (va_Qi post (fun u => oB G tysC (w1 u) (va_A wc H.size) K1) (va_A wc H.size) aa) (va_A wc H.size))
    (hP : va_P G vwCl (X ++ pl) H) (hD : va_D A (X ++ pl)) (hS : va_S A H0 H locs) (hA : ∀ q : Nat, H0.size ≤ q → A q) (isC isR : List Nat) (hC : isC.map (fun i => X[i]?) = wc.map some) (hC2 : isC.map (fun i => (X ++ pl)[i]?) = wc.map some) (hR : isR.map (fun i => X[i]?) = wr.map some) (hn : va_nd isR = true) (hdis : ∀ i ∈ isR, i ∉ isC)
    (kk : ∀ (r : Int32) (u : S) (H1 : Heap) (locs1 : List Loc), post r u → va_P G vwCl ((wr ++ w1 u) ++ pl) H1 → va_D A ((wr ++ w1 u) ++ pl) → va_S A H0 H1 locs1 → K1 ≤ slotSum H1 → W p l e R s m args below meth c H1 locs1 (cells + mc) (slots + ms) Q (F0 m (pc + 3) ls (.int r :: rest))) : W p l e R s m args below meth c H locs cells slots Q (F0 m pc ls st0) := by
  have hF := va_free hD hS hA isC hC2
  refine va_calli hr hS (fun q _ h => hF q h) hF (fun r u t H1 locs1 ht hvm hw hB hz hk hS1 => ?_)
  obtain ⟨⟨hP1, hK1, hD1⟩, hM1⟩ := hB
  rw [ht] at hP1 hM1
  obtain ⟨hP2, hD2⟩ := va_joinQ (wr := wr) (w1 := w1 u) hP hD isC isR hC hR hn hdis hk hF hP1 hD1
  exact kk r u H1 locs1 hw hP2 hD2 hS1 hM1
/-- the same of a contract that says nothing of the weight -/
theorem o_plw {S : Type} {post : Int32 → S → Prop} {w1 : S → va_W} {X pl : va_W} (hr : va_Run p l e R s m args below meth c H locs cells slots mc ms (F0 m pc ls st0) rest (va_Qi post (fun u => wP G tysC (w1 u) (va_A wc H.size)) (va_A wc H.size) aa) (va_A wc H.size)) (hM : K ≤ slotSum H)
    (hP : va_P G vwCl (X ++ pl) H) (hD : va_D A (X ++ pl)) (hS : va_S A H0 H locs) (hA : ∀ q : Nat, H0.size ≤ q → A q) (isC isR : List Nat) (hC : isC.map (fun i => X[i]?) = wc.map some) (hC2 : isC.map (fun i => (X ++ pl)[i]?) = wc.map some) (hR : isR.map (fun i => X[i]?) = wr.map some) (hn : va_nd isR = true) (hdis : ∀ i ∈ isR, i ∉ isC)
    (kk : ∀ (r : Int32) (u : S) (H1 : Heap) (locs1 : List Loc), post r u → va_P G vwCl ((wr ++ w1 u) ++ pl) H1 → va_D A ((wr ++ w1 u) ++ pl) → va_S A H0 H1 locs1 → K ≤ slotSum H1 → W p l e R s m args below meth c H1 locs1 (cells + mc) (slots + ms) Q (F0 m (pc + 3) ls (.int r :: rest))) : W p l e R s m args below meth c H locs cells slots Q (F0 m pc ls st0) := by
  have hF := va_free hD hS hA isC hC2
  refine W_up hM (va_calli hr hS (fun q _ h => hF q h) hF (fun r u t H1 locs1 ht hvm hw hB hz hk hS1 => W_dn (fun hM1 => ?_)))
  obtain ⟨hP1, hK1, hD1⟩ := hB
  rw [ht] at hP1
  obtain ⟨hP2, hD2⟩ := va_joinQ (wr := wr) (w1 := w1 u) hP hD isC isR hC hR hn hdis hk hF hP1 hD1
  exact kk r u H1 locs1 hw hP2 hD2 hS1 hM1
/-- a static call without a world: the world and the weight stay -/
theorem o_st {S : Type} {post : Int32 → S → Prop} {B : S → State → Prop} (hr : va_Run p l e R s m args below meth c H locs cells slots mc ms (F0 m pc ls st0) rest (va_Qi post B (va_A [] H.size) aa) (va_A [] H.size)) (hM : K ≤ slotSum H)
    (hP : va_P G vwCl ww H) (hS : va_S A H0 H locs) (hA : ∀ q : Nat, H0.size ≤ q → A q)
    (kk : ∀ (r : Int32) (u : S) (H1 : Heap) (locs1 : List Loc), post r u → va_P G vwCl ww H1 → va_S A H0 H1 locs1 → K ≤ slotSum H1 → W p l e R s m args below meth c H1 locs1 (cells + mc) (slots + ms) Q (F0 m (pc + 3) ls (.int r :: rest))) : W p l e R s m args below meth c H locs cells slots Q (F0 m pc ls st0) :=
  W_up hM (w_st_i hr hP hS hA (fun r u H1 locs1 h1 h2 h3 => W_dn (fun hM1 => kk r u H1 locs1 h1 h2 h3 hM1)))
end MA2
end MAS
end
section
section ART
theorem o_sub {a b : Nat} (h : b ≤ a) : nI a - nI b = nI (a - b) := by
  have e : nI a = nI (a - b) + nI b := by rw [nI_add]; congr 1; omega
  rw [e, Int32.add_sub_cancel]
theorem o_div {m n : Nat} (hm : m < 2 ^ 31) (hn : n < 2 ^ 31) : nI m / nI n = nI (m / n) := by
  have h1 : m / n ≤ m := Nat.div_le_self m n
  apply Int32.toInt_inj.mp
  rw [Int32.toInt_div, nI_toInt hm, nI_toInt hn, nI_toInt (by omega), show (m : Int).tdiv (n : Int) = ((m / n : Nat) : Int) from (Int.ofNat_tdiv m n).symm]
  generalize m / n = c at h1 ⊢
  exact Int.bmod_eq_of_le_mul_two (by omega) (by omega)
theorem o_rem {m n : Nat} (hm : m < 2 ^ 31) (hn : n < 2 ^ 31) : nI m - nI m / nI n * nI n = nI (m % n) := by
  rw [o_div hm hn, pk_mul, o_sub (Nat.div_mul_le_self m n), Nat.mod_def, Nat.mul_comm n (m / n)]
theorem o_and (v : Int32) : ∃ m : Nat, m < 2 ^ 31 ∧ v &&& 2147483647 = nI m := by
  have e : (v &&& 2147483647).toInt = ((v.toBitVec &&& 2147483647#32).toNat : Int) := by
    show (v.toBitVec &&& 2147483647#32).toInt = _
    apply BitVec.toInt_eq_toNat_of_lt
    rw [BitVec.toNat_and]
    have h1 := @Nat.and_le_right v.toBitVec.toNat (2147483647#32).toNat
    have h2 : (2147483647#32).toNat = 2147483647 := rfl
    omega
  apply nI_of
  rw [i32_lt0, e]
  omega
/-- the law's below(v, n) -/
def ob (v n : Int32) : Int32 := (v &&& 2147483647) - (v &&& 2147483647) / n * n
theorem ob_nI (v : Int32) {n : Nat} (h0 : 0 < n) (hn : n < 2 ^ 31) : ∃ j : Nat, j < n ∧ ob v (nI n) = nI j := by
  obtain ⟨m, hm, e⟩ := o_and v
  refine ⟨m % n, Nat.mod_lt _ h0, ?_⟩
  rw [ob, e, o_rem hm hn]
/-- two tides at most, one at least, of what an order costs at a half hour of the day -/
def o_dl (hh : Nat) : Nat := if hh < 30 then 40 else 20
def OF (f : Nat → Int32) : Prop := ∀ j, ∃ t : Nat, t ≤ 4 ∧ f j = nI t
theorem OF_0 : OF (fun _ => 0) := fun _ => ⟨0, by omega, rfl⟩
theorem OF_up {f : Nat → Int32} {i : Nat} {v : Int32} (h : OF f) (hv : ∃ t : Nat, t ≤ 4 ∧ v = nI t) : OF (upd f i v) := fun j => by
  by_cases e : j = i
  · subst e
    obtain ⟨t, h1, h2⟩ := hv
    exact ⟨t, h1, by rw [pk_us]; exact h2⟩
  · obtain ⟨t, h1, h2⟩ := h j
    exact ⟨t, h1, by simp [upd, e, h2]⟩
theorem o_ge {a b : Nat} (h : ¬ nI b ≤ nI a) (ha : a < 2 ^ 31) (hb : b < 2 ^ 31) : a < b := by
  rcases Nat.lt_or_ge a b with q | q
  · exact q
  · exact absurd (nI_le q ha) h
end ART
end
section
section TID
section TI1
variable {p : Program} {l : Launch} {e : Env} {R : Room} {s : State} {m : MethodId} {args : Array Value} {below : List Frame} {meth : Method} {c : Code} {H : Heap} {locs : List Loc} {cells slots : Nat} {Q : State → Prop}
variable {cc : ByteArray} {pc : Nat} {ls : Array Slot} {rest : List Value} {G : va_G} {A : Nat → Prop} {H0 : Heap} {K : Nat} {cI : ClassId} {q : Nat} {f : Nat → Int32}
theorem o_tst (hx : p.tables.exec = Jvm.exec) (hb : c.code = cc) (hK : va_K G vwCl [(cI, .int)] s) (hP : va_P G vwCl [(q, .inl (cI, 20, .inl f))] H) (hD : va_D A [(q, .inl (cI, 20, .inl f))]) (hS : va_S A H0 H locs) (hM : K ≤ slotSum H) (hF : OF f) {i v : Int32} (hi : vp_in i 20) (hv : ∃ t : Nat, t ≤ 4 ∧ v = nI t) (hdg : decode cc pc = .ok (.iastore, 1))
    (kk : ∀ (f : Nat → Int32) (H : Heap) (locs : List Loc), OF f → va_P G vwCl [(q, .inl (cI, 20, .inl f))] H → va_D A [(q, .inl (cI, 20, .inl f))] → va_S A H0 H locs → K ≤ slotSum H → W p l e R s m args below meth c H locs cells slots Q (F0 m (pc + 1) ls rest)) : W p l e R s m args below meth c H locs cells slots Q (F0 m pc ls (.int v :: .int i :: .ref q :: rest)) :=
  W_up hM (va_iast hx hb hK hP hD hS 0 0 rfl rfl hi hdg (fun H locs hP hD hS => W_dn (fun hM => kk _ H locs (OF_up hF hv) hP hD hS hM)))
end TI1
theorem o_rd20 (dd : Nat) (hd : dd < 2 ^ 31) : nI dd - nI dd / 40 * 40 = nI (dd % 40) := o_rem (n := 40) hd (by decide)
set_option maxHeartbeats 4000000 in
set_option maxRecDepth 100000 in
theorem c_X1_tide (l : Launch) (G : va_G) (cI : ClassId) (sz K dd : Nat) (hd : dd < 2 ^ 31) : Met l yX1_tide wsX1_tide ({ frames := 0, cells := 1, slots := 20, locals := 0 } : Room) (va_Pc [.int (nI dd)] (oPre G [(cI, .int)] [] [] sz K)) (va_Qi (fun (r : Int32) (_ : Unit) => ∃ t : Nat, t ≤ 4 ∧ r = nI t) (fun _ => oB G [(cI, .int)] [] (va_A [] sz) (K + 20)) (va_A [] sz)) 1 20 (va_A [] sz) := by
  refine o_met (cc := cX1_tide) (maxL := 3) (ret := (some .int)) (by decide) rfl (Nat.le_of_ble_eq_true rfl) ?_
  intro pg e s m below meth cd hx hb hml hr hts hown hlocks hnm hK hM hR hro hsz hP hD hA hS ls hl
  have hl : lv_has ls 3 [(0, .int (nI dd))] := hl
  generalize hAe : va_A [] sz = A at hD hA hS ⊢
  have hf := (hK.2 0 (cI, .int) rfl).2
  refine lv_bipush (v := 20) hx hb dX1_tide_0 (by decide) ?_
  refine o_newa (N := 20) (a0 := (20, .inl (fun _ => 0))) (ty := .int) (atype := .int) hx hb (hts (.arrayClass .int) (by decide +kernel)) rfl hf hP hD hS hA hM rfl (by decide) (by decide) (Nat.le_of_ble_eq_true rfl) (Nat.le_of_ble_eq_true rfl) (Nat.le_of_ble_eq_true rfl) dX1_tide_2 (fun q H hAr _ hP hD hS hM => ?_)
  have hF := OF_0
  refine lv_dup hx hb dX1_tide_4 rfl ?_
  refine lv_iconst (v := 0) hx hb dX1_tide_5 (by decide) ?_
  refine lv_iconst (v := 0) hx hb dX1_tide_6 (by decide) ?_
  refine o_tst (i := 0) hx hb hK hP hD hS hM hF (pk_in 0 20 (by decide)) ⟨0, by decide, rfl⟩ dX1_tide_7 (fun f H locs hF hP hD hS hM => ?_)
  refine lv_dup hx hb dX1_tide_8 rfl ?_
  refine lv_iconst (v := 1) hx hb dX1_tide_9 (by decide) ?_
  refine lv_iconst (v := 0) hx hb dX1_tide_10 (by decide) ?_
  refine o_tst (i := 1) hx hb hK hP hD hS hM hF (pk_in 1 20 (by decide)) ⟨0, by decide, rfl⟩ dX1_tide_11 (fun f H locs hF hP hD hS hM => ?_)
  refine lv_dup hx hb dX1_tide_12 rfl ?_
  refine lv_iconst (v := 2) hx hb dX1_tide_13 (by decide) ?_
  refine lv_iconst (v := 0) hx hb dX1_tide_14 (by decide) ?_
  refine o_tst (i := 2) hx hb hK hP hD hS hM hF (pk_in 2 20 (by decide)) ⟨0, by decide, rfl⟩ dX1_tide_15 (fun f H locs hF hP hD hS hM => ?_)
  refine lv_dup hx hb dX1_tide_16 rfl ?_
  refine lv_iconst (v := 3) hx hb dX1_tide_17 (by decide) ?_
  refine lv_iconst (v := 0) hx hb dX1_tide_18 (by decide) ?_
  refine o_tst (i := 3) hx hb hK hP hD hS hM hF (pk_in 3 20 (by decide)) ⟨0, by decide, rfl⟩ dX1_tide_19 (fun f H locs hF hP hD hS hM => ?_)
  refine lv_dup hx hb dX1_tide_20 rfl ?_
  refine lv_iconst (v := 4) hx hb dX1_tide_21 (by decide) ?_
  refine lv_iconst (v := 1) hx hb dX1_tide_22 (by decide) ?_
  refine o_tst (i := 4) hx hb hK hP hD hS hM hF (pk_in 4 20 (by decide)) ⟨1, by decide, rfl⟩ dX1_tide_23 (fun f H locs hF hP hD hS hM => ?_)
  refine lv_dup hx hb dX1_tide_24 rfl ?_
  refine lv_iconst (v := 5) hx hb dX1_tide_25 (by decide) ?_
  refine lv_iconst (v := 1) hx hb dX1_tide_26 (by decide) ?_
  refine o_tst (i := 5) hx hb hK hP hD hS hM hF (pk_in 5 20 (by decide)) ⟨1, by decide, rfl⟩ dX1_tide_27 (fun f H locs hF hP hD hS hM => ?_)
  refine lv_dup hx hb dX1_tide_28 rfl ?_
  refine lv_bipush (v := 6) hx hb dX1_tide_29 (by decide) ?_
  refine lv_iconst (v := 1) hx hb dX1_tide_31 (by decide) ?_
  refine o_tst (i := 6) hx hb hK hP hD hS hM hF (pk_in 6 20 (by decide)) ⟨1, by decide, rfl⟩ dX1_tide_32 (fun f H locs hF hP hD hS hM => ?_)
  refine lv_dup hx hb dX1_tide_33 rfl ?_
  refine lv_bipush (v := 7) hx hb dX1_tide_34 (by decide) ?_
  refine lv_iconst (v := 1) hx hb dX1_tide_36 (by decide) ?_
  refine o_tst (i := 7) hx hb hK hP hD hS hM hF (pk_in 7 20 (by decide)) ⟨1, by decide, rfl⟩ dX1_tide_37 (fun f H locs hF hP hD hS hM => ?_)
  refine lv_dup hx hb dX1_tide_38 rfl ?_
  refine lv_bipush (v := 8) hx hb dX1_tide_39 (by decide) ?_
  refine lv_iconst (v := 2) hx hb dX1_tide_41 (by decide) ?_
  refine o_tst (i := 8) hx hb hK hP hD hS hM hF (pk_in 8 20 (by decide)) ⟨2, by decide, rfl⟩ dX1_tide_42 (fun f H locs hF hP hD hS hM => ?_)
  refine lv_dup hx hb dX1_tide_43 rfl ?_
  refine lv_bipush (v := 9) hx hb dX1_tide_44 (by decide) ?_
  refine lv_iconst (v := 2) hx hb dX1_tide_46 (by decide) ?_
  refine o_tst (i := 9) hx hb hK hP hD hS hM hF (pk_in 9 20 (by decide)) ⟨2, by decide, rfl⟩ dX1_tide_47 (fun f H locs hF hP hD hS hM => ?_)
  refine lv_dup hx hb dX1_tide_48 rfl ?_
  refine lv_bipush (v := 10) hx hb dX1_tide_49 (by decide) ?_
  refine lv_iconst (v := 2) hx hb dX1_tide_51 (by decide) ?_
  refine o_tst (i := 10) hx hb hK hP hD hS hM hF (pk_in 10 20 (by decide)) ⟨2, by decide, rfl⟩ dX1_tide_52 (fun f H locs hF hP hD hS hM => ?_)
  refine lv_dup hx hb dX1_tide_53 rfl ?_
  refine lv_bipush (v := 11) hx hb dX1_tide_54 (by decide) ?_
  refine lv_iconst (v := 2) hx hb dX1_tide_56 (by decide) ?_
  refine o_tst (i := 11) hx hb hK hP hD hS hM hF (pk_in 11 20 (by decide)) ⟨2, by decide, rfl⟩ dX1_tide_57 (fun f H locs hF hP hD hS hM => ?_)
  refine lv_dup hx hb dX1_tide_58 rfl ?_
  refine lv_bipush (v := 12) hx hb dX1_tide_59 (by decide) ?_
  refine lv_iconst (v := 3) hx hb dX1_tide_61 (by decide) ?_
  refine o_tst (i := 12) hx hb hK hP hD hS hM hF (pk_in 12 20 (by decide)) ⟨3, by decide, rfl⟩ dX1_tide_62 (fun f H locs hF hP hD hS hM => ?_)
  refine lv_dup hx hb dX1_tide_63 rfl ?_
  refine lv_bipush (v := 13) hx hb dX1_tide_64 (by decide) ?_
  refine lv_iconst (v := 3) hx hb dX1_tide_66 (by decide) ?_
  refine o_tst (i := 13) hx hb hK hP hD hS hM hF (pk_in 13 20 (by decide)) ⟨3, by decide, rfl⟩ dX1_tide_67 (fun f H locs hF hP hD hS hM => ?_)
  refine lv_dup hx hb dX1_tide_68 rfl ?_
  refine lv_bipush (v := 14) hx hb dX1_tide_69 (by decide) ?_
  refine lv_iconst (v := 3) hx hb dX1_tide_71 (by decide) ?_
  refine o_tst (i := 14) hx hb hK hP hD hS hM hF (pk_in 14 20 (by decide)) ⟨3, by decide, rfl⟩ dX1_tide_72 (fun f H locs hF hP hD hS hM => ?_)
  refine lv_dup hx hb dX1_tide_73 rfl ?_
  refine lv_bipush (v := 15) hx hb dX1_tide_74 (by decide) ?_
  refine lv_iconst (v := 3) hx hb dX1_tide_76 (by decide) ?_
  refine o_tst (i := 15) hx hb hK hP hD hS hM hF (pk_in 15 20 (by decide)) ⟨3, by decide, rfl⟩ dX1_tide_77 (fun f H locs hF hP hD hS hM => ?_)
  refine lv_dup hx hb dX1_tide_78 rfl ?_
  refine lv_bipush (v := 16) hx hb dX1_tide_79 (by decide) ?_
  refine lv_iconst (v := 4) hx hb dX1_tide_81 (by decide) ?_
  refine o_tst (i := 16) hx hb hK hP hD hS hM hF (pk_in 16 20 (by decide)) ⟨4, by decide, rfl⟩ dX1_tide_82 (fun f H locs hF hP hD hS hM => ?_)
  refine lv_dup hx hb dX1_tide_83 rfl ?_
  refine lv_bipush (v := 17) hx hb dX1_tide_84 (by decide) ?_
  refine lv_iconst (v := 4) hx hb dX1_tide_86 (by decide) ?_
  refine o_tst (i := 17) hx hb hK hP hD hS hM hF (pk_in 17 20 (by decide)) ⟨4, by decide, rfl⟩ dX1_tide_87 (fun f H locs hF hP hD hS hM => ?_)
  refine lv_dup hx hb dX1_tide_88 rfl ?_
  refine lv_bipush (v := 18) hx hb dX1_tide_89 (by decide) ?_
  refine lv_iconst (v := 4) hx hb dX1_tide_91 (by decide) ?_
  refine o_tst (i := 18) hx hb hK hP hD hS hM hF (pk_in 18 20 (by decide)) ⟨4, by decide, rfl⟩ dX1_tide_92 (fun f H locs hF hP hD hS hM => ?_)
  refine lv_dup hx hb dX1_tide_93 rfl ?_
  refine lv_bipush (v := 19) hx hb dX1_tide_94 (by decide) ?_
  refine lv_iconst (v := 4) hx hb dX1_tide_96 (by decide) ?_
  refine o_tst (i := 19) hx hb hK hP hD hS hM hF (pk_in 19 20 (by decide)) ⟨4, by decide, rfl⟩ dX1_tide_97 (fun f H locs hF hP hD hS hM => ?_)
  refine lv_astore_n (lv' := [(1, .ref q), (0, .int (nI dd))]) hx hb dX1_tide_98 rfl hl (by decide) rfl (fun ls hl => ?_)
  refine lv_iload_n hx hb dX1_tide_99 rfl (lv_at hl 1 rfl) ?_
  refine lv_bipush (v := 40) hx hb dX1_tide_100 (by decide) ?_
  refine lv_irem hx hb dX1_tide_102 (by decide) ?_
  rw [o_rd20 dd hd]
  have hlt : dd % 40 < 40 := Nat.mod_lt _ (by decide)
  generalize dd % 40 = r at hlt ⊢
  refine lv_istore_n (lv' := [(2, .int (nI r)), (1, .ref q), (0, .int (nI dd))]) hx hb dX1_tide_103 rfl hl (by decide) rfl (fun ls hl => ?_)
  refine lv_iload_n hx hb dX1_tide_104 rfl (lv_at hl 0 rfl) ?_
  refine lv_bipush (v := 20) hx hb dX1_tide_105 (by decide) ?_
  refine lv_icmp_ge (tgt := 116) hx hb dX1_tide_107 (by decide) (fun c9 => ?_) (fun c9 => ?_)
  · have h9 : 20 ≤ r := (nI_leI (a := 20) (b := r) (by omega) (by omega)).mp c9
    refine lv_aload_n hx hb dX1_tide_116 rfl (lv_at hl 1 rfl) ?_
    refine lv_bipush (v := 39) hx hb dX1_tide_117 (by decide) ?_
    refine lv_iload_n hx hb dX1_tide_119 rfl (lv_at hl 0 rfl) ?_
    refine lv_isub hx hb dX1_tide_120 ?_
    rw [show (39 : Int32) - nI r = nI (39 - r) from o_sub (a := 39) (by omega)]
    refine w_iald hx hb hK hP 0 0 rfl rfl (f := f) (j := 39 - r) (by omega) (by omega) dX1_tide_121 ?_
    exact o_iret (w1 := fun _ => []) () hx hb hr hlocks hK hM w_P0 w_D0 hS (Nat.le_of_ble_eq_true rfl) (Nat.le_of_ble_eq_true rfl) dX1_tide_122 (hF _)
  · have h9 : r < 20 := o_ge c9 (by omega) (by omega)
    refine lv_aload_n hx hb dX1_tide_110 rfl (lv_at hl 1 rfl) ?_
    refine lv_iload_n hx hb dX1_tide_111 rfl (lv_at hl 0 rfl) ?_
    refine w_iald hx hb hK hP 0 0 rfl rfl (f := f) (j := r) (by omega) (by omega) dX1_tide_112 ?_
    refine lv_goto (tgt := 122) hx hb dX1_tide_113 (by decide) ?_
    exact o_iret (w1 := fun _ => []) () hx hb hr hlocks hK hM w_P0 w_D0 hS (Nat.le_of_ble_eq_true rfl) (Nat.le_of_ble_eq_true rfl) dX1_tide_122 (hF _)
end TID
end
section
section SIM
/-! the law's own desk (Sim): its object, its two rows of rows; the rows themselves lie in a pool -/
def SM (hs ao ap au : Nat) (day half : Int32) (Q O P : Nat) : Nat × va_E := (hs, .inr (1, [.int day, .int half, .int 0, .int (nI Q), .int (nI O), .int (nI P), .ref ao, .ref ap, .ref au]))
def OA (cR : ClassId) (ao : Nat) (ro : Nat → Nat) : Nat × va_E := (ao, .inl (cR, 10, .inr (.inr (.inr (.inr (fun i => if i < 10 then some (ro i) else none))))))
def PA (cR : ClassId) (ap : Nat) (rp : Nat → Nat) : Nat × va_E := (ap, .inl (cR, 20, .inr (.inr (.inr (.inr (fun i => if i < 20 then some (rp i) else none))))))
abbrev ty3 (cI cZ cR : ClassId) : List (ClassId × FieldType) := [(cI, .int), (cZ, .boolean), (cR, .array .int)]
/-- an order's row: what lies ahead of dusk is 0 to 4; it is in force -/
def RO (cI : ClassId) (L : List Nat) (f : Nat → va_E) (r : Nat) : Prop := r ∈ L ∧ ∃ (g : Nat → Int32) (a1 : Nat), f r = .inl (cI, 13, .inl g) ∧ g 1 = nI a1 ∧ a1 ≤ 4 ∧ g 4 = 1
set_option maxHeartbeats 4000000 in
set_option maxRecDepth 100000 in
theorem c_X1_isAt (l : Launch) (G : va_G) (cI cZ cR : ClassId) (hs ao ap au : Nat) (day half : Int32) (Q O P : Nat) (ro : Nat → Nat) (L : List Nat) (f : Nat → va_E) (sz K o dd hh : Nat) (ho : o < 10) (hr0 : RO cI L f (ro o)) (hd : dd < 2 ^ 31) (hh48 : hh < 48) :
    Met l yX1_isAt wsX1_isAt ({ frames := 1, cells := 2, slots := 40, locals := 22 } : Room) (va_Pc [.ref hs, .int (nI o), .int (nI dd), .int (nI hh)] (oPre G (ty3 cI cZ cR) [] ([SM hs ao ap au day half Q O P, OA cR ao ro] ++ va_pl L f) sz K)) (va_Qi (fun (r : Int32) (_ : Unit) => r = 0 ∨ r = 1) (fun _ => oB G (ty3 cI cZ cR) [] (va_A [] sz) (K + o_dl hh)) (va_A [] sz)) 2 40 (va_A [] sz) := by
  refine o_met (cc := cX1_isAt) (maxL := 4) (ret := (some .boolean)) (by decide) rfl (Nat.le_of_ble_eq_true rfl) ?_
  intro pg e s m below meth cd hx hb hml hr hts hown hlocks hnm hK hM hP hro hsz _ hD hA hS ls hl
  have hown : s.vm.findClass RX1 = some m.cls := hown
  have hin : ∀ w ∈ wsX10, w ∈ wsX1_isAt := by decide +kernel
  have hl : lv_has ls 4 [(0, .ref hs), (1, .int (nI o)), (2, .int (nI dd)), (3, .int (nI hh))] := hl
  generalize hAe : va_A [] sz = A at hD hA hS ⊢
  obtain ⟨hmem, g, a1, hf, hg1, ha1, hg4⟩ := hr0
  obtain ⟨k9, hk9⟩ := va_pl_get (X := [SM hs ao ap au day half Q O P, OA cR ao ro]) (f := f) hmem
  rw [hf] at hk9
  refine lv_iload_n hx hb dX1_isAt_0 rfl (lv_at hl 3 rfl) ?_
  refine lv_aload_n hx hb dX1_isAt_1 rfl (lv_at hl 0 rfl) ?_
  refine va_get (ci := 1) (v := .ref ao) (C := RX1) (T := TX1) (N := 9) hx hb hts hin hown hK hP 0 rfl rfl 6 (by decide) (hts (.fieldLink RX1 9 "CurfewDeskLaw$Sim" "order" "[[I") (by decide +kernel)) (fun _ h9 => h9) rfl dX1_isAt_2 ?_
  refine lv_iload_n hx hb dX1_isAt_5 rfl (lv_at hl 1 rfl) ?_
  refine o_ald (q0 := 1) (t0 := 2) (r := ro o) hx hb hK hP rfl rfl ho (by decide) (if_pos ho) dX1_isAt_6 ?_
  refine lv_iconst (v := 1) hx hb dX1_isAt_7 (by decide) ?_
  refine w_iald (j := 1) hx hb hK hP k9 0 hk9 rfl (by omega) (by omega) dX1_isAt_8 ?_
  rw [hg1]
  refine lv_iadd hx hb dX1_isAt_9 ?_
  rw [nI_add]
  refine lv_bipush (v := 34) hx hb dX1_isAt_10 (by decide) ?_
  refine lv_iload_n hx hb dX1_isAt_12 rfl (lv_at hl 2 rfl) ?_
  refine o_in (va_runS (As := [.int (nI dd)]) (rest := [.int 34, .int (nI (hh + a1))]) ⟨hx, hb, hml, hown, hts⟩ (c_X1_tide l G cI s.heap.size K dd hd) (va_cwS 1 hts gX1_isAt_X1_tide rfl rfl rfl (by decide +kernel) ⟨(Nat.le_of_ble_eq_true rfl), (Nat.le_of_ble_eq_true rfl)⟩) ⟨oPre_blind, o_pre hM (hK.sub [0] rfl) w_P0 w_P0 (w_D0 (A := A)) o_x0⟩ rfl rfl hl.1 rfl (lv_room (Nat.le_of_ble_eq_true rfl)) dX1_isAt_13 ⟨(Nat.le_of_ble_eq_true rfl), (Nat.le_of_ble_eq_true rfl)⟩) hP hS hA (fun r13 u13 H locs hw13 hP hS hM => ?_)
  obtain ⟨t1, ht1, rfl⟩ := hw13
  refine lv_iadd hx hb dX1_isAt_16 ?_
  rw [show (34 : Int32) + nI t1 = nI (34 + t1) from nI_add 34 t1]
  refine lv_aload_n hx hb dX1_isAt_17 rfl (lv_at hl 0 rfl) ?_
  refine va_get (ci := 1) (v := .int 0) (C := RX1) (T := TX1) (N := 9) hx hb hts hin hown hK hP 0 rfl rfl 2 (by decide) (hts (.fieldLink RX1 25 "CurfewDeskLaw$Sim" "shift" "I") (by decide +kernel)) (fun _ h9 => h9) rfl dX1_isAt_18 ?_
  refine lv_iadd hx hb dX1_isAt_21 ?_
  rw [Int32.add_zero]
  refine lv_icmp_ge (tgt := 45) hx hb dX1_isAt_22 (by decide) (fun c22 => ?_) (fun c22 => ?_)
  · have h22 : 34 + t1 ≤ hh + a1 := (nI_leI (by omega) (by omega)).mp c22
    have hM : K + o_dl hh ≤ slotSum H := by
      have : o_dl hh = 20 := if_neg (by omega)
      omega
    refine lv_iconst (v := 1) hx hb dX1_isAt_45 (by decide) ?_
    refine lv_goto (tgt := 50) hx hb dX1_isAt_46 (by decide) ?_
    exact o_zret (w1 := fun _ => []) () hx hb hr hlocks hK hM w_P0 w_D0 hS (Nat.le_of_ble_eq_true rfl) (Nat.le_of_ble_eq_true rfl) dX1_isAt_50 rfl (Or.inr rfl)
  · refine lv_iload_n hx hb dX1_isAt_25 rfl (lv_at hl 3 rfl) ?_
    refine lv_aload_n hx hb dX1_isAt_26 rfl (lv_at hl 0 rfl) ?_
    refine va_get (ci := 1) (v := .ref ao) (C := RX1) (T := TX1) (N := 9) hx hb hts hin hown hK hP 0 rfl rfl 6 (by decide) (hts (.fieldLink RX1 9 "CurfewDeskLaw$Sim" "order" "[[I") (by decide +kernel)) (fun _ h9 => h9) rfl dX1_isAt_27 ?_
    refine lv_iload_n hx hb dX1_isAt_30 rfl (lv_at hl 1 rfl) ?_
    refine o_ald (q0 := 1) (t0 := 2) (r := ro o) hx hb hK hP rfl rfl ho (by decide) (if_pos ho) dX1_isAt_31 ?_
    refine lv_iconst (v := 2) hx hb dX1_isAt_32 (by decide) ?_
    refine w_iald (j := 2) hx hb hK hP k9 0 hk9 rfl (by omega) (by omega) dX1_isAt_33 ?_
    refine lv_isub hx hb dX1_isAt_34 ?_
    refine lv_bipush (v := 14) hx hb dX1_isAt_35 (by decide) ?_
    refine lv_iload_n hx hb dX1_isAt_37 rfl (lv_at hl 2 rfl) ?_
    refine o_in (va_runS (As := [.int (nI dd)]) (rest := [.int 14, .int (nI hh - g 2)]) ⟨hx, hb, hml, hown, hts⟩ (c_X1_tide l G cI H.size (K + 20) dd hd) (va_cwS 1 hts gX1_isAt_X1_tide rfl rfl rfl (by decide +kernel) ⟨(Nat.le_of_ble_eq_true rfl), (Nat.le_of_ble_eq_true rfl)⟩) ⟨oPre_blind, o_pre hM (hK.sub [0] rfl) w_P0 w_P0 (w_D0 (A := A)) o_x0⟩ rfl rfl hl.1 rfl (lv_room (Nat.le_of_ble_eq_true rfl)) dX1_isAt_38 ⟨(Nat.le_of_ble_eq_true rfl), (Nat.le_of_ble_eq_true rfl)⟩) hP hS hA (fun r38 u38 H locs hw38 hP hS hM => ?_)
    have hM : K + o_dl hh ≤ slotSum H := by
      have : o_dl hh ≤ 40 := by unfold o_dl; split <;> omega
      omega
    refine lv_isub hx hb dX1_isAt_41 ?_
    refine lv_icmp_ge (tgt := 49) hx hb dX1_isAt_42 (by decide) (fun c42 => ?_) (fun c42 => ?_)
    · refine lv_iconst (v := 0) hx hb dX1_isAt_49 (by decide) ?_
      exact o_zret (w1 := fun _ => []) () hx hb hr hlocks hK hM w_P0 w_D0 hS (Nat.le_of_ble_eq_true rfl) (Nat.le_of_ble_eq_true rfl) dX1_isAt_50 rfl (Or.inl rfl)
    · refine lv_iconst (v := 1) hx hb dX1_isAt_45 (by decide) ?_
      refine lv_goto (tgt := 50) hx hb dX1_isAt_46 (by decide) ?_
      exact o_zret (w1 := fun _ => []) () hx hb hr hlocks hK hM w_P0 w_D0 hS (Nat.le_of_ble_eq_true rfl) (Nat.le_of_ble_eq_true rfl) dX1_isAt_50 rfl (Or.inr rfl)
set_option maxHeartbeats 4000000 in
set_option maxRecDepth 100000 in
theorem c_X1_isOn (l : Launch) (G : va_G) (cI cZ cR : ClassId) (hs ao ap au T Q O P : Nat) (ro : Nat → Nat) (L : List Nat) (f : Nat → va_E) (sz K o : Nat) (ho : o < 10) (hr0 : RO cI L f (ro o)) (hT : T < 2 ^ 31) :
    Met l yX1_isOn wsX1_isOn ({ frames := 2, cells := 2, slots := 40, locals := 45 } : Room) (va_Pc [.ref hs, .int (nI o)] (oPre G (ty3 cI cZ cR) [] ([SM hs ao ap au (nI (T / 48)) (nI (T % 48)) Q O P, OA cR ao ro] ++ va_pl L f) sz K)) (va_Qi (fun (r : Int32) (_ : Unit) => r = 0 ∨ r = 1) (fun _ => oB G (ty3 cI cZ cR) [] (va_A [] sz) (K + o_dl (T % 48))) (va_A [] sz)) 2 40 (va_A [] sz) := by
  refine o_met (cc := cX1_isOn) (maxL := 2) (ret := (some .boolean)) (by decide) rfl (Nat.le_of_ble_eq_true rfl) ?_
  intro pg e s m below meth cd hx hb hml hr hts hown hlocks hnm hK hM hP hro hsz _ hD hA hS ls hl
  have hown : s.vm.findClass RX1 = some m.cls := hown
  have hin : ∀ w ∈ wsX10, w ∈ wsX1_isOn := by decide +kernel
  have hl : lv_has ls 2 [(0, .ref hs), (1, .int (nI o))] := hl
  generalize hAe : va_A [] sz = A at hD hA hS ⊢
  have hr1 := hr0
  obtain ⟨hmem, g, a1, hf, hg1, ha1, hg4⟩ := hr0
  obtain ⟨k9, hk9⟩ := va_pl_get (X := [SM hs ao ap au (nI (T / 48)) (nI (T % 48)) Q O P, OA cR ao ro]) (f := f) hmem
  rw [hf] at hk9
  have hdd : T / 48 < 2 ^ 31 := Nat.lt_of_le_of_lt (Nat.div_le_self _ _) hT
  have hhh : T % 48 < 48 := Nat.mod_lt _ (by decide)
  refine lv_aload_n hx hb dX1_isOn_0 rfl (lv_at hl 0 rfl) ?_
  refine va_get (ci := 1) (v := .ref ao) (C := RX1) (T := TX1) (N := 9) hx hb hts hin hown hK hP 0 rfl rfl 6 (by decide) (hts (.fieldLink RX1 9 "CurfewDeskLaw$Sim" "order" "[[I") (by decide +kernel)) (fun _ h9 => h9) rfl dX1_isOn_1 ?_
  refine lv_iload_n hx hb dX1_isOn_4 rfl (lv_at hl 1 rfl) ?_
  refine o_ald (q0 := 1) (t0 := 2) (r := ro o) hx hb hK hP rfl rfl ho (by decide) (if_pos ho) dX1_isOn_5 ?_
  refine lv_iconst (v := 4) hx hb dX1_isOn_6 (by decide) ?_
  refine w_iald (j := 4) hx hb hK hP k9 0 hk9 rfl (by omega) (by omega) dX1_isOn_7 ?_
  rw [hg4]
  refine lv_iconst (v := 1) hx hb dX1_isOn_8 (by decide) ?_
  refine lv_icmp_ne (tgt := 32) hx hb dX1_isOn_9 (by decide) (fun c9 => absurd rfl c9) (fun c9 => ?_)
  refine lv_aload_n hx hb dX1_isOn_12 rfl (lv_at hl 0 rfl) ?_
  refine lv_iload_n hx hb dX1_isOn_13 rfl (lv_at hl 1 rfl) ?_
  refine lv_aload_n hx hb dX1_isOn_14 rfl (lv_at hl 0 rfl) ?_
  refine va_get (ci := 1) (v := .int (nI (T / 48))) (C := RX1) (T := TX1) (N := 9) hx hb hts hin hown hK hP 0 rfl rfl 0 (by decide) (hts (.fieldLink RX1 29 "CurfewDeskLaw$Sim" "day" "I") (by decide +kernel)) (fun _ h9 => h9) rfl dX1_isOn_15 ?_
  refine lv_aload_n hx hb dX1_isOn_18 rfl (lv_at hl 0 rfl) ?_
  refine va_get (ci := 1) (v := .int (nI (T % 48))) (C := RX1) (T := TX1) (N := 9) hx hb hts hin hown hK hP 0 rfl rfl 1 (by decide) (hts (.fieldLink RX1 32 "CurfewDeskLaw$Sim" "half" "I") (by decide +kernel)) (fun _ h9 => h9) rfl dX1_isOn_19 ?_
  refine o_in (va_runV (As := [.int (nI o), .int (nI (T / 48)), .int (nI (T % 48))]) (rest := []) ⟨hx, hb, hml, hown, hts⟩ (c_X1_isAt l G cI cZ cR hs ao ap au (nI (T / 48)) (nI (T % 48)) Q O P ro L f s.heap.size K o (T / 48) (T % 48) ho hr1 hdd hhh) (cwV 3 hts gX1_isOn_X1_isAt rfl rfl rfl (by decide +kernel) ⟨(Nat.le_of_ble_eq_true rfl), (Nat.le_of_ble_eq_true rfl)⟩) ⟨oPre_blind, va_recv hK hP (ci := 1) (q0 := 0) rfl rfl, o_pre hM hK w_P0 hP (w_D0 (A := A)) o_x0⟩ rfl rfl hl.1 rfl (lv_room (Nat.le_of_ble_eq_true rfl)) dX1_isOn_22 ⟨(Nat.le_of_ble_eq_true rfl), (Nat.le_of_ble_eq_true rfl)⟩) hP hS hA (fun r22 u22 H locs hw22 hP hS hM => ?_)
  refine lv_if_eq (tgt := 32) hx hb dX1_isOn_25 (by decide) (fun c25 => ?_) (fun c25 => ?_)
  · refine lv_iconst (v := 0) hx hb dX1_isOn_32 (by decide) ?_
    exact o_zret (w1 := fun _ => []) () hx hb hr hlocks hK hM w_P0 w_D0 hS (Nat.le_of_ble_eq_true rfl) (Nat.le_of_ble_eq_true rfl) dX1_isOn_33 rfl (Or.inl rfl)
  · refine lv_iconst (v := 1) hx hb dX1_isOn_28 (by decide) ?_
    refine lv_goto (tgt := 33) hx hb dX1_isOn_29 (by decide) ?_
    exact o_zret (w1 := fun _ => []) () hx hb hr hlocks hK hM w_P0 w_D0 hS (Nat.le_of_ble_eq_true rfl) (Nat.le_of_ble_eq_true rfl) dX1_isOn_33 rfl (Or.inr rfl)
end SIM
end
section
section PAS
/-- what a half hour of the sim weighs at least, with O orders in force -/
def o_pc (O T : Nat) : Nat := O + O * o_dl (T % 48) + O * o_dl ((T + 1) % 48)
theorem o_dl40 (hh : Nat) : o_dl hh ≤ 40 := by unfold o_dl; split <;> omega
set_option maxHeartbeats 4000000 in
set_option maxRecDepth 100000 in
theorem c_X1_pass (l : Launch) (G : va_G) (cI cZ cR : ClassId) (hs ao ap au T Q O P : Nat) (ro : Nat → Nat) (L : List Nat) (f : Nat → va_E) (sz K : Nat) (hO : O ≤ 10) (hro2 : ∀ i, i < O → RO cI L f (ro i)) (hT : T + 1 < 2 ^ 31) :
    Met l yX1_pass wsX1_pass ({ frames := 3, cells := 41, slots := 810, locals := 66 } : Room) (va_Pc [.ref hs] (oPre G (ty3 cI cZ cR) [SM hs ao ap au (nI (T / 48)) (nI (T % 48)) Q O P] ([OA cR ao ro] ++ va_pl L f) sz K)) (va_Qi (fun (r : Int32) (_ : Unit) => True) (fun _ => oB G (ty3 cI cZ cR) [SM hs ao ap au (nI ((T + 1) / 48)) (nI ((T + 1) % 48)) Q O P] (va_A [SM hs ao ap au (nI (T / 48)) (nI (T % 48)) Q O P] sz) (K + o_pc O T)) (va_A [SM hs ao ap au (nI (T / 48)) (nI (T % 48)) Q O P] sz)) 41 810 (va_A [SM hs ao ap au (nI (T / 48)) (nI (T % 48)) Q O P] sz) := by
  refine o_met (cc := cX1_pass) (maxL := 4) (ret := (some .int)) (by decide) rfl (Nat.le_of_ble_eq_true rfl) ?_
  intro pg e s m below meth cd hx hb hml hr hts hown hlocks hnm hK hM hR hro hsz hP hD hA hS ls hl
  have hown : s.vm.findClass RX1 = some m.cls := hown
  have hin : ∀ w ∈ wsX10, w ∈ wsX1_pass := by decide +kernel
  have hl : lv_has ls 4 [(0, .ref hs)] := hl
  generalize hAe : va_A [SM hs ao ap au (nI (T / 48)) (nI (T % 48)) Q O P] sz = A at hD hA hS hro ⊢
  refine lv_aload_n hx hb dX1_pass_0 rfl (lv_at hl 0 rfl) ?_
  refine va_get (ci := 1) (v := .int (nI O)) (C := RX1) (T := TX1) (N := 9) hx hb hts hin hown hK hP 0 rfl rfl 4 (by decide) (hts (.fieldLink RX1 43 "CurfewDeskLaw$Sim" "orders" "I") (by decide +kernel)) (fun _ h9 => h9) rfl dX1_pass_1 ?_
  refine o_newa (N := O) (a0 := (O, .inl (fun _ => 0))) (ty := .boolean) (atype := .boolean) hx hb (hts (.arrayClass .boolean) (by decide +kernel)) rfl (hK.2 1 (cZ, .boolean) rfl).2 hP hD hS hA hM rfl (nI_pos (by omega)) (nI_clamp (by omega)) (by show O * 1 ≤ _; omega) (Nat.le_of_ble_eq_true rfl) (by dsimp only; omega) dX1_pass_4 (fun q H hAr _ hP hD hS hM => ?_)
  refine lv_astore_n (lv' := [(1, .ref q), (0, .ref hs)]) hx hb dX1_pass_6 rfl hl (by decide) rfl (fun ls hl => ?_)
  have tail : ∀ (w : Nat → Int32) (H : Heap) (locs : List Loc) (cells slots : Nat), cells ≤ 1 + 2 * O → slots ≤ O + 40 * O → va_P G vwCl [SM hs ao ap au (nI ((T + 1) / 48)) (nI ((T + 1) % 48)) Q O P, (q, .inl (cZ, O, .inl w))] H → va_D A [SM hs ao ap au (nI ((T + 1) / 48)) (nI ((T + 1) % 48)) Q O P, (q, .inl (cZ, O, .inl w))] → va_S A s.heap H locs → K + O + O * o_dl (T % 48) ≤ slotSum H → ∀ ls : Array Slot, lv_has ls 4 [(1, .ref q), (0, .ref hs)] → W pg l e ({ frames := 3, cells := 41, slots := 810, locals := 66 } : Room) s m ([.ref hs] : List Value).toArray below meth cd H locs (cells) (slots) (MQ below (va_Qi (fun (r : Int32) (_ : Unit) => True) (fun _ => oB G (ty3 cI cZ cR) [SM hs ao ap au (nI ((T + 1) / 48)) (nI ((T + 1) % 48)) Q O P] A (K + o_pc O T)) A) ([.ref hs] : List Value).toArray s 41 810 A) (F0 m 65 ls []) := by
    intro w H locs cells slots hc9 hs9 hP hD hS hM ls hl
    have key : ∀ (n i : Nat), i ≤ O → O < i + n → ∀ (x : Int32) (H : Heap) (locs : List Loc), va_P G vwCl [SM hs ao ap au (nI ((T + 1) / 48)) (nI ((T + 1) % 48)) Q O P, (q, .inl (cZ, O, .inl w))] H → va_D A [SM hs ao ap au (nI ((T + 1) / 48)) (nI ((T + 1) % 48)) Q O P, (q, .inl (cZ, O, .inl w))] → va_S A s.heap H locs → K + O + O * o_dl (T % 48) + i * o_dl ((T + 1) % 48) ≤ slotSum H → ∀ ls : Array Slot, lv_has ls 4 [(3, .int (nI i)), (2, .int x), (1, .ref q), (0, .ref hs)] → W pg l e ({ frames := 3, cells := 41, slots := 810, locals := 66 } : Room) s m ([.ref hs] : List Value).toArray below meth cd H locs (cells + 2 * i) (slots + 40 * i) (MQ below (va_Qi (fun (r : Int32) (_ : Unit) => True) (fun _ => oB G (ty3 cI cZ cR) [SM hs ao ap au (nI ((T + 1) / 48)) (nI ((T + 1) % 48)) Q O P] A (K + o_pc O T)) A) ([.ref hs] : List Value).toArray s 41 810 A) (F0 m 69 ls []) := by
      intro n
      induction n with
      | zero => intro i h1 h2; exact absurd h2 (by omega)
      | succ n ih =>
        intro i hi hn x H locs hP hD hS hM ls hl
        refine lv_iload_n hx hb dX1_pass_69 rfl (lv_at hl 0 rfl) ?_
        refine lv_aload_n hx hb dX1_pass_70 rfl (lv_at hl 3 rfl) ?_
        refine va_get (ci := 1) (v := .int (nI O)) (C := RX1) (T := TX1) (N := 9) hx hb hts hin hown hK hP 0 rfl rfl 4 (by decide) (hts (.fieldLink RX1 43 "CurfewDeskLaw$Sim" "orders" "I") (by decide +kernel)) (fun _ h9 => h9) rfl dX1_pass_71 ?_
        refine lv_icmp_ge (tgt := 105) hx hb dX1_pass_74 (by decide) (fun c74 => ?_) (fun c74 => ?_)
        · have h9 : O ≤ i := (nI_leI (by omega) (by omega)).mp c74
          have ei : O = i := by omega
          subst ei
          refine lv_iload_n hx hb dX1_pass_105 rfl (lv_at hl 1 rfl) ?_
          exact o_iret (w1 := fun _ => [SM hs ao ap au (nI ((T + 1) / 48)) (nI ((T + 1) % 48)) Q O P]) () hx hb hr hlocks hK (by unfold o_pc; omega) (hP.sub [0] rfl) (hD.sub [0] (by decide) rfl) hS (by omega) (by omega) dX1_pass_106 trivial
        · have h9 : i < O := o_ge c74 (by omega) (by omega)
          refine lv_iload_n hx hb dX1_pass_77 rfl (lv_at hl 1 rfl) ?_
          refine lv_aload_n hx hb dX1_pass_78 rfl (lv_at hl 3 rfl) ?_
          refine lv_iload_n hx hb dX1_pass_79 rfl (lv_at hl 0 rfl) ?_
          have hW : va_P G vwCl ([SM hs ao ap au (nI ((T + 1) / 48)) (nI ((T + 1) % 48)) Q O P, OA cR ao ro] ++ va_pl L f) H := (hP.sub [0] rfl).app (o_keep hR hro hS)
          refine o_in (va_runV (As := [.int (nI i)]) (rest := [.int x]) ⟨hx, hb, hml, hown, hts⟩ (c_X1_isOn l G cI cZ cR hs ao ap au ((T + 1)) Q O P ro L f H.size (K + O + O * o_dl (T % 48) + i * o_dl ((T + 1) % 48)) i (by omega) (hro2 i (by omega)) (by omega)) (cwV 1 hts gX1_pass_X1_isOn rfl rfl rfl (by decide +kernel) ⟨(Nat.le_of_ble_eq_true rfl), (Nat.le_of_ble_eq_true rfl)⟩) ⟨oPre_blind, va_recv hK hW (ci := 1) (q0 := 0) rfl rfl, o_pre hM hK w_P0 hW (w_D0 (A := A)) o_x0⟩ rfl rfl hl.1 rfl (lv_room (Nat.le_of_ble_eq_true rfl)) dX1_pass_80 ⟨by dsimp only; omega, by dsimp only; omega⟩) hP hS hA (fun r80 u80 H locs hw80 hP hS hM => ?_)
          have j97 : ∀ v : Int32, W pg l e ({ frames := 3, cells := 41, slots := 810, locals := 66 } : Room) s m ([.ref hs] : List Value).toArray below meth cd H locs (cells + 2 * i + 2) (slots + 40 * i + 40) (MQ below (va_Qi (fun (r : Int32) (_ : Unit) => True) (fun _ => oB G (ty3 cI cZ cR) [SM hs ao ap au (nI ((T + 1) / 48)) (nI ((T + 1) % 48)) Q O P] A (K + o_pc O T)) A) ([.ref hs] : List Value).toArray s 41 810 A) (F0 m 97 ls [.int v, .int x]) := by
            intro v
            refine lv_iadd hx hb dX1_pass_97 ?_
            refine lv_istore_n (lv' := [(2, .int (x + v)), (3, .int (nI i)), (1, .ref q), (0, .ref hs)]) hx hb dX1_pass_98 rfl hl (by decide) rfl (fun ls hl => ?_)
            refine lv_iinc (v := nI i + 1) (lv' := [(3, .int (nI i + 1)), (2, .int (x + v)), (1, .ref q), (0, .ref hs)]) hx hb dX1_pass_99 hl (k := 1) rfl rfl (by decide) rfl (fun ls hl => ?_)
            refine lv_goto (tgt := 69) hx hb dX1_pass_102 (by decide) ?_
            rw [nI_1] at hl
            exact W.widen (by omega) (by omega) (ih (i + 1) (by omega) (by omega) (x + v) H locs hP hD hS (by rw [Nat.succ_mul]; omega) ls hl)
          refine lv_if_eq (tgt := 96) hx hb dX1_pass_83 (by decide) (fun c83 => ?_) (fun c83 => ?_)
          · refine lv_iconst (v := 0) hx hb dX1_pass_96 (by decide) ?_
            exact j97 0
          · refine lv_aload_n hx hb dX1_pass_86 rfl (lv_at hl 2 rfl) ?_
            refine lv_iload_n hx hb dX1_pass_87 rfl (lv_at hl 0 rfl) ?_
            refine w_zald (f := w) (j := i) hx hb hK hP 1 1 rfl rfl h9 (by omega) dX1_pass_88 ?_
            refine lv_if_ne (tgt := 96) hx hb dX1_pass_89 (by decide) (fun c89 => ?_) (fun c89 => ?_)
            · refine lv_iconst (v := 0) hx hb dX1_pass_96 (by decide) ?_
              exact j97 0
            · refine lv_iconst (v := 1) hx hb dX1_pass_92 (by decide) ?_
              refine lv_goto (tgt := 97) hx hb dX1_pass_93 (by decide) ?_
              exact j97 1
    refine lv_iconst (v := 0) hx hb dX1_pass_65 (by decide) ?_
    refine lv_istore_n (lv' := [(2, .int 0), (1, .ref q), (0, .ref hs)]) hx hb dX1_pass_66 rfl hl (by decide) rfl (fun ls hl => ?_)
    refine lv_iconst (v := 0) hx hb dX1_pass_67 (by decide) ?_
    refine lv_istore_n (lv' := [(3, .int 0), (2, .int 0), (1, .ref q), (0, .ref hs)]) hx hb dX1_pass_68 rfl hl (by decide) rfl (fun ls hl => ?_)
    exact W.widen (by omega) (by omega) (key (O + 1) 0 (by omega) (by omega) 0 H locs hP hD hS (by omega) ls hl)
  have key : ∀ (n i : Nat), i ≤ O → O < i + n → ∀ (w : Nat → Int32) (H : Heap) (locs : List Loc), va_P G vwCl [SM hs ao ap au (nI (T / 48)) (nI (T % 48)) Q O P, (q, .inl (cZ, O, .inl w))] H → va_D A [SM hs ao ap au (nI (T / 48)) (nI (T % 48)) Q O P, (q, .inl (cZ, O, .inl w))] → va_S A s.heap H locs → K + O + i * o_dl (T % 48) ≤ slotSum H → ∀ ls : Array Slot, lv_has ls 4 [(2, .int (nI i)), (1, .ref q), (0, .ref hs)] → W pg l e ({ frames := 3, cells := 41, slots := 810, locals := 66 } : Room) s m ([.ref hs] : List Value).toArray below meth cd H locs (1 + 2 * i) (O + 40 * i) (MQ below (va_Qi (fun (r : Int32) (_ : Unit) => True) (fun _ => oB G (ty3 cI cZ cR) [SM hs ao ap au (nI ((T + 1) / 48)) (nI ((T + 1) % 48)) Q O P] A (K + o_pc O T)) A) ([.ref hs] : List Value).toArray s 41 810 A) (F0 m 9 ls []) := by
    intro n
    induction n with
    | zero => intro i h1 h2; exact absurd h2 (by omega)
    | succ n ih =>
      intro i hi hn w H locs hP hD hS hM ls hl
      refine lv_iload_n hx hb dX1_pass_9 rfl (lv_at hl 0 rfl) ?_
      refine lv_aload_n hx hb dX1_pass_10 rfl (lv_at hl 2 rfl) ?_
      refine va_get (ci := 1) (v := .int (nI O)) (C := RX1) (T := TX1) (N := 9) hx hb hts hin hown hK hP 0 rfl rfl 4 (by decide) (hts (.fieldLink RX1 43 "CurfewDeskLaw$Sim" "orders" "I") (by decide +kernel)) (fun _ h9 => h9) rfl dX1_pass_11 ?_
      refine lv_icmp_ge (tgt := 31) hx hb dX1_pass_14 (by decide) (fun c14 => ?_) (fun c14 => ?_)
      · have h9 : O ≤ i := (nI_leI (by omega) (by omega)).mp c14
        have ei : i = O := by omega
        rw [ei] at hM
        have hl := lv_sub hl (l' := [(1, .ref q), (0, .ref hs)]) [1, 2] rfl
        refine lv_aload_n hx hb dX1_pass_31 rfl (lv_at hl 1 rfl) ?_
        refine lv_dup hx hb dX1_pass_32 rfl ?_
        refine va_get (ci := 1) (v := .int (nI (T % 48))) (C := RX1) (T := TX1) (N := 9) hx hb hts hin hown hK hP 0 rfl rfl 1 (by decide) (hts (.fieldLink RX1 32 "CurfewDeskLaw$Sim" "half" "I") (by decide +kernel)) (fun _ h9 => h9) rfl dX1_pass_33 ?_
        refine lv_iconst (v := 1) hx hb dX1_pass_36 (by decide) ?_
        refine lv_iadd hx hb dX1_pass_37 ?_
        rw [nI_1]
        refine W_up hM (va_put (ci := 1) (v := .int (nI (T % 48 + 1))) (ty := .int) (C := RX1) (T := TX1) (N := 9) hx hb hts hin tyX1 tyX1_ok nmX1 hown hK hP hD hS 0 rfl rfl 1 (by decide) (hts (.fieldLink RX1 32 "CurfewDeskLaw$Sim" "half" "I") (by decide +kernel)) (fun _ h9 => h9) rfl (by decide +kernel) rfl rfl (Nat.le_of_ble_eq_true rfl) dX1_pass_38 (fun H locs hP hD hS => W_dn (fun hM => ?_)))
        have hP : va_P G vwCl [SM hs ao ap au (nI (T / 48)) (nI (T % 48 + 1)) Q O P, (q, .inl (cZ, O, .inl w))] H := hP
        have hD : va_D A [SM hs ao ap au (nI (T / 48)) (nI (T % 48 + 1)) Q O P, (q, .inl (cZ, O, .inl w))] := hD
        refine lv_aload_n hx hb dX1_pass_41 rfl (lv_at hl 1 rfl) ?_
        refine va_get (ci := 1) (v := .int (nI (T % 48 + 1))) (C := RX1) (T := TX1) (N := 9) hx hb hts hin hown hK hP 0 rfl rfl 1 (by decide) (hts (.fieldLink RX1 32 "CurfewDeskLaw$Sim" "half" "I") (by decide +kernel)) (fun _ h9 => h9) rfl dX1_pass_42 ?_
        refine lv_bipush (v := 48) hx hb dX1_pass_45 (by decide) ?_
        have hm48 : T % 48 < 48 := Nat.mod_lt _ (by decide)
        refine lv_icmp_ne (tgt := 65) hx hb dX1_pass_47 (by decide) (fun c47 => ?_) (fun c47 => ?_)
        · have h48 : T % 48 + 1 ≠ 48 := fun h => c47 (by rw [h]; rfl)
          have e1 : (T + 1) % 48 = T % 48 + 1 := by omega
          have e2 : (T + 1) / 48 = T / 48 := by omega
          refine tail w H locs _ _ (by omega) (by omega) (by rw [e1, e2]; exact hP) (by rw [e1, e2]; exact hD) hS hM ls hl
        · have h48 : T % 48 + 1 = 48 := (nI_eq (a := T % 48 + 1) (b := 48) (by omega) (by omega)).mp (Classical.byContradiction fun h => h c47)
          have e1 : (T + 1) % 48 = 0 := by omega
          have e2 : (T + 1) / 48 = T / 48 + 1 := by omega
          refine lv_aload_n hx hb dX1_pass_50 rfl (lv_at hl 1 rfl) ?_
          refine lv_iconst (v := 0) hx hb dX1_pass_51 (by decide) ?_
          refine W_up hM (va_put (ci := 1) (v := .int 0) (ty := .int) (C := RX1) (T := TX1) (N := 9) hx hb hts hin tyX1 tyX1_ok nmX1 hown hK hP hD hS 0 rfl rfl 1 (by decide) (hts (.fieldLink RX1 32 "CurfewDeskLaw$Sim" "half" "I") (by decide +kernel)) (fun _ h9 => h9) rfl (by decide +kernel) rfl rfl (Nat.le_of_ble_eq_true rfl) dX1_pass_52 (fun H locs hP hD hS => W_dn (fun hM => ?_)))
          have hP : va_P G vwCl [SM hs ao ap au (nI (T / 48)) (0) Q O P, (q, .inl (cZ, O, .inl w))] H := hP
          have hD : va_D A [SM hs ao ap au (nI (T / 48)) (0) Q O P, (q, .inl (cZ, O, .inl w))] := hD
          refine lv_aload_n hx hb dX1_pass_55 rfl (lv_at hl 1 rfl) ?_
          refine lv_dup hx hb dX1_pass_56 rfl ?_
          refine va_get (ci := 1) (v := .int (nI (T / 48))) (C := RX1) (T := TX1) (N := 9) hx hb hts hin hown hK hP 0 rfl rfl 0 (by decide) (hts (.fieldLink RX1 29 "CurfewDeskLaw$Sim" "day" "I") (by decide +kernel)) (fun _ h9 => h9) rfl dX1_pass_57 ?_
          refine lv_iconst (v := 1) hx hb dX1_pass_60 (by decide) ?_
          refine lv_iadd hx hb dX1_pass_61 ?_
          rw [nI_1]
          refine W_up hM (va_put (ci := 1) (v := .int (nI (T / 48 + 1))) (ty := .int) (C := RX1) (T := TX1) (N := 9) hx hb hts hin tyX1 tyX1_ok nmX1 hown hK hP hD hS 0 rfl rfl 0 (by decide) (hts (.fieldLink RX1 29 "CurfewDeskLaw$Sim" "day" "I") (by decide +kernel)) (fun _ h9 => h9) rfl (by decide +kernel) rfl rfl (Nat.le_of_ble_eq_true rfl) dX1_pass_62 (fun H locs hP hD hS => W_dn (fun hM => ?_)))
          have hP : va_P G vwCl [SM hs ao ap au (nI (T / 48 + 1)) (0) Q O P, (q, .inl (cZ, O, .inl w))] H := hP
          have hD : va_D A [SM hs ao ap au (nI (T / 48 + 1)) (0) Q O P, (q, .inl (cZ, O, .inl w))] := hD
          refine tail w H locs _ _ (by omega) (by omega) (by rw [e1, e2]; exact hP) (by rw [e1, e2]; exact hD) hS hM ls hl
      · have h9 : i < O := o_ge c14 (by omega) (by omega)
        refine lv_aload_n hx hb dX1_pass_17 rfl (lv_at hl 1 rfl) ?_
        refine lv_iload_n hx hb dX1_pass_18 rfl (lv_at hl 0 rfl) ?_
        refine lv_aload_n hx hb dX1_pass_19 rfl (lv_at hl 2 rfl) ?_
        refine lv_iload_n hx hb dX1_pass_20 rfl (lv_at hl 0 rfl) ?_
        have hW : va_P G vwCl ([SM hs ao ap au (nI (T / 48)) (nI (T % 48)) Q O P, OA cR ao ro] ++ va_pl L f) H := (hP.sub [0] rfl).app (o_keep hR hro hS)
        refine o_in (va_runV (As := [.int (nI i)]) (rest := [.int (nI i), .ref q]) ⟨hx, hb, hml, hown, hts⟩ (c_X1_isOn l G cI cZ cR hs ao ap au T Q O P ro L f H.size (K + O + i * o_dl (T % 48)) i (by omega) (hro2 i (by omega)) (by omega)) (cwV 1 hts gX1_pass_X1_isOn rfl rfl rfl (by decide +kernel) ⟨(Nat.le_of_ble_eq_true rfl), (Nat.le_of_ble_eq_true rfl)⟩) ⟨oPre_blind, va_recv hK hW (ci := 1) (q0 := 0) rfl rfl, o_pre hM hK w_P0 hW (w_D0 (A := A)) o_x0⟩ rfl rfl hl.1 rfl (lv_room (Nat.le_of_ble_eq_true rfl)) dX1_pass_21 ⟨by dsimp only; omega, by dsimp only; omega⟩) hP hS hA (fun r21 u21 H locs hw21 hP hS hM => ?_)
        refine W_up hM (va_zast hx hb hK hP hD hS 1 1 rfl rfl (vp_in_nI h9 (by omega)) dX1_pass_24 (fun H locs hP hD hS => W_dn (fun hM => ?_)))
        refine lv_iinc (v := nI i + 1) (lv' := [(2, .int (nI i + 1)), (1, .ref q), (0, .ref hs)]) hx hb dX1_pass_25 hl (k := 0) rfl rfl (by decide) rfl (fun ls hl => ?_)
        refine lv_goto (tgt := 9) hx hb dX1_pass_28 (by decide) ?_
        rw [nI_1] at hl
        exact W.widen (by omega) (by omega) (ih (i + 1) (by omega) (by omega) _ H locs hP hD hS (by rw [Nat.succ_mul]; omega) ls hl)
  refine lv_iconst (v := 0) hx hb dX1_pass_7 (by decide) ?_
  refine lv_istore_n (lv' := [(2, .int 0), (1, .ref q), (0, .ref hs)]) hx hb dX1_pass_8 rfl hl (by decide) rfl (fun ls hl => ?_)
  exact W.widen (by omega) (by omega) (key (O + 1) 0 (by omega) (by omega) (fun _ => 0) H [] hP hD hS (by omega) ls hl)
end PAS
end
section
section SIN
theorem va_AOA.moved {t : FieldType} {u U : State} (hvm : u.vm.Alike U.vm) (h : va_AOA t u) : va_AOA t U := over_moved hvm h
theorem o_preP {D : va_G} {cl : List vw_C} {a b : va_W} {H : Heap} (h : va_P D cl (a ++ b) H) : va_P D cl a H := fun k q hk => h k q (by rw [List.getElem?_append_left (List.getElem?_eq_some_iff.mp hk).1]; exact hk)
theorem o_preD {A : Nat → Prop} {a b : va_W} (h : va_D A (a ++ b)) : va_D A a := by
  have e : ∀ (k : Nat) (q : Nat × va_E), a[k]? = some q → (a ++ b)[k]? = some q := fun k q hk => by rw [List.getElem?_append_left (List.getElem?_eq_some_iff.mp hk).1]; exact hk
  exact ⟨fun i j p q hi hj hpq => h.1 i j p q (e i p hi) (e j q hj) hpq, fun k q hk => h.2 k q (e k q hk)⟩
theorem o_inner (c : ClassId) (N : Nat) : Jvm.Free.Multi.innerC c N (.int 0) = vp_cell c (N, .inl (fun _ => 0)) := by
  show ({ cls := c, slots := Array.replicate N (.int 0), vm := .none } : Cell) = arrV c N (fun _ => .int 0)
  rw [arrV_new]
/-- a fresh sim's rows -/
def SIok (cI : ClassId) (ro rp : Nat → Nat) (L : List Nat) (f : Nat → va_E) : Prop :=
  (∀ i, i < 10 → ro i ∈ L ∧ ∃ g, f (ro i) = .inl (cI, 13, .inl g)) ∧ (∀ i, i < 20 → rp i ∈ L ∧ ∃ g, f (rp i) = .inl (cI, 7, .inl g)) ∧ (∀ i j, i < 10 → j < 10 → ro i = ro j → i = j) ∧ (∀ i j, i < 10 → j < 20 → ro i ≠ rp j)
abbrev SI9 : Type := (ClassId × Nat × Nat × Nat) × ((Nat → Nat) × (Nat → Nat) × List Nat × (Nat → va_E))
abbrev siW (hs : Nat) (day half : Int32) (Q O P : Nat) (u : SI9) : va_W := [SM hs u.1.2.1 u.1.2.2.1 u.1.2.2.2 day half Q O P, OA u.1.1 u.1.2.1 u.2.1, PA u.1.1 u.1.2.2.1 u.2.2.1] ++ va_pl u.2.2.2.1 u.2.2.2.2
abbrev siZ (hs : Nat) : va_W := [(hs, .inr (1, [.int 0, .int 0, .int 0, .int 0, .int 0, .int 0, .null, .null, .null]))]
def oPreI (G : va_G) (cI cZ : ClassId) (hs sz K : Nat) (U : State) : Prop := oPre G (ty2 cI cZ) (siZ hs) [] sz K U ∧ va_AOA .int U
theorem oPreI_blind {G : va_G} {cI cZ : ClassId} {hs sz K : Nat} {vs : List Value} : FrameBlind (va_Pc vs (oPreI G cI cZ hs sz K)) := by
  intro a U g mk q
  obtain ⟨h1, h2, h3⟩ := q
  have h4 := oPre_blind (vs := vs) a U g mk ⟨h1, h2⟩
  exact ⟨h4.1, h4.2, va_AOA.moved (u := U) (U := U.calling g mk a) (Vm.Alike.refl U.vm) h3⟩
/-- as o_met, the start with one word more -/
theorem o_metI {l : Launch} {y : MethodName} {ws ws' : List Cond} {rm : Room} {Qc : Array Value → State → Outcome → State → Prop} {mc ms : Nat} {cc : ByteArray} {maxL : Nat} {ret : Option FieldType} {G : va_G} {cI cZ : ClassId} {hs sz K : Nat} {vs : List Value}
    (hy : plainName y.cls = true) (hw : ws = Cond.code y cc maxL ret :: ws') (hn : (lg_sl vs).length ≤ maxL)
    (body : ∀ (p : Program) (e : Env) (s : State) (m : MethodId) (below : List Frame) (meth : Method) (c : Code), p.tables.exec = Jvm.exec → c.code = cc → c.maxLocals = maxL → meth.sig.returnType = ret → (∀ w ∈ ws, w.before vs.toArray s = true) → s.vm.findClass y.cls = some m.cls → meth.locks = false → meth.name = y.name →
      va_K G vwCl (ty2 cI cZ) s → va_AOA .int s → K ≤ slotSum s.heap → s.heap.size = sz → va_P G vwCl (siZ hs) s.heap → va_D (va_A (siZ hs) sz) (siZ hs) → (∀ q : Nat, s.heap.size ≤ q → va_A (siZ hs) sz q) → va_S (va_A (siZ hs) sz) s.heap s.heap [] → ∀ ls : Array Slot, lv_has ls maxL (lv_args 0 vs) →
      W p l e rm s m vs.toArray below meth c s.heap [] 0 0 (MQ below Qc vs.toArray s mc ms (va_A (siZ hs) sz)) (F0 m 0 ls [])) :
    Met l y ws rm (va_Pc vs (oPreI G cI cZ hs sz K)) Qc mc ms (va_A (siZ hs) sz) := by
  refine Met.ofW (cc := cc) (maxL := maxL) (ret := ret) hy hw ?_
  intro p e s m args below meth c s₁ B hml hv
  obtain ⟨rfl, ⟨hsz, hM, hP, hR, hK, hD0, hx0⟩, hAO⟩ := hv
  have hts := atoms_spec (ws := ws) B.pre
  have hl := lv_entry vs (n := maxL) hn
  rw [lg_entry_eq]
  generalize (lg_sl vs ++ List.replicate (maxL - (lg_sl vs).length) Slot.unset).toArray = ls at hl ⊢
  exact body p e s m below meth c B.exec B.bytes hml B.returns hts (findClass_of_methodNamed B.named) B.notSynchronized (name_of_methodNamed B.named B.method).1 hK hAO hM hsz hP (hD0.self (sz := sz)) (fun q h => Or.inr (by rw [← hsz]; exact h)) va_S.rf ls hl
set_option maxHeartbeats 4000000 in
set_option maxRecDepth 100000 in
theorem c_X1_init (l : Launch) (G : va_G) (cI cZ : ClassId) (hs sz K : Nat) : Met l yX1_init wsX1_init ({ frames := 1, cells := 33, slots := 304, locals := 12 } : Room) (va_Pc [.ref hs] (oPreI G cI cZ hs sz K)) (va_Qv (fun u : SI9 => SIok cI u.2.1 u.2.2.1 u.2.2.2.1 u.2.2.2.2) (fun u => oB G (ty3 cI cZ u.1.1) (siW hs 0 0 0 0 0 u) (va_A (siZ hs) sz) K) (va_A (siZ hs) sz)) 33 304 (va_A (siZ hs) sz) := by
  refine o_metI (cc := cX1_init) (maxL := 1) (ret := none) (by decide) rfl (Nat.le_of_ble_eq_true rfl) ?_
  intro pg e s m below meth cd hx hb hml hr hts hown hlocks hnm hK hAO hM hsz hP hD hA hS ls hl
  have hown : s.vm.findClass RX1 = some m.cls := hown
  have hin : ∀ w ∈ wsX10, w ∈ wsX1_init := by decide +kernel
  have hl : lv_has ls 1 [(0, .ref hs)] := hl
  have haI := hts (.arrayClass .int) (by decide +kernel)
  have hfI : s.vm.findClass ("[" ++ FieldType.int.toString) = some cI := (hK.2 0 (cI, .int) rfl).2
  generalize hAe : va_A (siZ hs) sz = A at hD hA hS ⊢
  refine lv_aload_n hx hb dX1_init_0 rfl (lv_at hl 0 rfl) ?_
  refine W.objInit hx hb hown (hts (.methodLink RX1 1 objectInit) (by decide +kernel)) (hts (.instanceMethod objectInit) (by decide +kernel)) (hts (.code objectInit ⟨#[0xb1]⟩ 1 none) (by decide +kernel)) rfl (by rw [hml]; exact hl.1) rfl dX1_init_1 (Nat.le_of_ble_eq_true rfl) (Nat.le_of_ble_eq_true rfl) ?_
  refine W.eq (g2 := F0 m 4 ls []) rfl ?_
  refine lv_aload_n hx hb dX1_init_4 rfl (lv_at hl 0 rfl) ?_
  refine lv_bipush (v := 10) hx hb dX1_init_5 (by decide) ?_
  refine lv_bipush (v := 13) hx hb dX1_init_7 (by decide) ?_
  refine W_up hM (va_mna (X := siZ hs) (L := []) (f := fun _ => .inr (0, [])) (N' := 10) (K' := 13) (z := (13, .inl (fun _ => 0))) (ty := .int) (cy := cI) hx hb hown (hts (.classLink RX1 7 "[[I") (by decide +kernel)) hAO haI hfI hK hP hD hS hA (by decide) (by decide) (by decide) (by decide) (by decide) (by decide) (by decide) rfl rfl (Nat.le_of_ble_eq_true rfl) (Nat.le_of_ble_eq_true rfl) (fun c => o_inner c 13) dX1_init_9 (fun ao r1 cR H hi1 hn1 hK3 hP hD hS => W_dn (fun hM => ?_)))
  generalize hL1 : ([] ++ (List.range 10).map r1 : List Nat) = L1 at hP hD
  generalize hf1 : vr_up (fun _ => (.inr (0, []) : va_E)) ((List.range 10).map r1) (.inl (cI, (13, .inl (fun _ => 0)))) = f1 at hP hD
  have hfR : s.vm.findClass ("[" ++ (FieldType.array .int).toString) = some cR := (hK3.2 2 (cR, .array .int) rfl).2
  refine W_up hM (va_putF (ci := 1) (v := .ref ao) (ty := .array (.array .int)) (C := RX1) (T := TX1) (N := 9) hx hb hts hin tyX1 tyX1_ok nmX1 hown hK hP hD hS 0 rfl rfl 6 (by decide) (hts (.fieldLink RX1 9 "CurfewDeskLaw$Sim" "order" "[[I") (by decide +kernel)) (fun _ h9 => h9) rfl hnm rfl (by decide +kernel) rfl rfl (Nat.le_of_ble_eq_true rfl) dX1_init_13 (fun H locs hP hD hS => W_dn (fun hM => ?_)))
  have hP : va_P G vwCl ([(hs, .inr (1, [.int 0, .int 0, .int 0, .int 0, .int 0, .int 0, .ref ao, .null, .null])), OA cR ao r1] ++ va_pl L1 f1) H := hP
  have hD : va_D A ([(hs, .inr (1, [.int 0, .int 0, .int 0, .int 0, .int 0, .int 0, .ref ao, .null, .null])), OA cR ao r1] ++ va_pl L1 f1) := hD
  refine lv_aload_n hx hb dX1_init_16 rfl (lv_at hl 0 rfl) ?_
  refine lv_bipush (v := 20) hx hb dX1_init_17 (by decide) ?_
  refine lv_bipush (v := 7) hx hb dX1_init_19 (by decide) ?_
  refine W_up hM (va_mna (X := [(hs, .inr (1, [.int 0, .int 0, .int 0, .int 0, .int 0, .int 0, .ref ao, .null, .null])), OA cR ao r1]) (L := L1) (f := f1) (N' := 20) (K' := 7) (z := (7, .inl (fun _ => 0))) (ty := .int) (cy := cI) hx hb hown (hts (.classLink RX1 7 "[[I") (by decide +kernel)) hAO haI hfI hK3 hP hD hS hA (by decide) (by decide) (by decide) (by decide) (by decide) (by decide) (by decide) rfl rfl (Nat.le_of_ble_eq_true rfl) (Nat.le_of_ble_eq_true rfl) (fun c => o_inner c 7) dX1_init_21 (fun ap r2 cR2 H hi2 hn2 hK4 hP hD hS => W_dn (fun hM => ?_)))
  have hfR2 : s.vm.findClass ("[" ++ (FieldType.array .int).toString) = some cR2 := (hK4.2 3 (cR2, .array .int) rfl).2
  have eR : cR2 = cR := Option.some.inj (hfR2.symm.trans hfR)
  subst eR
  generalize hL2 : L1 ++ (List.range 20).map r2 = L2 at hP hD
  generalize hf2 : vr_up f1 ((List.range 20).map r2) (.inl (cI, (7, .inl (fun _ => 0)))) = f2 at hP hD
  refine W_up hM (va_putF (ci := 1) (v := .ref ap) (ty := .array (.array .int)) (C := RX1) (T := TX1) (N := 9) hx hb hts hin tyX1 tyX1_ok nmX1 hown hK hP hD hS 0 rfl rfl 7 (by decide) (hts (.fieldLink RX1 14 "CurfewDeskLaw$Sim" "person" "[[I") (by decide +kernel)) (fun _ h9 => h9) rfl hnm rfl (by decide +kernel) rfl rfl (Nat.le_of_ble_eq_true rfl) dX1_init_25 (fun H locs hP hD hS => W_dn (fun hM => ?_)))
  have hP : va_P G vwCl ([(hs, .inr (1, [.int 0, .int 0, .int 0, .int 0, .int 0, .int 0, .ref ao, .ref ap, .null])), OA cR2 ao r1, PA cR2 ap r2] ++ va_pl L2 f2) H := hP
  have hD : va_D A ([(hs, .inr (1, [.int 0, .int 0, .int 0, .int 0, .int 0, .int 0, .ref ao, .ref ap, .null])), OA cR2 ao r1, PA cR2 ap r2] ++ va_pl L2 f2) := hD
  refine lv_aload_n hx hb dX1_init_28 rfl (lv_at hl 0 rfl) ?_
  refine lv_iconst (v := 4) hx hb dX1_init_29 (by decide) ?_
  refine o_newa (N := 4) (a0 := (4, .inl (fun _ => 0))) (ty := .int) (atype := .int) hx hb haI rfl hfI hP hD hS hA hM rfl (by decide) (by decide) (Nat.le_of_ble_eq_true rfl) (Nat.le_of_ble_eq_true rfl) (Nat.le_of_ble_eq_true rfl) dX1_init_30 (fun au H hAr _ hP hD hS hM => ?_)
  have hM : K ≤ slotSum H := by omega
  refine W_up hM (va_put (ci := 1) (v := .ref au) (ty := .array .int) (C := RX1) (T := TX1) (N := 9) hx hb hts hin tyX1 tyX1_ok nmX1 hown hK hP hD hS 0 rfl rfl 8 (by decide) (hts (.fieldLink RX1 17 "CurfewDeskLaw$Sim" "used" "[I") (by decide +kernel)) (fun _ h9 => h9) rfl (by decide +kernel) rfl rfl (Nat.le_of_ble_eq_true rfl) dX1_init_32 (fun H locs hP hD hS => W_dn (fun hM => ?_)))
  have hP : va_P G vwCl (([SM hs ao ap au 0 0 0 0 0, OA cR2 ao r1, PA cR2 ap r2] ++ va_pl L2 f2) ++ [(au, .inl (cI, 4, .inl (fun _ => 0)))]) H := hP
  have hD : va_D A (([SM hs ao ap au 0 0 0 0 0, OA cR2 ao r1, PA cR2 ap r2] ++ va_pl L2 f2) ++ [(au, .inl (cI, 4, .inl (fun _ => 0)))]) := hD
  have hP9 := o_preP hP
  have hD9 := o_preD hD
  have hL1m : ∀ i, i < 10 → r1 i ∈ L1 := fun i hi => by
    rw [← hL1, List.nil_append]
    exact List.mem_map.mpr ⟨i, List.mem_range.mpr hi, rfl⟩
  have hne : ∀ i j, i < 10 → j < 20 → r1 i ≠ r2 j := fun i j hi hj h => hn2 j hj (by rw [← h]; exact hL1m i hi)
  have hok : SIok cI r1 r2 L2 f2 := by
    refine ⟨fun i hi => ⟨?_, fun _ => 0, ?_⟩, fun i hi => ⟨?_, fun _ => 0, ?_⟩, fun i j hi hj h => hi1 i j hi hj h, hne⟩
    · rw [← hL2]
      exact List.mem_append_left _ (hL1m i hi)
    · rw [← hf2, vr_up_ne (fun h => by
        obtain ⟨j, hj, e9⟩ := List.mem_map.mp h
        exact hne i j hi (List.mem_range.mp hj) e9.symm), ← hf1, vr_up_in (List.mem_map.mpr ⟨i, List.mem_range.mpr hi, rfl⟩)]
    · rw [← hL2]
      exact List.mem_append_right _ (List.mem_map.mpr ⟨i, List.mem_range.mpr hi, rfl⟩)
    · rw [← hf2, vr_up_in (List.mem_map.mpr ⟨i, List.mem_range.mpr hi, rfl⟩)]
  refine W.widen (k := 33) (n := 304) (Nat.le_of_ble_eq_true rfl) (Nat.le_of_ble_eq_true rfl) ?_
  exact W.vret hx hb hr (fun t ht hW => ⟨⟨((cR2, ao, ap, au), (r1, r2, L2, f2)), rfl, hok, ⟨⟨by rw [ht]; exact hP9, va_K.moved hW.alike hK3, hD9⟩, by rw [ht]; exact hM⟩⟩, hS.F ht⟩) hS.2.2 dX1_init_35 hlocks
end SIN
end
section
section STE
theorem o_pwi {a k n : Nat} (h1 : a ≤ k) (h2 : k ≤ n) (hn : n < 2 ^ 31 := by decide) : p_wi (nI k) (nI a) (nI n) = true := by
  simp only [p_wi, Bool.and_eq_true, decide_eq_true_eq]
  exact ⟨nI_le h1 (by omega), nI_le h2 hn⟩
theorem o_pwi4 {k : Nat} (h : k ≤ 4) : p_wi (nI k) 0 4 = true := o_pwi (a := 0) (n := 4) (by omega) h
/-- the law's below, over counted numbers -/
def onb (v : Int32) (n : Nat) : Nat := (v.toBitVec.toNat &&& 2147483647) % n
theorem onb_lt {v : Int32} {n : Nat} (h : 0 < n) : onb v n < n := Nat.mod_lt _ h
theorem o_and2 (v : Int32) : v.toBitVec.toNat &&& 2147483647 < 2 ^ 31 ∧ v &&& 2147483647 = nI (v.toBitVec.toNat &&& 2147483647) := by
  have h1 := @Nat.and_le_right v.toBitVec.toNat 2147483647
  refine ⟨by omega, Int32.toInt_inj.mp ?_⟩
  rw [nI_toInt (by omega)]
  show (v.toBitVec &&& 2147483647#32).toInt = _
  have e : (v.toBitVec &&& 2147483647#32).toNat = (v.toBitVec.toNat &&& 2147483647) := by rw [BitVec.toNat_and]; rfl
  rw [BitVec.toInt_eq_toNat_of_lt (by rw [e]; omega), e]
theorem ob_onb (v : Int32) {n : Nat} (hn : n < 2 ^ 31) : ob v (nI n) = nI (onb v n) := by
  obtain ⟨h1, h2⟩ := o_and2 v
  rw [ob, h2, o_rem h1 hn]
  rfl
set_option maxHeartbeats 4000000 in
set_option maxRecDepth 100000 in
theorem c_L_below (l : Launch) (G : va_G) (sz : Nat) (v : Int32) (n : Nat) (h0 : 0 < n) (hn : n < 2 ^ 31) : Met l yL_below wsL_below ({ frames := 0, cells := 0, slots := 0, locals := 0 } : Room) (va_Pc [.int v, .int (nI n)] (wPre G [] [] sz)) (va_Qi (fun (r : Int32) (_ : Unit) => r = nI (onb v n)) (fun _ => wP G [] [] (va_A [] sz)) (va_A [] sz)) 0 0 (va_A [] sz) := by
  refine w_met (cc := cL_below) (maxL := 2) (ret := (some .int)) (by decide) rfl (Nat.le_of_ble_eq_true rfl) ?_
  intro pg e s m below meth cd hx hb hml hr hts hown hlocks hnm hK hsz hP hD hA hS ls hl
  have hown : s.vm.findClass RL = some m.cls := hown
  have hl : lv_has ls 2 [(0, .int v), (1, .int (nI n))] := hl
  generalize hAe : va_A [] sz = A at hD hA hS ⊢
  refine lv_iload_n hx hb dL_below_0 rfl (lv_at hl 0 rfl) ?_
  refine lv_ldc (v := 2147483647) hx hb hown (hts _ (List.mem_cons_of_mem _ List.mem_cons_self)) dL_below_1 ?_
  refine lv_iand hx hb dL_below_3 ?_
  refine lv_iload_n hx hb dL_below_4 rfl (lv_at hl 1 rfl) ?_
  refine lv_irem hx hb dL_below_5 (nI_ne0 h0 hn) ?_
  exact w_iret () hx hb hr hlocks hK hP hD hS (Nat.le_of_ble_eq_true rfl) (Nat.le_of_ble_eq_true rfl) dL_below_6 (show (v &&& 2147483647) - (v &&& 2147483647) / nI n * nI n = nI (onb v n) from ob_onb v hn)
set_option maxHeartbeats 4000000 in
set_option maxRecDepth 100000 in
theorem c_L_cell (l : Launch) (G : va_G) (cI : ClassId) (b N : Nat) (xs : Nat → Int32) (sz K k : Nat) (hk : k < N) (hN : N < 2 ^ 31) : Met l yL_cell wsL_cell ({ frames := 0, cells := 0, slots := 0, locals := 0 } : Room) (va_Pc [.ref b, .int (nI k)] (oPre G [(cI, .int)] [] [(b, .inl (cI, N, .inl xs))] sz K)) (va_Qi (fun (r : Int32) (_ : Unit) => r = xs k) (fun _ => oB G [(cI, .int)] [] (va_A [] sz) K) (va_A [] sz)) 0 0 (va_A [] sz) := by
  refine o_met (cc := cL_cell) (maxL := 2) (ret := (some .int)) (by decide) rfl (Nat.le_of_ble_eq_true rfl) ?_
  intro pg e s m below meth cd hx hb hml hr hts hown hlocks hnm hK hM hP hro hsz _ hD hA hS ls hl
  have hl : lv_has ls 2 [(0, .ref b), (1, .int (nI k))] := hl
  generalize hAe : va_A [] sz = A at hD hA hS ⊢
  refine lv_iload_n hx hb dL_cell_0 rfl (lv_at hl 1 rfl) ?_
  refine lv_aload_n hx hb dL_cell_1 rfl (lv_at hl 0 rfl) ?_
  refine va_alen hx hb hK hP 0 0 rfl rfl (v := nI N) rfl dL_cell_2 ?_
  refine lv_icmp_ge (tgt := 12) hx hb dL_cell_3 (by decide) (fun c3 => absurd ((nI_leI (by omega) (by omega)).mp c3) (by omega)) (fun c3 => ?_)
  refine lv_aload_n hx hb dL_cell_6 rfl (lv_at hl 0 rfl) ?_
  refine lv_iload_n hx hb dL_cell_7 rfl (lv_at hl 1 rfl) ?_
  refine w_iald (f := xs) (j := k) hx hb hK hP 0 0 rfl rfl hk (by omega) dL_cell_8 ?_
  refine lv_goto (tgt := 18) hx hb dL_cell_9 (by decide) ?_
  exact o_iret (w1 := fun _ => []) () hx hb hr hlocks hK hM w_P0 w_D0 hS (Nat.le_of_ble_eq_true rfl) (Nat.le_of_ble_eq_true rfl) dL_cell_18 rfl
/-! what a thing done is, told by numbers alone: quarters, orders, people, half hours gone by; and what it weighs at least -/
def o_sort (x : Int32) : Nat := onb (x >>> (9 &&& 31)) 24
def o_hn (x : Int32) : Nat := if onb x 5 = 0 then 200 else 12
def o_hv (x : Int32) : Nat := 1 + onb (x >>> (2 &&& 31)) (o_hn x)
def o_gs (O T : Nat) : Nat → Nat
  | 0 => 0
  | n + 1 => o_gs O T n + o_pc O (T + n)
def o_step (x : Int32) (Q O P T : Nat) : Option ((Nat × Nat × Nat × Nat) × Nat) :=
  if Q = 0 ∨ o_sort x = 0 then (if Q = 6 then some ((Q, O, P, T), 0) else some ((Q + 1, O, P, T), 0))
  else if o_sort x < 4 ∨ P = 0 then (if P = 20 then some ((Q, O, P, T), 0) else some ((Q, O, P + 1, T), 0))
  else if o_sort x < 7 ∨ O = 0 then (if O = 10 then some ((Q, O, P, T), 0) else some ((Q, O + 1, P, T), 0))
  else if 18 ≤ o_sort x then some ((Q, O, P, T + o_hv x), o_gs O T (o_hv x)) else none
theorem o_hv_le (x : Int32) : 1 ≤ o_hv x ∧ o_hv x ≤ 200 := by
  have h : onb (x >>> (2 &&& 31)) (o_hn x) < o_hn x := onb_lt (by unfold o_hn; split <;> omega)
  have h2 : o_hn x ≤ 200 := by unfold o_hn; split <;> omega
  unfold o_hv
  omega
/-- the desk's trades are trades, in force is 0 or 1 -/
def CI (F : Nat → Nat → Int32) (pn : Nat) : Prop := (∀ k, k < pn → p_in (F 6 k) 8 = true) ∧ ∀ j, F 4 j = 0 ∨ F 4 j = 1
def OR (cI : ClassId) (ro rp : Nat → Nat) (L : List Nat) (f : Nat → va_E) (on : Nat) : Prop := (∀ i, i < on → RO cI L f (ro i)) ∧ SIok cI ro rp L f
abbrev AC : Type := (Nat → Nat → Int32) × Int32 × (Nat → va_E)
theorem CI_pe {F : Nat → Nat → Int32} {pn : Nat} {v : Int32} (h : CI F pn) (hv : p_in v 8 = true) : CI (n_pe F pn v) (pn + 1) := by
  refine ⟨fun k hk => ?_, fun j => ?_⟩
  · show p_in (va_up F 6 (upd (F 6) pn v) 6 k) 8 = true
    rw [va_up_self]
    by_cases e : k = pn
    · subst e; rw [pk_us]; exact hv
    · rw [show upd (F 6) pn v k = F 6 k from if_neg e]; exact h.1 k (by omega)
  · show va_up F 6 (upd (F 6) pn v) 4 j = 0 ∨ va_up F 6 (upd (F 6) pn v) 4 j = 1
    rw [va_up_ne _ _ (by decide)]; exact h.2 j
theorem CI_or {F : Nat → Nat → Int32} {pn on : Nat} {q b c d : Int32} (h : CI F pn) : CI (n_or F on q b c d) pn := by
  refine ⟨fun k hk => ?_, fun j => ?_⟩
  · show p_in (n_or F on q b c d 6 k) 8 = true
    simp only [n_or]
    rw [va_up_ne _ _ (by decide), va_up_ne _ _ (by decide), va_up_ne _ _ (by decide), va_up_ne _ _ (by decide), va_up_ne _ _ (by decide)]
    exact h.1 k hk
  · show n_or F on q b c d 4 j = 0 ∨ n_or F on q b c d 4 j = 1
    simp only [n_or]
    rw [va_up_self]
    by_cases e : j = on
    · subst e; rw [pk_us]; exact Or.inr rfl
    · rw [show upd (F 4) on 1 j = F 4 j from if_neg e]; exact h.2 j
theorem o_up_up {f : Nat → va_E} {r : Nat} {e1 e2 : va_E} : va_up (va_up f r e1) r e2 = va_up f r e2 := by
  funext j
  by_cases h : j = r
  · subst h; rw [va_up_self, va_up_self]
  · rw [va_up_ne _ _ h, va_up_ne _ _ h, va_up_ne _ _ h]
theorem o_up_id {f : Nat → va_E} {r : Nat} {e1 : va_E} (h : f r = e1) : f = va_up f r e1 := by
  funext j
  by_cases hj : j = r
  · subst hj; rw [va_up_self, h]
  · rw [va_up_ne _ _ hj]
/-- a person's row written -/
theorem OR_pe {cI : ClassId} {ro rp : Nat → Nat} {L : List Nat} {f : Nat → va_E} {on pn : Nat} {g : Nat → Int32} (h : OR cI ro rp L f on) (hon : on ≤ 10) (hp : pn < 20) : OR cI ro rp L (va_up f (rp pn) (.inl (cI, 7, .inl g))) on := by
  obtain ⟨h1, h2, h3, h4, h5⟩ := h
  refine ⟨fun i hi => ?_, fun i hi => ?_, fun i hi => ?_, h4, h5⟩
  · obtain ⟨m1, g1, a1, e1, e2⟩ := h1 i hi
    exact ⟨m1, g1, a1, by rw [va_up_ne _ _ (h5 i pn (by omega) hp)]; exact e1, e2⟩
  · obtain ⟨m1, g1, e1⟩ := h2 i hi
    exact ⟨m1, g1, by rw [va_up_ne _ _ (h5 i pn hi hp)]; exact e1⟩
  · obtain ⟨m1, g1, e1⟩ := h3 i hi
    by_cases e : rp i = rp pn
    · exact ⟨m1, g, by rw [e, va_up_self]⟩
    · exact ⟨m1, g1, by rw [va_up_ne _ _ e]; exact e1⟩
/-- an order's row written -/
theorem OR_or {cI : ClassId} {ro rp : Nat → Nat} {L : List Nat} {f : Nat → va_E} {on a1 : Nat} {g : Nat → Int32} (h : OR cI ro rp L f on) (hon : on < 10) (e1 : g 1 = nI a1) (ha : a1 ≤ 4) (e4 : g 4 = 1) : OR cI ro rp L (va_up f (ro on) (.inl (cI, 13, .inl g))) (on + 1) := by
  obtain ⟨h1, h2, h3, h4, h5⟩ := h
  refine ⟨fun i hi => ?_, fun i hi => ?_, fun i hi => ?_, h4, h5⟩
  · by_cases e : i = on
    · subst e
      exact ⟨(h2 i hon).1, g, a1, va_up_self _ _ _, e1, ha, e4⟩
    · obtain ⟨m1, g1, a2, e5, e6⟩ := h1 i (by omega)
      exact ⟨m1, g1, a2, by rw [va_up_ne _ _ (fun q => e (h4 i on (by omega) hon q))]; exact e5, e6⟩
  · obtain ⟨m1, g1, e5⟩ := h2 i hi
    by_cases e : i = on
    · subst e; exact ⟨m1, g, va_up_self _ _ _⟩
    · exact ⟨m1, g1, by rw [va_up_ne _ _ (fun q => e (h4 i on hi hon q))]; exact e5⟩
  · obtain ⟨m1, g1, e5⟩ := h3 i hi
    exact ⟨m1, g1, by rw [va_up_ne _ _ (fun q => h5 on i hon hi q.symm)]; exact e5⟩
section ST1
variable {p : Program} {l : Launch} {e : Env} {R : Room} {s : State} {m : MethodId} {args : Array Value} {below : List Frame} {meth : Method} {c : Code} {H : Heap} {locs : List Loc} {cells slots : Nat} {Q : State → Prop}
variable {cc : ByteArray} {pc : Nat} {ls : Array Slot} {rest : List Value} {G : va_G} {tys : List (ClassId × FieldType)} {X : va_W} {L : List Nat} {f : Nat → va_E} {A : Nat → Prop} {H0 : Heap} {K : Nat} {cI : ClassId} {r n : Nat} {g : Nat → Int32}
/-- a row of the pool written -/
theorem o_pst (hx : p.tables.exec = Jvm.exec) (hb : c.code = cc) (hK : va_K G vwCl tys s) (t0 : Nat) (ht : tys[t0]? = some (cI, .int)) (hP : va_P G vwCl (X ++ va_pl L (va_up f r (.inl (cI, n, .inl g)))) H) (hD : va_D A (X ++ va_pl L (va_up f r (.inl (cI, n, .inl g))))) (hS : va_S A H0 H locs) (hM : K ≤ slotSum H) (hm : r ∈ L) {j : Nat} {v : Int32} (hj : j < n) (hn : n < 2 ^ 31) (hdg : decode cc pc = .ok (.iastore, 1))
    (kk : ∀ (H : Heap) (locs : List Loc), va_P G vwCl (X ++ va_pl L (va_up f r (.inl (cI, n, .inl (upd g j v))))) H → va_D A (X ++ va_pl L (va_up f r (.inl (cI, n, .inl (upd g j v))))) → va_S A H0 H locs → K ≤ slotSum H → W p l e R s m args below meth c H locs cells slots Q (F0 m (pc + 1) ls rest)) : W p l e R s m args below meth c H locs cells slots Q (F0 m pc ls (.int v :: .int (nI j) :: .ref r :: rest)) := by
  obtain ⟨k, hk⟩ := va_pl_get (X := X) (f := va_up f r (.inl (cI, n, .inl g))) hm
  have hset := fun e : va_E => va_pl_set (e := e) hD hm hk
  have hk2 := hk
  rw [va_up_self] at hk2
  refine W_up hM (w_iast (x := v) hx hb hK hP hD hS k t0 hk2 ht hj hn hdg (fun H locs hP hD hS => W_dn (fun hM => ?_)))
  rw [hset, o_up_up] at hP hD
  exact kk H locs hP hD hS hM
/-- a row of the pool read -/
theorem o_pld (hx : p.tables.exec = Jvm.exec) (hb : c.code = cc) (hK : va_K G vwCl tys s) (t0 : Nat) (ht : tys[t0]? = some (cI, .int)) (hP : va_P G vwCl (X ++ va_pl L (va_up f r (.inl (cI, n, .inl g)))) H) (hm : r ∈ L) {j : Nat} (hj : j < n) (hn : n < 2 ^ 31) (hdg : decode cc pc = .ok (.iaload, 1))
    (kk : W p l e R s m args below meth c H locs cells slots Q (F0 m (pc + 1) ls (.int (g j) :: rest))) : W p l e R s m args below meth c H locs cells slots Q (F0 m pc ls (.int (nI j) :: .ref r :: rest)) := by
  obtain ⟨k, hk⟩ := va_pl_get (X := X) (f := va_up f r (.inl (cI, n, .inl g))) hm
  rw [va_up_self] at hk
  exact w_iald (f := g) hx hb hK hP k t0 hk ht hj hn hdg kk
end ST1
/-- cells of the rows and of the sim are apart -/
theorem o_apart {A : Nat → Prop} {hs ao : Nat} {es e2 eo : va_E} {X pl : va_W} (hD : va_D A (((hs, es) :: X) ++ pl)) (ho : ¬ A ao) : ∀ (k : Nat) (q : Nat × va_E), ([(ao, eo)] ++ pl)[k]? = some q → ∀ (j : Nat) (x : va_E), ([(hs, e2)] : va_W)[j]? ≠ some (q.1, x) := by
  intro k q hk j x hj
  have hj0 : j < 1 := (List.getElem?_eq_some_iff.mp hj).1
  rw [show j = 0 by omega] at hj
  have e1 : hs = q.1 := by
    have h := Option.some.inj hj
    exact congrArg Prod.fst h
  cases k with
  | zero =>
    have h := Option.some.inj hk
    have h2 : ao = q.1 := congrArg Prod.fst h
    exact ho (by rw [h2, ← e1]; exact hD.2 0 (hs, es) rfl)
  | succ k =>
    have h2 : (((hs, es) :: X) ++ pl)[(X.length + 1) + k]? = some q := by
      rw [List.getElem?_append_right (by simp), List.length_cons, Nat.add_sub_cancel_left]
      exact hk
    have h3 := hD.1 0 ((X.length + 1) + k) (hs, es) q rfl h2 e1
    omega
theorem wa_quarters : Cond.fieldLink RL 15 "CurfewDeskLaw$Sim" "quarters" "I" ∈ wsL_act := by decide +kernel
theorem wa_people : Cond.fieldLink RL 27 "CurfewDeskLaw$Sim" "people" "I" ∈ wsL_act := by decide +kernel
theorem wa_person : Cond.fieldLink RL 30 "CurfewDeskLaw$Sim" "person" "[[I" ∈ wsL_act := by decide +kernel
theorem wa_orders : Cond.fieldLink RL 38 "CurfewDeskLaw$Sim" "orders" "I" ∈ wsL_act := by decide +kernel
theorem wa_order : Cond.fieldLink RL 41 "CurfewDeskLaw$Sim" "order" "[[I" ∈ wsL_act := by decide +kernel
theorem wa_in : ∀ w ∈ wsX10, w ∈ wsL_act := by decide +kernel
end STE
end
section
section ACT
set_option maxHeartbeats 16000000 in
set_option maxRecDepth 100000 in
theorem c_L_act (l : Launch) (G : va_G) (cI cZ cR : ClassId) (hc : Nat) (a : Nat → Nat) (F : Nat → Nat → Int32) (nw : Int32) (hs ao ap au : Nat) (ro rp : Nat → Nat) (L : List Nat) (f : Nat → va_E) (qn on pn T qn1 on1 pn1 T1 dl sz K : Nat) (x : Int32) (hqn : qn ≤ 6) (hon : on ≤ 10) (hpn : pn ≤ 20) (hT : T < 1000000) (hst : o_step x qn on pn T = some ((qn1, on1, pn1, T1), dl)) (hF : CI F pn) (hrow : OR cI ro rp L f on) :
    Met l yL_act wsL_act ({ frames := 6, cells := 8200, slots := 162000, locals := 137 } : Room) (va_Pc [.ref hc, .ref hs, .int x] (oPre G (ty3 cI cZ cR) (((SM hs ao ap au (nI (T / 48)) (nI (T % 48)) qn on pn) :: (Dk cI cZ hc a F qn on pn 0 nw)) ++ va_pl L f) [OA cR ao ro, PA cR ap rp] sz K)) (va_Qi (fun (r : Int32) (u : AC) => (r = 0 ∨ r = 1) ∧ CI u.1 pn1 ∧ OR cI ro rp L u.2.2 on1) (fun u => oB G (ty3 cI cZ cR) (((SM hs ao ap au (nI (T1 / 48)) (nI (T1 % 48)) qn1 on1 pn1) :: (Dk cI cZ hc a u.1 qn1 on1 pn1 0 u.2.1)) ++ va_pl L u.2.2) (va_A (((SM hs ao ap au (nI (T / 48)) (nI (T % 48)) qn on pn) :: (Dk cI cZ hc a F qn on pn 0 nw)) ++ va_pl L f) sz) (K + dl)) (va_A (((SM hs ao ap au (nI (T / 48)) (nI (T % 48)) qn on pn) :: (Dk cI cZ hc a F qn on pn 0 nw)) ++ va_pl L f) sz)) 8200 162000 (va_A (((SM hs ao ap au (nI (T / 48)) (nI (T % 48)) qn on pn) :: (Dk cI cZ hc a F qn on pn 0 nw)) ++ va_pl L f) sz) := by
  refine o_met (cc := cL_act) (maxL := 16) (ret := (some .boolean)) (by decide) rfl (Nat.le_of_ble_eq_true rfl) ?_
  intro pg e s m below meth cd hx hb hml hr hts hown hlocks hnm hK hM hR hro hsz hP hD hA hS ls hl
  have hown : s.vm.findClass RL = some m.cls := hown
  have hl : lv_has ls 16 [(0, .ref hc), (1, .ref hs), (2, .int x)] := hl
  have hK2 : va_K G vwCl (ty2 cI cZ) s := hK.sub [0, 1] rfl
  generalize hAe : va_A (((SM hs ao ap au (nI (T / 48)) (nI (T % 48)) qn on pn) :: (Dk cI cZ hc a F qn on pn 0 nw)) ++ va_pl L f) sz = A at hD hA hS hro ⊢
  refine lv_iload_n hx hb dL_act_0 rfl (lv_at hl 2 rfl) ?_
  refine lv_bipush (v := 9) hx hb dL_act_1 (by decide) ?_
  refine lv_ishr hx hb dL_act_3 ?_
  refine lv_bipush (v := nI 24) hx hb dL_act_4 (by decide) ?_
  refine o_st (va_runS (As := [.int (x >>> (9 &&& 31)), .int (nI 24)]) (rest := []) ⟨hx, hb, hml, hown, hts⟩ (c_L_below l G _ (x >>> (9 &&& 31)) 24 (by omega) (by omega)) (va_cwS 2 hts gL_act_L_below rfl rfl rfl (by decide +kernel) ⟨(Nat.le_of_ble_eq_true rfl), (Nat.le_of_ble_eq_true rfl)⟩) ⟨wPre_blind, w_pre (hK.sub [] rfl) w_P0 (w_D0 (A := A))⟩ rfl rfl hl.1 rfl (lv_room (Nat.le_of_ble_eq_true rfl)) dL_act_6 ⟨by dsimp only; omega, by dsimp only; omega⟩) hM hP hS hA (fun r6 u6 H locs hw6 hP hS hM => ?_)
  subst hw6
  have hso : onb (x >>> (9 &&& 31)) 24 = o_sort x := rfl
  have hso24 : o_sort x < 24 := onb_lt (by omega)
  rw [hso]
  refine lv_istore_n (lv' := [(3, .int (nI (o_sort x))), (0, .ref hc), (1, .ref hs), (2, .int x)]) hx hb dL_act_9 rfl hl (by decide) rfl (fun ls hl => ?_)
  have b21 : (qn = 0 ∨ o_sort x = 0) → W pg l e ({ frames := 6, cells := 8200, slots := 162000, locals := 137 } : Room) s m ([.ref hc, .ref hs, .int x] : List Value).toArray below meth cd H locs (0 + 0) (0 + 0) (MQ below (va_Qi (fun (r : Int32) (u : AC) => (r = 0 ∨ r = 1) ∧ CI u.1 pn1 ∧ OR cI ro rp L u.2.2 on1) (fun u => oB G (ty3 cI cZ cR) (((SM hs ao ap au (nI (T1 / 48)) (nI (T1 % 48)) qn1 on1 pn1) :: (Dk cI cZ hc a u.1 qn1 on1 pn1 0 u.2.1)) ++ va_pl L u.2.2) A (K + dl)) A) ([.ref hc, .ref hs, .int x] : List Value).toArray s 8200 162000 A) (F0 m 21 ls []) := by
    intro h1
    rw [o_step, if_pos h1] at hst
    refine lv_aload_n hx hb dL_act_21 rfl (lv_at hl 2 rfl) ?_
    refine va_get (ci := 1) (v := .int (nI qn)) (own := RL) (C := RX1) (T := TX1) (N := 9) hx hb hts wa_in hown hK hP 0 rfl rfl 3 (by decide) (hts _ wa_quarters) (fun _ h9 => h9) rfl dL_act_22 ?_
    refine lv_bipush (v := nI 6) hx hb dL_act_25 (by decide) ?_
    refine lv_icmp_ne (tgt := 32) hx hb dL_act_27 (by decide) (fun c9 => ?_) (fun c9 => ?_)
    · have h2 : ¬ qn = 6 := fun h => c9 (by rw [h])
      rw [if_neg h2] at hst
      cases hst
      refine lv_aload_n hx hb dL_act_32 rfl (lv_at hl 2 rfl) ?_
      refine lv_dup hx hb dL_act_33 rfl ?_
      refine va_get (ci := 1) (v := .int (nI qn)) (own := RL) (C := RX1) (T := TX1) (N := 9) hx hb hts wa_in hown hK hP 0 rfl rfl 3 (by decide) (hts _ wa_quarters) (fun _ h9 => h9) rfl dL_act_34 ?_
      refine lv_iconst (v := 1) hx hb dL_act_37 (by decide) ?_
      refine lv_iadd hx hb dL_act_38 ?_
      rw [nI_1]
      refine W_up hM (va_put (ci := 1) (v := .int (nI (qn + 1))) (ty := .int) (own := RL) (C := RX1) (T := TX1) (N := 9) hx hb hts wa_in tyX1 tyX1_ok nmX1 hown hK hP hD hS 0 rfl rfl 3 (by decide) (hts _ wa_quarters) (fun _ h9 => h9) rfl (by decide +kernel) rfl rfl (Nat.le_of_ble_eq_true rfl) dL_act_39 (fun H locs hP hD hS => W_dn (fun hM => ?_)))
      have hP : va_P G vwCl (((SM hs ao ap au (nI (T / 48)) (nI (T % 48)) (qn + 1) on pn) :: (Dk cI cZ hc a F qn on pn 0 nw)) ++ va_pl L f) H := hP
      have hD : va_D A (((SM hs ao ap au (nI (T / 48)) (nI (T % 48)) (qn + 1) on pn) :: (Dk cI cZ hc a F qn on pn 0 nw)) ++ va_pl L f) := hD
      refine lv_aload_n hx hb dL_act_42 rfl (lv_at hl 1 rfl) ?_
      refine o_plw (X := (SM hs ao ap au (nI (T / 48)) (nI (T % 48)) (qn + 1) on pn) :: (Dk cI cZ hc a F qn on pn 0 nw)) (pl := va_pl L f) (wr := [SM hs ao ap au (nI (T / 48)) (nI (T % 48)) (qn + 1) on pn]) (va_runV (As := []) (rest := []) ⟨hx, hb, hml, hown, hts⟩ (c_X0_addQuarter l G cI cZ hc a F qn on pn 0 nw H.size hqn (by omega)) (cwV 0 hts gL_act_X0_addQuarter rfl rfl rfl (by decide +kernel) ⟨(Nat.le_of_ble_eq_true rfl), (Nat.le_of_ble_eq_true rfl)⟩) ⟨wPre_blind, va_recv hK hP (ci := 0) (q0 := 1) rfl rfl, w_preP hK2 hP hD [1, 2, 3, 4, 5, 6, 7, 8, 9, 10, 11, 12] (by decide) rfl rfl⟩ rfl rfl hl.1 rfl (lv_room (Nat.le_of_ble_eq_true rfl)) dL_act_43 ⟨by dsimp only; omega, by dsimp only; omega⟩) hM hP hD hS hA [1, 2, 3, 4, 5, 6, 7, 8, 9, 10, 11, 12] [0] rfl rfl rfl (by decide) (by decide) (fun r43 u43 H locs hw43 hP hD hS hM => ?_)
      have hP : va_P G vwCl (((SM hs ao ap au (nI (T / 48)) (nI (T % 48)) (qn + 1) on pn) :: (Dk cI cZ hc a F (qn + 1) on pn 0 nw)) ++ va_pl L f) H := hP
      have hD : va_D A (((SM hs ao ap au (nI (T / 48)) (nI (T % 48)) (qn + 1) on pn) :: (Dk cI cZ hc a F (qn + 1) on pn 0 nw)) ++ va_pl L f) := hD
      refine lv_aload_n hx hb dL_act_46 rfl (lv_at hl 2 rfl) ?_
      refine va_get (ci := 1) (v := .int (nI (qn + 1))) (own := RL) (C := RX1) (T := TX1) (N := 9) hx hb hts wa_in hown hK hP 0 rfl rfl 3 (by decide) (hts _ wa_quarters) (fun _ h9 => h9) rfl dL_act_47 ?_
      refine lv_iconst (v := 1) hx hb dL_act_50 (by decide) ?_
      refine lv_isub hx hb dL_act_51 ?_
      refine lv_icmp_ne (tgt := 59) hx hb dL_act_52 (by decide) (fun c8 => ?_) (fun c8 => ?_)
      · refine lv_iconst (v := 0) hx hb dL_act_59 (by decide) ?_
        exact o_zret (w1 := fun u : AC => (((SM hs ao ap au (nI (T / 48)) (nI (T % 48)) (qn + 1) on pn) :: (Dk cI cZ hc a u.1 (qn + 1) on pn 0 u.2.1)) ++ va_pl L u.2.2)) (F, nw, f) hx hb hr hlocks hK hM hP hD hS (Nat.le_of_ble_eq_true rfl) (Nat.le_of_ble_eq_true rfl) dL_act_60 rfl ⟨Or.inl rfl, hF, hrow⟩
      · refine lv_iconst (v := 1) hx hb dL_act_55 (by decide) ?_
        refine lv_goto (tgt := 60) hx hb dL_act_56 (by decide) ?_
        exact o_zret (w1 := fun u : AC => (((SM hs ao ap au (nI (T / 48)) (nI (T % 48)) (qn + 1) on pn) :: (Dk cI cZ hc a u.1 (qn + 1) on pn 0 u.2.1)) ++ va_pl L u.2.2)) (F, nw, f) hx hb hr hlocks hK hM hP hD hS (Nat.le_of_ble_eq_true rfl) (Nat.le_of_ble_eq_true rfl) dL_act_60 rfl ⟨Or.inr rfl, hF, hrow⟩
    · have h2 : qn = 6 := (nI_eq (by omega) (by omega)).mp c9
      rw [if_pos h2] at hst
      cases hst
      refine lv_iconst (v := 1) hx hb dL_act_30 (by decide) ?_
      exact o_zret (w1 := fun u : AC => (((SM hs ao ap au (nI (T / 48)) (nI (T % 48)) qn on pn) :: (Dk cI cZ hc a u.1 qn on pn 0 u.2.1)) ++ va_pl L u.2.2)) (F, nw, f) hx hb hr hlocks hK hM hP hD hS (Nat.le_of_ble_eq_true rfl) (Nat.le_of_ble_eq_true rfl) dL_act_31 rfl ⟨Or.inr rfl, hF, hrow⟩
  have b61 : ¬ (qn = 0 ∨ o_sort x = 0) → W pg l e ({ frames := 6, cells := 8200, slots := 162000, locals := 137 } : Room) s m ([.ref hc, .ref hs, .int x] : List Value).toArray below meth cd H locs (0 + 0) (0 + 0) (MQ below (va_Qi (fun (r : Int32) (u : AC) => (r = 0 ∨ r = 1) ∧ CI u.1 pn1 ∧ OR cI ro rp L u.2.2 on1) (fun u => oB G (ty3 cI cZ cR) (((SM hs ao ap au (nI (T1 / 48)) (nI (T1 % 48)) qn1 on1 pn1) :: (Dk cI cZ hc a u.1 qn1 on1 pn1 0 u.2.1)) ++ va_pl L u.2.2) A (K + dl)) A) ([.ref hc, .ref hs, .int x] : List Value).toArray s 8200 162000 A) (F0 m 61 ls []) := by
    intro h1
    rw [o_step, if_neg h1] at hst
    refine lv_iload_n hx hb dL_act_61 rfl (lv_at hl 3 rfl) ?_
    refine lv_iconst (v := 1) hx hb dL_act_62 (by decide) ?_
    refine lv_ishr hx hb dL_act_63 ?_
    refine lv_aload_n hx hb dL_act_64 rfl (lv_at hl 2 rfl) ?_
    refine va_get (ci := 1) (v := .int (nI qn)) (own := RL) (C := RX1) (T := TX1) (N := 9) hx hb hts wa_in hown hK hP 0 rfl rfl 3 (by decide) (hts _ wa_quarters) (fun _ h9 => h9) rfl dL_act_65 ?_
    refine o_st (va_runS (As := [.int (x >>> (1 &&& 31)), .int (nI qn)]) (rest := []) ⟨hx, hb, hml, hown, hts⟩ (c_L_below l G _ (x >>> (1 &&& 31)) qn (by omega) (by omega)) (va_cwS 2 hts gL_act_L_below rfl rfl rfl (by decide +kernel) ⟨(Nat.le_of_ble_eq_true rfl), (Nat.le_of_ble_eq_true rfl)⟩) ⟨wPre_blind, w_pre (hK.sub [] rfl) w_P0 (w_D0 (A := A))⟩ rfl rfl hl.1 rfl (lv_room (Nat.le_of_ble_eq_true rfl)) dL_act_68 ⟨by dsimp only; omega, by dsimp only; omega⟩) hM hP hS hA (fun r68 u68 H locs hw68 hP hS hM => ?_)
    subst hw68
    have hq9 : onb (x >>> (1 &&& 31)) qn < qn := onb_lt (by omega)
    generalize onb (x >>> (1 &&& 31)) qn = q9 at hq9 ⊢
    refine lv_istore (lv' := [(4, .int (nI q9)), (3, .int (nI (o_sort x))), (0, .ref hc), (1, .ref hs), (2, .int x)]) hx hb dL_act_71 hl (by decide) rfl (fun ls hl => ?_)
    have b85 : (o_sort x < 4 ∨ pn = 0) → W pg l e ({ frames := 6, cells := 8200, slots := 162000, locals := 137 } : Room) s m ([.ref hc, .ref hs, .int x] : List Value).toArray below meth cd H locs (0 + 0 + 0) (0 + 0 + 0) (MQ below (va_Qi (fun (r : Int32) (u : AC) => (r = 0 ∨ r = 1) ∧ CI u.1 pn1 ∧ OR cI ro rp L u.2.2 on1) (fun u => oB G (ty3 cI cZ cR) (((SM hs ao ap au (nI (T1 / 48)) (nI (T1 % 48)) qn1 on1 pn1) :: (Dk cI cZ hc a u.1 qn1 on1 pn1 0 u.2.1)) ++ va_pl L u.2.2) A (K + dl)) A) ([.ref hc, .ref hs, .int x] : List Value).toArray s 8200 162000 A) (F0 m 85 ls []) := by
      intro h2
      rw [if_pos h2] at hst
      refine lv_aload_n hx hb dL_act_85 rfl (lv_at hl 3 rfl) ?_
      refine va_get (ci := 1) (v := .int (nI pn)) (own := RL) (C := RX1) (T := TX1) (N := 9) hx hb hts wa_in hown hK hP 0 rfl rfl 5 (by decide) (hts _ wa_people) (fun _ h9 => h9) rfl dL_act_86 ?_
      refine lv_bipush (v := nI 20) hx hb dL_act_89 (by decide) ?_
      refine lv_icmp_ne (tgt := 96) hx hb dL_act_91 (by decide) (fun c9 => ?_) (fun c9 => ?_)
      · have h3 : ¬ pn = 20 := fun h => c9 (by rw [h])
        rw [if_neg h3] at hst
        cases hst
        have hmem := (hrow.2.2.1 pn (by omega)).1
        obtain ⟨g0, hg0⟩ := (hrow.2.2.1 pn (by omega)).2
        refine lv_aload_n hx hb dL_act_96 rfl (lv_at hl 3 rfl) ?_
        refine va_get (ci := 1) (v := .ref ap) (own := RL) (C := RX1) (T := TX1) (N := 9) hx hb hts wa_in hown hK hP 0 rfl rfl 7 (by decide) (hts _ wa_person) (fun _ h9 => h9) rfl dL_act_97 ?_
        refine lv_aload_n hx hb dL_act_100 rfl (lv_at hl 3 rfl) ?_
        refine va_get (ci := 1) (v := .int (nI pn)) (own := RL) (C := RX1) (T := TX1) (N := 9) hx hb hts wa_in hown hK hP 0 rfl rfl 5 (by decide) (hts _ wa_people) (fun _ h9 => h9) rfl dL_act_101 ?_
        refine o_ald (ww := [OA cR ao ro, PA cR ap rp]) (q0 := 1) (t0 := 2) (r := rp pn) hx hb hK (o_keep hR hro hS) rfl rfl (show pn < 20 by omega) (by decide) (if_pos (show pn < 20 by omega)) dL_act_104 ?_
        refine lv_iconst (v := nI 0) hx hb dL_act_105 (by decide) ?_
        refine lv_iload_n hx hb dL_act_106 rfl (lv_at hl 4 rfl) ?_
        refine lv_iconst (v := 3) hx hb dL_act_107 (by decide) ?_
        refine lv_ishr hx hb dL_act_108 ?_
        refine lv_bipush (v := nI 8) hx hb dL_act_109 (by decide) ?_
        refine o_st (va_runS (As := [.int (x >>> (3 &&& 31)), .int (nI 8)]) (rest := [.int (nI 0), .ref (rp pn)]) ⟨hx, hb, hml, hown, hts⟩ (c_L_below l G _ (x >>> (3 &&& 31)) 8 (by omega) (by omega)) (va_cwS 2 hts gL_act_L_below rfl rfl rfl (by decide +kernel) ⟨(Nat.le_of_ble_eq_true rfl), (Nat.le_of_ble_eq_true rfl)⟩) ⟨wPre_blind, w_pre (hK.sub [] rfl) w_P0 (w_D0 (A := A))⟩ rfl rfl hl.1 rfl (lv_room (Nat.le_of_ble_eq_true rfl)) dL_act_111 ⟨by dsimp only; omega, by dsimp only; omega⟩) hM hP hS hA (fun r111 u111 H locs hw111 hP hS hM => ?_)
        subst hw111
        have ht9 : onb (x >>> (3 &&& 31)) 8 < 8 := onb_lt (by omega)
        generalize onb (x >>> (3 &&& 31)) 8 = t9 at ht9 ⊢
        rw [o_up_id hg0] at hP hD
        refine o_pst hx hb hK 0 rfl hP hD hS hM hmem (j := 0) (v := nI t9) (by omega) (by decide) dL_act_114 (fun H locs hP hD hS hM => ?_)
        generalize hf1 : va_up f (rp pn) (.inl (cI, (7, .inl (upd g0 0 (nI t9))))) = f1 at hP hD
        refine lv_aload_n hx hb dL_act_115 rfl (lv_at hl 3 rfl) ?_
        refine lv_dup hx hb dL_act_116 rfl ?_
        refine va_get (ci := 1) (v := .int (nI pn)) (own := RL) (C := RX1) (T := TX1) (N := 9) hx hb hts wa_in hown hK hP 0 rfl rfl 5 (by decide) (hts _ wa_people) (fun _ h9 => h9) rfl dL_act_117 ?_
        refine lv_iconst (v := 1) hx hb dL_act_120 (by decide) ?_
        refine lv_iadd hx hb dL_act_121 ?_
        rw [nI_1]
        refine W_up hM (va_put (ci := 1) (v := .int (nI (pn + 1))) (ty := .int) (own := RL) (C := RX1) (T := TX1) (N := 9) hx hb hts wa_in tyX1 tyX1_ok nmX1 hown hK hP hD hS 0 rfl rfl 5 (by decide) (hts _ wa_people) (fun _ h9 => h9) rfl (by decide +kernel) rfl rfl (Nat.le_of_ble_eq_true rfl) dL_act_122 (fun H locs hP hD hS => W_dn (fun hM => ?_)))
        have hP : va_P G vwCl (((SM hs ao ap au (nI (T / 48)) (nI (T % 48)) qn on (pn + 1)) :: (Dk cI cZ hc a F qn on pn 0 nw)) ++ va_pl L f1) H := hP
        have hD : va_D A (((SM hs ao ap au (nI (T / 48)) (nI (T % 48)) qn on (pn + 1)) :: (Dk cI cZ hc a F qn on pn 0 nw)) ++ va_pl L f1) := hD
        refine lv_aload_n hx hb dL_act_125 rfl (lv_at hl 2 rfl) ?_
        refine lv_aload_n hx hb dL_act_126 rfl (lv_at hl 3 rfl) ?_
        refine va_get (ci := 1) (v := .ref ap) (own := RL) (C := RX1) (T := TX1) (N := 9) hx hb hts wa_in hown hK hP 0 rfl rfl 7 (by decide) (hts _ wa_person) (fun _ h9 => h9) rfl dL_act_127 ?_
        refine lv_aload_n hx hb dL_act_130 rfl (lv_at hl 3 rfl) ?_
        refine va_get (ci := 1) (v := .int (nI (pn + 1))) (own := RL) (C := RX1) (T := TX1) (N := 9) hx hb hts wa_in hown hK hP 0 rfl rfl 5 (by decide) (hts _ wa_people) (fun _ h9 => h9) rfl dL_act_131 ?_
        refine lv_iconst (v := 1) hx hb dL_act_134 (by decide) ?_
        refine lv_isub hx hb dL_act_135 ?_
        rw [nI_pred]
        refine o_ald (ww := [OA cR ao ro, PA cR ap rp]) (q0 := 1) (t0 := 2) (r := rp pn) hx hb hK (o_keep hR hro hS) rfl rfl (show pn < 20 by omega) (by decide) (if_pos (show pn < 20 by omega)) dL_act_136 ?_
        refine lv_iconst (v := nI 0) hx hb dL_act_137 (by decide) ?_
        rw [← hf1] at hP hD
        refine o_pld hx hb hK 0 rfl hP hmem (j := 0) (by omega) (by decide) dL_act_138 ?_
        rw [pk_us]
        rw [hf1] at hP hD
        refine o_plw (X := (SM hs ao ap au (nI (T / 48)) (nI (T % 48)) qn on (pn + 1)) :: (Dk cI cZ hc a F qn on pn 0 nw)) (pl := va_pl L f1) (wr := [SM hs ao ap au (nI (T / 48)) (nI (T % 48)) qn on (pn + 1)]) (va_runV (As := [.int (nI t9)]) (rest := []) ⟨hx, hb, hml, hown, hts⟩ (c_X0_addPerson l G cI cZ hc a F qn on pn 0 nw H.size (nI t9) hpn (pin_nI ht9 (by omega)) (by omega)) (cwV 1 hts gL_act_X0_addPerson rfl rfl rfl (by decide +kernel) ⟨(Nat.le_of_ble_eq_true rfl), (Nat.le_of_ble_eq_true rfl)⟩) ⟨wPre_blind, va_recv hK hP (ci := 0) (q0 := 1) rfl rfl, w_preP hK2 hP hD [1, 2, 3, 4, 5, 6, 7, 8, 9, 10, 11, 12] (by decide) rfl rfl⟩ rfl rfl hl.1 rfl (lv_room (Nat.le_of_ble_eq_true rfl)) dL_act_139 ⟨by dsimp only; omega, by dsimp only; omega⟩) hM hP hD hS hA [1, 2, 3, 4, 5, 6, 7, 8, 9, 10, 11, 12] [0] rfl rfl rfl (by decide) (by decide) (fun r139 u139 H locs hw139 hP hD hS hM => ?_)
        have hP : va_P G vwCl (((SM hs ao ap au (nI (T / 48)) (nI (T % 48)) qn on (pn + 1)) :: (Dk cI cZ hc a (n_pe F pn (nI t9)) qn on (pn + 1) 0 nw)) ++ va_pl L f1) H := hP
        have hD : va_D A (((SM hs ao ap au (nI (T / 48)) (nI (T % 48)) qn on (pn + 1)) :: (Dk cI cZ hc a (n_pe F pn (nI t9)) qn on (pn + 1) 0 nw)) ++ va_pl L f1) := hD
        have hrow1 : OR cI ro rp L f1 on := by rw [← hf1]; exact OR_pe (pn := pn) hrow hon (by omega)
        refine lv_aload_n hx hb dL_act_142 rfl (lv_at hl 3 rfl) ?_
        refine va_get (ci := 1) (v := .int (nI (pn + 1))) (own := RL) (C := RX1) (T := TX1) (N := 9) hx hb hts wa_in hown hK hP 0 rfl rfl 5 (by decide) (hts _ wa_people) (fun _ h9 => h9) rfl dL_act_143 ?_
        refine lv_iconst (v := 1) hx hb dL_act_146 (by decide) ?_
        refine lv_isub hx hb dL_act_147 ?_
        refine lv_icmp_ne (tgt := 155) hx hb dL_act_148 (by decide) (fun c8 => ?_) (fun c8 => ?_)
        · refine lv_iconst (v := 0) hx hb dL_act_155 (by decide) ?_
          exact o_zret (w1 := fun u : AC => (((SM hs ao ap au (nI (T / 48)) (nI (T % 48)) qn on (pn + 1)) :: (Dk cI cZ hc a u.1 qn on (pn + 1) 0 u.2.1)) ++ va_pl L u.2.2)) (n_pe F pn (nI t9), nw, f1) hx hb hr hlocks hK hM hP hD hS (Nat.le_of_ble_eq_true rfl) (Nat.le_of_ble_eq_true rfl) dL_act_156 rfl ⟨Or.inl rfl, CI_pe hF (pin_nI ht9 (by omega)), hrow1⟩
        · refine lv_iconst (v := 1) hx hb dL_act_151 (by decide) ?_
          refine lv_goto (tgt := 156) hx hb dL_act_152 (by decide) ?_
          exact o_zret (w1 := fun u : AC => (((SM hs ao ap au (nI (T / 48)) (nI (T % 48)) qn on (pn + 1)) :: (Dk cI cZ hc a u.1 qn on (pn + 1) 0 u.2.1)) ++ va_pl L u.2.2)) (n_pe F pn (nI t9), nw, f1) hx hb hr hlocks hK hM hP hD hS (Nat.le_of_ble_eq_true rfl) (Nat.le_of_ble_eq_true rfl) dL_act_156 rfl ⟨Or.inr rfl, CI_pe hF (pin_nI ht9 (by omega)), hrow1⟩
      · have h3 : pn = 20 := (nI_eq (by omega) (by omega)).mp c9
        rw [if_pos h3] at hst
        cases hst
        refine lv_iconst (v := 1) hx hb dL_act_94 (by decide) ?_
        exact o_zret (w1 := fun u : AC => (((SM hs ao ap au (nI (T / 48)) (nI (T % 48)) qn on pn) :: (Dk cI cZ hc a u.1 qn on pn 0 u.2.1)) ++ va_pl L u.2.2)) (F, nw, f) hx hb hr hlocks hK hM hP hD hS (Nat.le_of_ble_eq_true rfl) (Nat.le_of_ble_eq_true rfl) dL_act_95 rfl ⟨Or.inr rfl, hF, hrow⟩
    have b157 : ¬ (o_sort x < 4 ∨ pn = 0) → W pg l e ({ frames := 6, cells := 8200, slots := 162000, locals := 137 } : Room) s m ([.ref hc, .ref hs, .int x] : List Value).toArray below meth cd H locs (0 + 0 + 0) (0 + 0 + 0) (MQ below (va_Qi (fun (r : Int32) (u : AC) => (r = 0 ∨ r = 1) ∧ CI u.1 pn1 ∧ OR cI ro rp L u.2.2 on1) (fun u => oB G (ty3 cI cZ cR) (((SM hs ao ap au (nI (T1 / 48)) (nI (T1 % 48)) qn1 on1 pn1) :: (Dk cI cZ hc a u.1 qn1 on1 pn1 0 u.2.1)) ++ va_pl L u.2.2) A (K + dl)) A) ([.ref hc, .ref hs, .int x] : List Value).toArray s 8200 162000 A) (F0 m 157 ls []) := by
      intro h2
      rw [if_neg h2] at hst
      refine lv_iload_n hx hb dL_act_157 rfl (lv_at hl 4 rfl) ?_
      refine lv_iconst (v := 4) hx hb dL_act_158 (by decide) ?_
      refine lv_ishr hx hb dL_act_159 ?_
      refine lv_aload_n hx hb dL_act_160 rfl (lv_at hl 3 rfl) ?_
      refine va_get (ci := 1) (v := .int (nI pn)) (own := RL) (C := RX1) (T := TX1) (N := 9) hx hb hts wa_in hown hK hP 0 rfl rfl 5 (by decide) (hts _ wa_people) (fun _ h9 => h9) rfl dL_act_161 ?_
      refine o_st (va_runS (As := [.int (x >>> (4 &&& 31)), .int (nI pn)]) (rest := []) ⟨hx, hb, hml, hown, hts⟩ (c_L_below l G _ (x >>> (4 &&& 31)) pn (by omega) (by omega)) (va_cwS 2 hts gL_act_L_below rfl rfl rfl (by decide +kernel) ⟨(Nat.le_of_ble_eq_true rfl), (Nat.le_of_ble_eq_true rfl)⟩) ⟨wPre_blind, w_pre (hK.sub [] rfl) w_P0 (w_D0 (A := A))⟩ rfl rfl hl.1 rfl (lv_room (Nat.le_of_ble_eq_true rfl)) dL_act_164 ⟨by dsimp only; omega, by dsimp only; omega⟩) hM hP hS hA (fun r164 u164 H locs hw164 hP hS hM => ?_)
      subst hw164
      generalize onb (x >>> (4 &&& 31)) pn = p9
      refine lv_istore (lv' := [(5, .int (nI p9)), (4, .int (nI q9)), (3, .int (nI (o_sort x))), (0, .ref hc), (1, .ref hs), (2, .int x)]) hx hb dL_act_167 hl (by decide) rfl (fun ls hl => ?_)
      refine lv_iload_n hx hb dL_act_169 rfl (lv_at hl 5 rfl) ?_
      refine lv_bipush (v := 6) hx hb dL_act_170 (by decide) ?_
      refine lv_ishr hx hb dL_act_172 ?_
      refine lv_iconst (v := nI 4) hx hb dL_act_173 (by decide) ?_
      refine o_st (va_runS (As := [.int (x >>> (6 &&& 31)), .int (nI 4)]) (rest := []) ⟨hx, hb, hml, hown, hts⟩ (c_L_below l G _ (x >>> (6 &&& 31)) 4 (by omega) (by omega)) (va_cwS 2 hts gL_act_L_below rfl rfl rfl (by decide +kernel) ⟨(Nat.le_of_ble_eq_true rfl), (Nat.le_of_ble_eq_true rfl)⟩) ⟨wPre_blind, w_pre (hK.sub [] rfl) w_P0 (w_D0 (A := A))⟩ rfl rfl hl.1 rfl (lv_room (Nat.le_of_ble_eq_true rfl)) dL_act_174 ⟨by dsimp only; omega, by dsimp only; omega⟩) hM hP hS hA (fun r174 u174 H locs hw174 hP hS hM => ?_)
      subst hw174
      have hc9 : onb (x >>> (6 &&& 31)) 4 < 4 := onb_lt (by omega)
      generalize onb (x >>> (6 &&& 31)) 4 = k9 at hc9 ⊢
      refine lv_istore (lv' := [(6, .int (nI k9)), (5, .int (nI p9)), (4, .int (nI q9)), (3, .int (nI (o_sort x))), (0, .ref hc), (1, .ref hs), (2, .int x)]) hx hb dL_act_177 hl (by decide) rfl (fun ls hl => ?_)
      have b192 : (o_sort x < 7 ∨ on = 0) → W pg l e ({ frames := 6, cells := 8200, slots := 162000, locals := 137 } : Room) s m ([.ref hc, .ref hs, .int x] : List Value).toArray below meth cd H locs (0 + 0 + 0 + 0 + 0) (0 + 0 + 0 + 0 + 0) (MQ below (va_Qi (fun (r : Int32) (u : AC) => (r = 0 ∨ r = 1) ∧ CI u.1 pn1 ∧ OR cI ro rp L u.2.2 on1) (fun u => oB G (ty3 cI cZ cR) (((SM hs ao ap au (nI (T1 / 48)) (nI (T1 % 48)) qn1 on1 pn1) :: (Dk cI cZ hc a u.1 qn1 on1 pn1 0 u.2.1)) ++ va_pl L u.2.2) A (K + dl)) A) ([.ref hc, .ref hs, .int x] : List Value).toArray s 8200 162000 A) (F0 m 192 ls []) := by
        intro h4
        rw [if_pos h4] at hst
        refine lv_aload_n hx hb dL_act_192 rfl (lv_at hl 5 rfl) ?_
        refine va_get (ci := 1) (v := .int (nI on)) (own := RL) (C := RX1) (T := TX1) (N := 9) hx hb hts wa_in hown hK hP 0 rfl rfl 4 (by decide) (hts _ wa_orders) (fun _ h9 => h9) rfl dL_act_193 ?_
        refine lv_bipush (v := nI 10) hx hb dL_act_196 (by decide) ?_
        refine lv_icmp_ne (tgt := 203) hx hb dL_act_198 (by decide) (fun c9 => ?_) (fun c9 => ?_)
        · have h3 : ¬ on = 10 := fun h => c9 (by rw [h])
          rw [if_neg h3] at hst
          cases hst
          have hmem := (hrow.2.1 on (by omega)).1
          obtain ⟨g0, hg0⟩ := (hrow.2.1 on (by omega)).2
          refine lv_aload_n hx hb dL_act_203 rfl (lv_at hl 5 rfl) ?_
          refine va_get (ci := 1) (v := .ref ao) (own := RL) (C := RX1) (T := TX1) (N := 9) hx hb hts wa_in hown hK hP 0 rfl rfl 6 (by decide) (hts _ wa_order) (fun _ h9 => h9) rfl dL_act_204 ?_
          refine lv_aload_n hx hb dL_act_207 rfl (lv_at hl 5 rfl) ?_
          refine va_get (ci := 1) (v := .int (nI on)) (own := RL) (C := RX1) (T := TX1) (N := 9) hx hb hts wa_in hown hK hP 0 rfl rfl 4 (by decide) (hts _ wa_orders) (fun _ h9 => h9) rfl dL_act_208 ?_
          refine o_ald (ww := [OA cR ao ro, PA cR ap rp]) (q0 := 0) (t0 := 2) (r := ro on) hx hb hK (o_keep hR hro hS) rfl rfl (show on < 10 by omega) (by decide) (if_pos (show on < 10 by omega)) dL_act_211 ?_
          refine lv_astore (lv' := [(7, .ref (ro on)), (6, .int (nI k9)), (5, .int (nI p9)), (4, .int (nI q9)), (3, .int (nI (o_sort x))), (0, .ref hc), (1, .ref hs), (2, .int x)]) hx hb dL_act_212 hl (by decide) rfl (fun ls hl => ?_)
          rw [o_up_id hg0] at hP hD
          refine lv_aload hx hb dL_act_214 (lv_at hl 0 rfl) ?_
          refine lv_iconst (v := nI 0) hx hb dL_act_216 (by decide) ?_
          refine lv_iload hx hb dL_act_217 (lv_at hl 3 rfl) ?_
          refine o_pst hx hb hK 0 rfl hP hD hS hM hmem (j := 0) (v := nI q9) (by omega) (by decide) dL_act_219 (fun H locs hP hD hS hM => ?_)
          refine lv_aload hx hb dL_act_220 (lv_at hl 0 rfl) ?_
          refine lv_iconst (v := nI 1) hx hb dL_act_222 (by decide) ?_
          refine lv_iload_n hx hb dL_act_223 rfl (lv_at hl 7 rfl) ?_
          refine lv_iconst (v := 2) hx hb dL_act_224 (by decide) ?_
          refine lv_ishr hx hb dL_act_225 ?_
          refine lv_iconst (v := nI 5) hx hb dL_act_226 (by decide) ?_
          refine o_st (va_runS (As := [.int (x >>> (2 &&& 31)), .int (nI 5)]) (rest := [.int (nI 1), .ref (ro on)]) ⟨hx, hb, hml, hown, hts⟩ (c_L_below l G _ (x >>> (2 &&& 31)) 5 (by omega) (by omega)) (va_cwS 2 hts gL_act_L_below rfl rfl rfl (by decide +kernel) ⟨(Nat.le_of_ble_eq_true rfl), (Nat.le_of_ble_eq_true rfl)⟩) ⟨wPre_blind, w_pre (hK.sub [] rfl) w_P0 (w_D0 (A := A))⟩ rfl rfl hl.1 rfl (lv_room (Nat.le_of_ble_eq_true rfl)) dL_act_227 ⟨by dsimp only; omega, by dsimp only; omega⟩) hM hP hS hA (fun r227 u227 H locs hw227 hP hS hM => ?_)
          subst hw227
          have ha9 : onb (x >>> (2 &&& 31)) 5 < 5 := onb_lt (by omega)
          generalize onb (x >>> (2 &&& 31)) 5 = a9 at ha9 ⊢
          refine o_pst hx hb hK 0 rfl hP hD hS hM hmem (j := 1) (v := nI a9) (by omega) (by decide) dL_act_230 (fun H locs hP hD hS hM => ?_)
          refine lv_aload hx hb dL_act_231 (lv_at hl 0 rfl) ?_
          refine lv_iconst (v := nI 2) hx hb dL_act_233 (by decide) ?_
          refine lv_iload_n hx hb dL_act_234 rfl (lv_at hl 7 rfl) ?_
          refine lv_iconst (v := 5) hx hb dL_act_235 (by decide) ?_
          refine lv_ishr hx hb dL_act_236 ?_
          refine lv_iconst (v := nI 5) hx hb dL_act_237 (by decide) ?_
          refine o_st (va_runS (As := [.int (x >>> (5 &&& 31)), .int (nI 5)]) (rest := [.int (nI 2), .ref (ro on)]) ⟨hx, hb, hml, hown, hts⟩ (c_L_below l G _ (x >>> (5 &&& 31)) 5 (by omega) (by omega)) (va_cwS 2 hts gL_act_L_below rfl rfl rfl (by decide +kernel) ⟨(Nat.le_of_ble_eq_true rfl), (Nat.le_of_ble_eq_true rfl)⟩) ⟨wPre_blind, w_pre (hK.sub [] rfl) w_P0 (w_D0 (A := A))⟩ rfl rfl hl.1 rfl (lv_room (Nat.le_of_ble_eq_true rfl)) dL_act_238 ⟨by dsimp only; omega, by dsimp only; omega⟩) hM hP hS hA (fun r238 u238 H locs hw238 hP hS hM => ?_)
          subst hw238
          have hb9 : onb (x >>> (5 &&& 31)) 5 < 5 := onb_lt (by omega)
          generalize onb (x >>> (5 &&& 31)) 5 = b9 at hb9 ⊢
          refine o_pst hx hb hK 0 rfl hP hD hS hM hmem (j := 2) (v := nI b9) (by omega) (by decide) dL_act_241 (fun H locs hP hD hS hM => ?_)
          refine lv_aload hx hb dL_act_242 (lv_at hl 0 rfl) ?_
          refine lv_iconst (v := nI 3) hx hb dL_act_244 (by decide) ?_
          refine lv_iload hx hb dL_act_245 (lv_at hl 1 rfl) ?_
          refine o_pst hx hb hK 0 rfl hP hD hS hM hmem (j := 3) (v := nI k9) (by omega) (by decide) dL_act_247 (fun H locs hP hD hS hM => ?_)
          refine lv_aload hx hb dL_act_248 (lv_at hl 0 rfl) ?_
          refine lv_iconst (v := nI 4) hx hb dL_act_250 (by decide) ?_
          refine lv_iconst (v := 1) hx hb dL_act_251 (by decide) ?_
          refine o_pst hx hb hK 0 rfl hP hD hS hM hmem (j := 4) (v := 1) (by omega) (by decide) dL_act_252 (fun H locs hP hD hS hM => ?_)
          generalize hge : upd (upd (upd (upd (upd g0 0 (nI q9)) 1 (nI a9)) 2 (nI b9)) 3 (nI k9)) 4 1 = g5 at hP hD
          have e1 : g5 1 = nI a9 := by rw [← hge]; rfl
          have e2 : g5 2 = nI b9 := by rw [← hge]; rfl
          have e4 : g5 4 = 1 := by rw [← hge]; rfl
          refine lv_aload_n hx hb dL_act_253 rfl (lv_at hl 6 rfl) ?_
          refine lv_dup hx hb dL_act_254 rfl ?_
          refine va_get (ci := 1) (v := .int (nI on)) (own := RL) (C := RX1) (T := TX1) (N := 9) hx hb hts wa_in hown hK hP 0 rfl rfl 4 (by decide) (hts _ wa_orders) (fun _ h9 => h9) rfl dL_act_255 ?_
          refine lv_iconst (v := 1) hx hb dL_act_258 (by decide) ?_
          refine lv_iadd hx hb dL_act_259 ?_
          rw [nI_1]
          refine W_up hM (va_put (ci := 1) (v := .int (nI (on + 1))) (ty := .int) (own := RL) (C := RX1) (T := TX1) (N := 9) hx hb hts wa_in tyX1 tyX1_ok nmX1 hown hK hP hD hS 0 rfl rfl 4 (by decide) (hts _ wa_orders) (fun _ h9 => h9) rfl (by decide +kernel) rfl rfl (Nat.le_of_ble_eq_true rfl) dL_act_260 (fun H locs hP hD hS => W_dn (fun hM => ?_)))
          have hP : va_P G vwCl (((SM hs ao ap au (nI (T / 48)) (nI (T % 48)) qn (on + 1) pn) :: (Dk cI cZ hc a F qn on pn 0 nw)) ++ va_pl L (va_up f (ro on) (.inl (cI, (13, .inl g5))))) H := hP
          have hD : va_D A (((SM hs ao ap au (nI (T / 48)) (nI (T % 48)) qn (on + 1) pn) :: (Dk cI cZ hc a F qn on pn 0 nw)) ++ va_pl L (va_up f (ro on) (.inl (cI, (13, .inl g5))))) := hD
          refine lv_aload_n hx hb dL_act_263 rfl (lv_at hl 5 rfl) ?_
          refine lv_iload hx hb dL_act_264 (lv_at hl 3 rfl) ?_
          refine lv_aload hx hb dL_act_266 (lv_at hl 0 rfl) ?_
          refine lv_iconst (v := nI 1) hx hb dL_act_268 (by decide) ?_
          refine o_pld hx hb hK 0 rfl hP hmem (j := 1) (by omega) (by decide) dL_act_269 ?_
          rw [e1]
          refine lv_aload hx hb dL_act_270 (lv_at hl 0 rfl) ?_
          refine lv_iconst (v := nI 2) hx hb dL_act_272 (by decide) ?_
          refine o_pld hx hb hK 0 rfl hP hmem (j := 2) (by omega) (by decide) dL_act_273 ?_
          rw [e2]
          refine lv_iload hx hb dL_act_274 (lv_at hl 1 rfl) ?_
          refine o_plw (X := (SM hs ao ap au (nI (T / 48)) (nI (T % 48)) qn (on + 1) pn) :: (Dk cI cZ hc a F qn on pn 0 nw)) (pl := va_pl L (va_up f (ro on) (.inl (cI, (13, .inl g5))))) (wr := [SM hs ao ap au (nI (T / 48)) (nI (T % 48)) qn (on + 1) pn]) (va_runV (As := [.int (nI q9), .int (nI a9), .int (nI b9), .int (nI k9)]) (rest := []) ⟨hx, hb, hml, hown, hts⟩ (c_X0_addOrder l G cI cZ hc a F qn on pn 0 nw H.size (nI q9) (nI a9) (nI b9) (nI k9) hqn hon (pin_nI hq9 (by omega)) (pin_nI hc9 (by omega)) (o_pwi4 (by omega)) (o_pwi4 (by omega)) (by omega)) (cwV 4 hts gL_act_X0_addOrder rfl rfl rfl (by decide +kernel) ⟨(Nat.le_of_ble_eq_true rfl), (Nat.le_of_ble_eq_true rfl)⟩) ⟨wPre_blind, va_recv hK hP (ci := 0) (q0 := 1) rfl rfl, w_preP hK2 hP hD [1, 2, 3, 4, 5, 6, 7, 8, 9, 10, 11, 12] (by decide) rfl rfl⟩ rfl rfl hl.1 rfl (lv_room (Nat.le_of_ble_eq_true rfl)) dL_act_276 ⟨by dsimp only; omega, by dsimp only; omega⟩) hM hP hD hS hA [1, 2, 3, 4, 5, 6, 7, 8, 9, 10, 11, 12] [0] rfl rfl rfl (by decide) (by decide) (fun r276 u276 H locs hw276 hP hD hS hM => ?_)
          have hP : va_P G vwCl (((SM hs ao ap au (nI (T / 48)) (nI (T % 48)) qn (on + 1) pn) :: (Dk cI cZ hc a (n_or F on (nI q9) (nI a9) (nI b9) (nI k9)) qn (on + 1) pn 0 nw)) ++ va_pl L (va_up f (ro on) (.inl (cI, (13, .inl g5))))) H := hP
          have hD : va_D A (((SM hs ao ap au (nI (T / 48)) (nI (T % 48)) qn (on + 1) pn) :: (Dk cI cZ hc a (n_or F on (nI q9) (nI a9) (nI b9) (nI k9)) qn (on + 1) pn 0 nw)) ++ va_pl L (va_up f (ro on) (.inl (cI, (13, .inl g5))))) := hD
          refine lv_aload_n hx hb dL_act_279 rfl (lv_at hl 6 rfl) ?_
          refine va_get (ci := 1) (v := .int (nI (on + 1))) (own := RL) (C := RX1) (T := TX1) (N := 9) hx hb hts wa_in hown hK hP 0 rfl rfl 4 (by decide) (hts _ wa_orders) (fun _ h9 => h9) rfl dL_act_280 ?_
          refine lv_iconst (v := 1) hx hb dL_act_283 (by decide) ?_
          refine lv_isub hx hb dL_act_284 ?_
          refine lv_icmp_ne (tgt := 292) hx hb dL_act_285 (by decide) (fun c8 => ?_) (fun c8 => ?_)
          · refine lv_iconst (v := 0) hx hb dL_act_292 (by decide) ?_
            exact o_zret (w1 := fun u : AC => (((SM hs ao ap au (nI (T / 48)) (nI (T % 48)) qn (on + 1) pn) :: (Dk cI cZ hc a u.1 qn (on + 1) pn 0 u.2.1)) ++ va_pl L u.2.2)) (n_or F on (nI q9) (nI a9) (nI b9) (nI k9), nw, va_up f (ro on) (.inl (cI, (13, .inl g5)))) hx hb hr hlocks hK hM hP hD hS (Nat.le_of_ble_eq_true rfl) (Nat.le_of_ble_eq_true rfl) dL_act_293 rfl ⟨Or.inl rfl, CI_or hF, OR_or hrow (by omega) e1 (by omega) e4⟩
          · refine lv_iconst (v := 1) hx hb dL_act_288 (by decide) ?_
            refine lv_goto (tgt := 293) hx hb dL_act_289 (by decide) ?_
            exact o_zret (w1 := fun u : AC => (((SM hs ao ap au (nI (T / 48)) (nI (T % 48)) qn (on + 1) pn) :: (Dk cI cZ hc a u.1 qn (on + 1) pn 0 u.2.1)) ++ va_pl L u.2.2)) (n_or F on (nI q9) (nI a9) (nI b9) (nI k9), nw, va_up f (ro on) (.inl (cI, (13, .inl g5)))) hx hb hr hlocks hK hM hP hD hS (Nat.le_of_ble_eq_true rfl) (Nat.le_of_ble_eq_true rfl) dL_act_293 rfl ⟨Or.inr rfl, CI_or hF, OR_or hrow (by omega) e1 (by omega) e4⟩
        · have h3 : on = 10 := (nI_eq (by omega) (by omega)).mp c9
          rw [if_pos h3] at hst
          cases hst
          refine lv_iconst (v := 1) hx hb dL_act_201 (by decide) ?_
          exact o_zret (w1 := fun u : AC => (((SM hs ao ap au (nI (T / 48)) (nI (T % 48)) qn on pn) :: (Dk cI cZ hc a u.1 qn on pn 0 u.2.1)) ++ va_pl L u.2.2)) (F, nw, f) hx hb hr hlocks hK hM hP hD hS (Nat.le_of_ble_eq_true rfl) (Nat.le_of_ble_eq_true rfl) dL_act_202 rfl ⟨Or.inr rfl, hF, hrow⟩
      have b294 : ¬ (o_sort x < 7 ∨ on = 0) → W pg l e ({ frames := 6, cells := 8200, slots := 162000, locals := 137 } : Room) s m ([.ref hc, .ref hs, .int x] : List Value).toArray below meth cd H locs (0 + 0 + 0 + 0 + 0) (0 + 0 + 0 + 0 + 0) (MQ below (va_Qi (fun (r : Int32) (u : AC) => (r = 0 ∨ r = 1) ∧ CI u.1 pn1 ∧ OR cI ro rp L u.2.2 on1) (fun u => oB G (ty3 cI cZ cR) (((SM hs ao ap au (nI (T1 / 48)) (nI (T1 % 48)) qn1 on1 pn1) :: (Dk cI cZ hc a u.1 qn1 on1 pn1 0 u.2.1)) ++ va_pl L u.2.2) A (K + dl)) A) ([.ref hc, .ref hs, .int x] : List Value).toArray s 8200 162000 A) (F0 m 294 ls []) := by
        intro h4
        rw [if_neg h4] at hst
        have h18 : 18 ≤ o_sort x := by
          by_cases h : 18 ≤ o_sort x
          · exact h
          · rw [if_neg h] at hst; cases hst
        rw [if_pos h18] at hst
        cases hst
        refine lv_iload_n hx hb dL_act_294 rfl (lv_at hl 6 rfl) ?_
        refine lv_iconst (v := 2) hx hb dL_act_295 (by decide) ?_
        refine lv_ishr hx hb dL_act_296 ?_
        refine lv_aload_n hx hb dL_act_297 rfl (lv_at hl 5 rfl) ?_
        refine va_get (ci := 1) (v := .int (nI on)) (own := RL) (C := RX1) (T := TX1) (N := 9) hx hb hts wa_in hown hK hP 0 rfl rfl 4 (by decide) (hts _ wa_orders) (fun _ h9 => h9) rfl dL_act_298 ?_
        refine o_st (va_runS (As := [.int (x >>> (2 &&& 31)), .int (nI on)]) (rest := []) ⟨hx, hb, hml, hown, hts⟩ (c_L_below l G _ (x >>> (2 &&& 31)) on (by omega) (by omega)) (va_cwS 2 hts gL_act_L_below rfl rfl rfl (by decide +kernel) ⟨(Nat.le_of_ble_eq_true rfl), (Nat.le_of_ble_eq_true rfl)⟩) ⟨wPre_blind, w_pre (hK.sub [] rfl) w_P0 (w_D0 (A := A))⟩ rfl rfl hl.1 rfl (lv_room (Nat.le_of_ble_eq_true rfl)) dL_act_301 ⟨by dsimp only; omega, by dsimp only; omega⟩) hM hP hS hA (fun r301 u301 H locs hw301 hP hS hM => ?_)
        subst hw301
        generalize onb (x >>> (2 &&& 31)) on = o9
        refine lv_istore (lv' := [(7, .int (nI o9)), (6, .int (nI k9)), (5, .int (nI p9)), (4, .int (nI q9)), (3, .int (nI (o_sort x))), (0, .ref hc), (1, .ref hs), (2, .int x)]) hx hb dL_act_304 hl (by decide) rfl (fun ls hl => ?_)
        refine lv_iload_n hx hb dL_act_306 rfl (lv_at hl 4 rfl) ?_
        refine lv_tableOut (tgt := 834) hx hb dL_act_307 (Or.inr (by rw [nI_toInt (by omega)]; omega)) (by decide) ?_
        have hl := lv_sub hl (l' := [(0, .ref hc), (1, .ref hs), (2, .int x)]) [5, 6, 7] rfl
        refine lv_iconst (v := 1) hx hb dL_act_834 (by decide) ?_
        refine lv_iload_n hx hb dL_act_835 rfl (lv_at hl 2 rfl) ?_
        refine lv_iconst (v := 2) hx hb dL_act_836 (by decide) ?_
        refine lv_ishr hx hb dL_act_837 ?_
        refine lv_iload_n hx hb dL_act_838 rfl (lv_at hl 2 rfl) ?_
        refine lv_iconst (v := nI 5) hx hb dL_act_839 (by decide) ?_
        refine o_st (va_runS (As := [.int (x), .int (nI 5)]) (rest := [.int (x >>> (2 &&& 31)), .int 1]) ⟨hx, hb, hml, hown, hts⟩ (c_L_below l G _ (x) 5 (by omega) (by omega)) (va_cwS 2 hts gL_act_L_below rfl rfl rfl (by decide +kernel) ⟨(Nat.le_of_ble_eq_true rfl), (Nat.le_of_ble_eq_true rfl)⟩) ⟨wPre_blind, w_pre (hK.sub [] rfl) w_P0 (w_D0 (A := A))⟩ rfl rfl hl.1 rfl (lv_room (Nat.le_of_ble_eq_true rfl)) dL_act_840 ⟨by dsimp only; omega, by dsimp only; omega⟩) hM hP hS hA (fun r840 u840 H locs hw840 hP hS hM => ?_)
        subst hw840
        have b854 : W pg l e ({ frames := 6, cells := 8200, slots := 162000, locals := 137 } : Room) s m ([.ref hc, .ref hs, .int x] : List Value).toArray below meth cd H locs (0 + 0 + 0 + 0 + 0 + 0 + 0) (0 + 0 + 0 + 0 + 0 + 0 + 0) (MQ below (va_Qi (fun (r : Int32) (u : AC) => (r = 0 ∨ r = 1) ∧ CI u.1 pn ∧ OR cI ro rp L u.2.2 on) (fun u => oB G (ty3 cI cZ cR) (((SM hs ao ap au (nI ((T + o_hv x) / 48)) (nI ((T + o_hv x) % 48)) qn on pn) :: (Dk cI cZ hc a u.1 qn on pn 0 u.2.1)) ++ va_pl L u.2.2) A (K + o_gs on T (o_hv x))) A) ([.ref hc, .ref hs, .int x] : List Value).toArray s 8200 162000 A) (F0 m 854 ls [.int (nI (o_hn x)), .int (x >>> (2 &&& 31)), .int 1]) := by
          have hhn : 0 < o_hn x ∧ o_hn x ≤ 200 := by unfold o_hn; split <;> omega
          refine o_st (va_runS (As := [.int (x >>> (2 &&& 31)), .int (nI (o_hn x))]) (rest := [.int 1]) ⟨hx, hb, hml, hown, hts⟩ (c_L_below l G _ (x >>> (2 &&& 31)) (o_hn x) hhn.1 (by omega)) (va_cwS 2 hts gL_act_L_below rfl rfl rfl (by decide +kernel) ⟨(Nat.le_of_ble_eq_true rfl), (Nat.le_of_ble_eq_true rfl)⟩) ⟨wPre_blind, w_pre (hK.sub [] rfl) w_P0 (w_D0 (A := A))⟩ rfl rfl hl.1 rfl (lv_room (Nat.le_of_ble_eq_true rfl)) dL_act_854 ⟨by dsimp only; omega, by dsimp only; omega⟩) hM hP hS hA (fun r854 u854 H locs hw854 hP hS hM => ?_)
          subst hw854
          refine lv_iadd hx hb dL_act_857 ?_
          rw [show (1 : Int32) + nI (onb (x >>> (2 &&& 31)) (o_hn x)) = nI (o_hv x) from nI_add 1 _]
          obtain ⟨hh1, hh2⟩ := o_hv_le x
          generalize o_hv x = hh at hh1 hh2 ⊢
          refine lv_istore (lv' := [(13, .int (nI hh)), (0, .ref hc), (1, .ref hs), (2, .int x)]) hx hb dL_act_858 hl (by decide) rfl (fun ls hl => ?_)
          refine lv_iconst (v := 0) hx hb dL_act_860 (by decide) ?_
          refine lv_istore (lv' := [(14, .int 0), (13, .int (nI hh)), (0, .ref hc), (1, .ref hs), (2, .int x)]) hx hb dL_act_861 hl (by decide) rfl (fun ls hl => ?_)
          refine lv_iconst (v := 0) hx hb dL_act_863 (by decide) ?_
          refine lv_istore (lv' := [(15, .int 0), (14, .int 0), (13, .int (nI hh)), (0, .ref hc), (1, .ref hs), (2, .int x)]) hx hb dL_act_864 hl (by decide) rfl (fun ls hl => ?_)
          have key : ∀ (n i : Nat), i ≤ hh → hh < i + n → ∀ (y : Int32) (H : Heap) (locs : List Loc), va_P G vwCl (((SM hs ao ap au (nI ((T + i) / 48)) (nI ((T + i) % 48)) qn on pn) :: (Dk cI cZ hc a F qn on pn 0 nw)) ++ va_pl L f) H → va_D A (((SM hs ao ap au (nI ((T + i) / 48)) (nI ((T + i) % 48)) qn on pn) :: (Dk cI cZ hc a F qn on pn 0 nw)) ++ va_pl L f) → va_S A s.heap H locs → K + o_gs on T i ≤ slotSum H → ∀ ls : Array Slot, lv_has ls 16 [(15, .int (nI i)), (14, .int y), (13, .int (nI hh)), (0, .ref hc), (1, .ref hs), (2, .int x)] → W pg l e ({ frames := 6, cells := 8200, slots := 162000, locals := 137 } : Room) s m ([.ref hc, .ref hs, .int x] : List Value).toArray below meth cd H locs (41 * i) (810 * i) (MQ below (va_Qi (fun (r : Int32) (u : AC) => (r = 0 ∨ r = 1) ∧ CI u.1 pn ∧ OR cI ro rp L u.2.2 on) (fun u => oB G (ty3 cI cZ cR) (((SM hs ao ap au (nI ((T + hh) / 48)) (nI ((T + hh) % 48)) qn on pn) :: (Dk cI cZ hc a u.1 qn on pn 0 u.2.1)) ++ va_pl L u.2.2) A (K + o_gs on T hh)) A) ([.ref hc, .ref hs, .int x] : List Value).toArray s 8200 162000 A) (F0 m 866 ls []) := by
            intro n
            induction n with
            | zero => intro i h1 h2; exact absurd h2 (by omega)
            | succ n ih =>
              intro i hi hn y H locs hP hD hS hM ls hl
              refine lv_iload hx hb dL_act_866 (lv_at hl 0 rfl) ?_
              refine lv_iload hx hb dL_act_868 (lv_at hl 2 rfl) ?_
              refine lv_icmp_ge (tgt := 888) hx hb dL_act_870 (by decide) (fun c9 => ?_) (fun c9 => ?_)
              · have h9 : hh ≤ i := (nI_leI (by omega) (by omega)).mp c9
                have ei : hh = i := by omega
                subst ei
                refine lv_aload_n hx hb dL_act_888 rfl (lv_at hl 3 rfl) ?_
                refine lv_iload hx hb dL_act_889 (lv_at hl 2 rfl) ?_
                refine o_plw (X := (SM hs ao ap au (nI ((T + hh) / 48)) (nI ((T + hh) % 48)) qn on pn) :: (Dk cI cZ hc a F qn on pn 0 nw)) (pl := va_pl L f) (wr := [SM hs ao ap au (nI ((T + hh) / 48)) (nI ((T + hh) % 48)) qn on pn]) (va_runV (As := [.int (nI hh)]) (rest := []) ⟨hx, hb, hml, hown, hts⟩ (c_X0_pass l G cI cZ hc a F qn on pn 0 nw H.size (nI hh) hon (o_pwi (a := 1) (n := 200) (by omega) (by omega))) (cwV 1 hts gL_act_X0_pass rfl rfl rfl (by decide +kernel) ⟨(Nat.le_of_ble_eq_true rfl), (Nat.le_of_ble_eq_true rfl)⟩) ⟨wPre_blind, va_recv hK hP (ci := 0) (q0 := 1) rfl rfl, w_preP hK2 hP hD [1, 2, 3, 4, 5, 6, 7, 8, 9, 10, 11, 12] (by decide) rfl rfl⟩ rfl rfl hl.1 rfl (lv_room (Nat.le_of_ble_eq_true rfl)) dL_act_891 ⟨by dsimp only; omega, by dsimp only; omega⟩) hM hP hD hS hA [1, 2, 3, 4, 5, 6, 7, 8, 9, 10, 11, 12] [0] rfl rfl rfl (by decide) (by decide) (fun r891 u891 H locs hw891 hP hD hS hM => ?_)
                have hP : va_P G vwCl (((SM hs ao ap au (nI ((T + hh) / 48)) (nI ((T + hh) % 48)) qn on pn) :: (Dk cI cZ hc a F qn on pn 0 (nw + nI hh))) ++ va_pl L f) H := hP
                have hD : va_D A (((SM hs ao ap au (nI ((T + hh) / 48)) (nI ((T + hh) % 48)) qn on pn) :: (Dk cI cZ hc a F qn on pn 0 (nw + nI hh))) ++ va_pl L f) := hD
                refine lv_iload hx hb dL_act_894 (lv_at hl 1 rfl) ?_
                refine lv_icmp_ne (tgt := 903) hx hb dL_act_896 (by decide) (fun c8 => ?_) (fun c8 => ?_)
                · refine lv_iconst (v := 0) hx hb dL_act_903 (by decide) ?_
                  exact o_zret (w1 := fun u : AC => (((SM hs ao ap au (nI ((T + hh) / 48)) (nI ((T + hh) % 48)) qn on pn) :: (Dk cI cZ hc a u.1 qn on pn 0 u.2.1)) ++ va_pl L u.2.2)) (F, nw + nI hh, f) hx hb hr hlocks hK hM hP hD hS (by omega) (by omega) dL_act_904 rfl ⟨Or.inl rfl, hF, hrow⟩
                · refine lv_iconst (v := 1) hx hb dL_act_899 (by decide) ?_
                  refine lv_goto (tgt := 904) hx hb dL_act_900 (by decide) ?_
                  exact o_zret (w1 := fun u : AC => (((SM hs ao ap au (nI ((T + hh) / 48)) (nI ((T + hh) % 48)) qn on pn) :: (Dk cI cZ hc a u.1 qn on pn 0 u.2.1)) ++ va_pl L u.2.2)) (F, nw + nI hh, f) hx hb hr hlocks hK hM hP hD hS (by omega) (by omega) dL_act_904 rfl ⟨Or.inr rfl, hF, hrow⟩
              · have h9 : i < hh := o_ge c9 (by omega) (by omega)
                refine lv_iload hx hb dL_act_873 (lv_at hl 1 rfl) ?_
                refine lv_aload_n hx hb dL_act_875 rfl (lv_at hl 4 rfl) ?_
                have hR9 : va_P G vwCl ([OA cR ao ro] ++ va_pl L f) H := ((o_keep hR hro hS).sub [0] rfl).app (hP.part (cx := []) [] rfl)
                refine o_pl (X := (SM hs ao ap au (nI ((T + i) / 48)) (nI ((T + i) % 48)) qn on pn) :: (Dk cI cZ hc a F qn on pn 0 nw)) (pl := va_pl L f) (wr := Dk cI cZ hc a F qn on pn 0 nw) (va_runV (As := []) (rest := [.int y]) ⟨hx, hb, hml, hown, hts⟩ (c_X1_pass l G cI cZ cR hs ao ap au (T + i) qn on pn ro L f H.size (K + o_gs on T i) hon hrow.1 (by omega)) (cwV 0 hts gL_act_X1_pass rfl rfl rfl (by decide +kernel) ⟨(Nat.le_of_ble_eq_true rfl), (Nat.le_of_ble_eq_true rfl)⟩) ⟨oPre_blind, va_recv hK hP (ci := 1) (q0 := 0) rfl rfl, o_pre hM hK (hP.sub [0] rfl) hR9 (hD.sub [0] (by decide) rfl) (o_apart hD (hro 0 _ rfl))⟩ rfl rfl hl.1 rfl (lv_room (Nat.le_of_ble_eq_true rfl)) dL_act_876 ⟨by dsimp only; omega, by dsimp only; omega⟩) hP hD hS hA [0] [1, 2, 3, 4, 5, 6, 7, 8, 9, 10, 11, 12] rfl rfl rfl (by decide) (by decide) (fun r876 u876 H locs hw876 hP hD hS hM => ?_)
                have hP : va_P G vwCl (((SM hs ao ap au (nI ((T + i + 1) / 48)) (nI ((T + i + 1) % 48)) qn on pn) :: (Dk cI cZ hc a F qn on pn 0 nw)) ++ va_pl L f) H := hP.part [12, 0, 1, 2, 3, 4, 5, 6, 7, 8, 9, 10, 11] rfl
                have hD : va_D A (((SM hs ao ap au (nI ((T + i + 1) / 48)) (nI ((T + i + 1) % 48)) qn on pn) :: (Dk cI cZ hc a F qn on pn 0 nw)) ++ va_pl L f) := hD.part [12, 0, 1, 2, 3, 4, 5, 6, 7, 8, 9, 10, 11] (by decide) rfl
                refine lv_iadd hx hb dL_act_879 ?_
                refine lv_istore (lv' := [(14, .int (y + r876)), (15, .int (nI i)), (13, .int (nI hh)), (0, .ref hc), (1, .ref hs), (2, .int x)]) hx hb dL_act_880 hl (by decide) rfl (fun ls hl => ?_)
                refine lv_iinc (v := nI i + 1) (lv' := [(15, .int (nI i + 1)), (14, .int (y + r876)), (13, .int (nI hh)), (0, .ref hc), (1, .ref hs), (2, .int x)]) hx hb dL_act_882 hl (k := 1) rfl rfl (by decide) rfl (fun ls hl => ?_)
                refine lv_goto (tgt := 866) hx hb dL_act_885 (by decide) ?_
                rw [nI_1] at hl
                exact W.widen (by omega) (by omega) (ih (i + 1) (by omega) (by omega) _ H locs hP hD hS (by show K + (o_gs on T i + o_pc on (T + i)) ≤ _; omega) ls hl)
          exact W.widen (by omega) (by omega) (key (hh + 1) 0 (by omega) (by omega) 0 H locs hP hD hS hM ls hl)
        refine lv_if_ne (tgt := 852) hx hb dL_act_843 (by decide) (fun c9 => ?_) (fun c9 => ?_)
        · have h9 : ¬ onb x 5 = 0 := fun h => c9 (by rw [h]; rfl)
          refine lv_bipush (v := nI (o_hn x)) hx hb dL_act_852 (by rw [o_hn, if_neg h9]; decide) ?_
          exact b854
        · have h9 : onb x 5 = 0 := (nI_eq (a := onb x 5) (b := 0) (by have := onb_lt (v := x) (n := 5) (by omega); omega) (by omega)).mp (Classical.byContradiction fun h => h c9)
          refine lv_sipush (v := nI (o_hn x)) hx hb dL_act_846 (by rw [o_hn, if_pos h9]; decide) ?_
          refine lv_goto (tgt := 854) hx hb dL_act_849 (by decide) ?_
          exact b854
      refine lv_iload_n hx hb dL_act_179 rfl (lv_at hl 3 rfl) ?_
      refine lv_bipush (v := nI 7) hx hb dL_act_180 (by decide) ?_
      refine lv_icmp_lt (tgt := 192) hx hb dL_act_182 (by decide) (fun c9 => b192 (Or.inl ((nI_ltI (by omega) (by omega)).mp c9))) (fun c9 => ?_)
      have h9 : ¬ o_sort x < 7 := fun h => c9 ((nI_ltI (by omega) (by omega)).mpr h)
      refine lv_aload_n hx hb dL_act_185 rfl (lv_at hl 5 rfl) ?_
      refine va_get (ci := 1) (v := .int (nI on)) (own := RL) (C := RX1) (T := TX1) (N := 9) hx hb hts wa_in hown hK hP 0 rfl rfl 4 (by decide) (hts _ wa_orders) (fun _ h9 => h9) rfl dL_act_186 ?_
      refine lv_if_ne (tgt := 294) hx hb dL_act_189 (by decide) (fun c8 => b294 (fun h => h.elim h9 (fun h => c8 (by rw [h]; rfl)))) (fun c8 => b192 (Or.inr ((nI_eq (a := on) (b := 0) (by omega) (by omega)).mp (Classical.byContradiction fun h => h c8))))
    refine lv_iload_n hx hb dL_act_73 rfl (lv_at hl 1 rfl) ?_
    refine lv_iconst (v := nI 4) hx hb dL_act_74 (by decide) ?_
    refine lv_icmp_lt (tgt := 85) hx hb dL_act_75 (by decide) (fun c9 => b85 (Or.inl ((nI_ltI (by omega) (by omega)).mp c9))) (fun c9 => ?_)
    have h9 : ¬ o_sort x < 4 := fun h => c9 ((nI_ltI (by omega) (by omega)).mpr h)
    refine lv_aload_n hx hb dL_act_78 rfl (lv_at hl 3 rfl) ?_
    refine va_get (ci := 1) (v := .int (nI pn)) (own := RL) (C := RX1) (T := TX1) (N := 9) hx hb hts wa_in hown hK hP 0 rfl rfl 5 (by decide) (hts _ wa_people) (fun _ h9 => h9) rfl dL_act_79 ?_
    refine lv_if_ne (tgt := 157) hx hb dL_act_82 (by decide) (fun c8 => b157 (fun h => h.elim h9 (fun h => c8 (by rw [h]; rfl)))) (fun c8 => b85 (Or.inr ((nI_eq (a := pn) (b := 0) (by omega) (by omega)).mp (Classical.byContradiction fun h => h c8))))
  refine lv_aload_n hx hb dL_act_10 rfl (lv_at hl 2 rfl) ?_
  refine va_get (ci := 1) (v := .int (nI qn)) (own := RL) (C := RX1) (T := TX1) (N := 9) hx hb hts wa_in hown hK hP 0 rfl rfl 3 (by decide) (hts _ wa_quarters) (fun _ h9 => h9) rfl dL_act_11 ?_
  refine lv_if_eq (tgt := 21) hx hb dL_act_14 (by decide) (fun c9 => b21 (Or.inl ((nI_eq (a := qn) (b := 0) (by omega) (by omega)).mp c9))) (fun c9 => ?_)
  refine lv_iload_n hx hb dL_act_17 rfl (lv_at hl 0 rfl) ?_
  refine lv_if_ne (tgt := 61) hx hb dL_act_18 (by decide) (fun c8 => b61 (fun h => h.elim (fun h => c9 (by rw [h]; rfl)) (fun h => c8 (by rw [h]; rfl)))) (fun c8 => b21 (Or.inr ((nI_eq (a := o_sort x) (b := 0) (by omega) (by omega)).mp (Classical.byContradiction fun h => h c8))))
end ACT
end
section
section BLD
section BL1
variable {p : Program} {l : Launch} {e : Env} {R : Room} {s : State} {m : MethodId} {args : Array Value} {below : List Frame} {meth : Method} {c : Code} {H : Heap} {locs : List Loc} {cells slots : Nat} {Q : State → Prop}
variable {cc : ByteArray} {pc : Nat} {ls : Array Slot} {rest st0 : List Value} {G : va_G} {tys tysC : List (ClassId × FieldType)} {ww wc wr wm : va_W} {A : Nat → Prop} {H0 : Heap} {mc ms : Nat} {aa : Array Value} {K : Nat}
theorem o_plv {S : Type} {post : S → Prop} {w1 : S → va_W} {tysU : S → List (ClassId × FieldType)} {K1 : Nat} (hr : va_Run p l e R s m args below meth c H locs cells slots mc ms (F0 m pc ls st0) rest (va_Qv post (fun u => oB G (tysU u) (w1 u) (va_A wc H.size) K1) (va_A wc H.size) aa) (va_A wc H.size))
    (hP : va_P G vwCl ww H) (hD : va_D A ww) (hS : va_S A H0 H locs) (hA : ∀ q : Nat, H0.size ≤ q → A q) (isC isR : List Nat) (hC : isC.map (fun i => ww[i]?) = wc.map some) (hR : isR.map (fun i => ww[i]?) = wr.map some) (hn : va_nd isR = true) (hdis : ∀ i ∈ isR, i ∉ isC)
    (kk : ∀ (u : S) (H1 : Heap) (locs1 : List Loc), post u → va_K G vwCl (tysU u) s → va_P G vwCl (wr ++ w1 u) H1 → va_D A (wr ++ w1 u) → va_S A H0 H1 locs1 → K1 ≤ slotSum H1 → W p l e R s m args below meth c H1 locs1 (cells + mc) (slots + ms) Q (F0 m (pc + 3) ls rest)) : W p l e R s m args below meth c H locs cells slots Q (F0 m pc ls st0) := by
  have hF := va_free hD hS hA isC hC
  refine va_callv hr hS (fun q _ h => hF q h) hF (fun u t H1 locs1 ht hvm hw hB hz hk hS1 => ?_)
  obtain ⟨⟨hP1, hK1, hD1⟩, hM1⟩ := hB
  rw [ht] at hP1 hM1
  obtain ⟨hP2, hD2⟩ := va_join (wr := wr) (w1 := w1 u) hP hD isC isR hC hR hn hdis hk hF hP1 hD1
  exact kk u H1 locs1 hw (va_K.moved hvm.symm hK1) hP2 hD2 hS1 hM1
/-- a call that has a part of the world and the pool -/
theorem o_pp {S : Type} {post : Int32 → S → Prop} {rx pl1 : S → va_W} {K1 : Nat} {X cx pl : va_W} (hr : va_Run p l e R s m args below meth c H locs cells slots mc ms (F0 m pc ls st0) rest (va_Qi post (fun u => oB G tysC (rx u ++ pl1 u) (va_A (cx ++ pl) H.size) K1) (va_A (cx ++ pl) H.size) aa) (va_A (cx ++ pl) H.size))
    (hP : va_P G vwCl (X ++ pl) H) (hD : va_D A (X ++ pl)) (hS : va_S A H0 H locs) (hA : ∀ q : Nat, H0.size ≤ q → A q) (isC isR : List Nat) (hC : isC.map (fun i => X[i]?) = cx.map some) (hR : isR.map (fun i => X[i]?) = wr.map some) (hn : va_nd isR = true) (hdis : ∀ i ∈ isR, i ∉ isC)
    (kk : ∀ (r : Int32) (u : S) (H1 : Heap) (locs1 : List Loc), post r u → va_P G vwCl ((wr ++ rx u) ++ pl1 u) H1 → va_D A ((wr ++ rx u) ++ pl1 u) → va_S A H0 H1 locs1 → K1 ≤ slotSum H1 → W p l e R s m args below meth c H1 locs1 (cells + mc) (slots + ms) Q (F0 m (pc + 3) ls (.int r :: rest))) : W p l e R s m args below meth c H locs cells slots Q (F0 m pc ls st0) := by
  have hF := va_freeP hD hS hA isC hC
  refine va_calli hr hS (fun q _ h => hF q h) hF (fun r u t H1 locs1 ht hvm hw hB hz hk hS1 => ?_)
  obtain ⟨⟨hP1, hK1, hD1⟩, hM1⟩ := hB
  rw [ht] at hP1 hM1
  obtain ⟨hP2, hD2⟩ := va_joinP (wr := wr) (rx := rx u) (pl1 := pl1 u) hP hD isC isR hC hR hn hdis hk hF hP1 hD1
  exact kk r u H1 locs1 hw hP2 hD2 hS1 hM1
end BL1
theorem o_apart2 {A : Nat → Prop} {Y Z pl : va_W} (hD : va_D A ((Y ++ Z) ++ pl)) : ∀ (k : Nat) (q : Nat × va_E), Y[k]? = some q → ∀ (j : Nat) (x : va_E), (Z ++ pl)[j]? ≠ some (q.1, x) := by
  intro k q hk j x hj
  rw [List.append_assoc] at hD
  have hl := (List.getElem?_eq_some_iff.mp hk).1
  have h1 : (Y ++ (Z ++ pl))[k]? = some q := by rw [List.getElem?_append_left hl]; exact hk
  have h2 : (Y ++ (Z ++ pl))[Y.length + j]? = some (q.1, x) := by rw [List.getElem?_append_right (by omega), Nat.add_sub_cancel_left]; exact hj
  have := hD.1 k (Y.length + j) q (q.1, x) h1 h2 rfl
  omega
theorem o_preI {s : State} {H : Heap} {G : va_G} {cI cZ : ClassId} {hs K : Nat} {A : Nat → Prop} {vs : List Value} (hM : K ≤ slotSum H) (hK : va_K G vwCl (ty2 cI cZ) s) (hAO : va_AOA .int s) (hP : va_P G vwCl (siZ hs) H) (hD : va_D A (siZ hs)) : ∀ U : State, U.heap = H → s.WarmedH U.vm → va_Pc vs (oPreI G cI cZ hs H.size K) vs.toArray U :=
  fun U hU hW => ⟨(o_pre (vs := vs) hM hK hP w_P0 hD (fun _ _ h => by simp at h) U hU hW).1, (o_pre (vs := vs) hM hK hP w_P0 hD (fun _ _ h => by simp at h) U hU hW).2, va_AOA.moved hW.alike hAO⟩
/-- the script's cells, shifted -/
def o_xk (xs : Nat → Int32) (k : Nat) : Int32 := xs (k % 16) >>> (nI (k / 16 * 3) &&& 31) + nI (523 * k)
abbrev BW : Type := (Nat × Nat × Nat × Nat) × (((Nat → Nat) × (Nat → Nat) × List Nat) × (ClassId × AC))
abbrev WBx (cI cZ : ClassId) (hc : Nat) (a : Nat → Nat) (w : BW) (T Q O P : Nat) : va_W := [OA w.2.2.1 w.1.2.1 w.2.1.1, PA w.2.2.1 w.1.2.2.1 w.2.1.2.1] ++ (SM w.1.1 w.1.2.1 w.1.2.2.1 w.1.2.2.2 (nI (T / 48)) (nI (T % 48)) Q O P :: Dk cI cZ hc a w.2.2.2.1 Q O P 0 w.2.2.2.2.1)
abbrev WB (cI cZ : ClassId) (hc : Nat) (a : Nat → Nat) (w : BW) (T Q O P : Nat) : va_W := WBx cI cZ hc a w T Q O P ++ va_pl w.2.1.2.2 w.2.2.2.2.2
def BQ (cI : ClassId) (O P : Nat) (w : BW) : Prop := CI w.2.2.2.1 P ∧ OR cI w.2.1.1 w.2.1.2.1 w.2.1.2.2 w.2.2.2.2.2 O
/-- a run of things done, told by numbers -/
def ORun (x : Nat → Int32) (N : Nat) (qf of1 pf tf mf : Nat → Nat) : Prop :=
  (∀ k, k < N → ∃ d, o_step (x k) (qf k) (of1 k) (pf k) (tf k) = some ((qf (k + 1), of1 (k + 1), pf (k + 1), tf (k + 1)), d) ∧ mf (k + 1) = mf k + d) ∧ ∀ k, k ≤ N → qf k ≤ 6 ∧ of1 k ≤ 10 ∧ pf k ≤ 20 ∧ tf k < 1000000
def oPreA (G : va_G) (tys : List (ClassId × FieldType)) (wm wr : va_W) (sz K : Nat) (U : State) : Prop := oPre G tys wm wr sz K U ∧ va_AOA .int U ∧ va_Nw (.methodLinkNest RL 93 yX1_init RL) U
theorem oPreA_blind {G : va_G} {tys : List (ClassId × FieldType)} {wm wr : va_W} {sz K : Nat} {vs : List Value} : FrameBlind (va_Pc vs (oPreA G tys wm wr sz K)) := by
  intro a U g mk q
  obtain ⟨h1, h2, h3, h5⟩ := q
  have h4 := oPre_blind (vs := vs) a U g mk ⟨h1, h2⟩
  exact ⟨h4.1, h4.2, va_AOA.moved (u := U) (U := U.calling g mk a) (Vm.Alike.refl U.vm) h3, va_Nw.same (u := U) (U := U.calling g mk a) rfl rfl h5⟩
theorem wb_in : ∀ w ∈ wsX10, w ∈ wsL_build := by decide +kernel
set_option maxHeartbeats 16000000 in
set_option maxRecDepth 100000 in
theorem c_L_build (l : Launch) (G : va_G) (cI cZ : ClassId) (hc : Nat) (a : Nat → Nat) (b : Nat) (xs : Nat → Int32) (qf of1 pf tf mf : Nat → Nat) (sz K : Nat) (hN : 24 + onb (xs 0) 44 = 67) (h0 : qf 0 = 0 ∧ of1 0 = 0 ∧ pf 0 = 0 ∧ tf 0 = 0 ∧ mf 0 = 0) (hrun : ORun (o_xk xs) 67 qf of1 pf tf mf) :
    Met l yL_build wsL_build ({ frames := 7, cells := 549434, slots := 10854313, locals := 172 } : Room) (va_Pc [.ref hc, .ref b] (oPreA G (ty2 cI cZ) (Dk cI cZ hc a (fun _ _ => 0) 0 0 0 0 0) [(b, .inl (cI, 16, .inl xs))] sz K)) (va_Qq (fun (r : Option Nat) (u : Option BW) => (u = none ∧ r = none) ∨ ∃ w : BW, u = some w ∧ r = some w.1.1 ∧ BQ cI (of1 67) (pf 67) w) (fun u t => ∀ w : BW, u = some w → oB G (ty3 cI cZ w.2.2.1) (WB cI cZ hc a w (tf 67) (qf 67) (of1 67) (pf 67)) (va_A (Dk cI cZ hc a (fun _ _ => 0) 0 0 0 0 0) sz) (K + mf 67) t) (va_A (Dk cI cZ hc a (fun _ _ => 0) 0 0 0 0 0) sz)) 549434 10854313 (va_A (Dk cI cZ hc a (fun _ _ => 0) 0 0 0 0 0) sz) := by
  refine Met.ofW (cc := cL_build) (maxL := 5) (ret := (some (.object "CurfewDeskLaw$Sim"))) (by decide) rfl ?_
  intro pg e s m args below meth cd s₁ B hml hv
  obtain ⟨rfl, ⟨hsz, hM, hP, hR, hK, hD0, hx0⟩, hAO, hNX⟩ := hv
  have hts := atoms_spec (ws := wsL_build) B.pre
  have hl := lv_entry [.ref hc, .ref b] (n := 5) (Nat.le_of_ble_eq_true rfl)
  rw [lg_entry_eq]
  generalize (lg_sl [.ref hc, .ref b] ++ List.replicate (5 - (lg_sl [.ref hc, .ref b]).length) Slot.unset).toArray = ls at hl ⊢
  have hx := B.exec
  have hb := B.bytes
  have hr := B.returns
  have hlocks := B.notSynchronized
  have hown : s.vm.findClass RL = some m.cls := findClass_of_methodNamed B.named
  have hD := hD0.self (sz := sz)
  have hA : ∀ q : Nat, s.heap.size ≤ q → va_A (Dk cI cZ hc a (fun _ _ => 0) 0 0 0 0 0) sz q := fun q h => Or.inr (by rw [← hsz]; exact h)
  have hS : va_S (va_A (Dk cI cZ hc a (fun _ _ => 0) 0 0 0 0 0) sz) s.heap s.heap [] := va_S.rf
  have hro : ∀ (k : Nat) (q : Nat × va_E), ([(b, .inl (cI, 16, .inl xs))] : va_W)[k]? = some q → ¬ va_A (Dk cI cZ hc a (fun _ _ => 0) 0 0 0 0 0) sz q.1 := fun k q hk h => by
    rcases h with ⟨j, x, hj⟩ | h
    · exact hx0 k q hk j x hj
    · have := (hR k q hk).lt
      omega
  have hl : lv_has ls 5 [(0, .ref hc), (1, .ref b)] := hl
  generalize hAe : va_A (Dk cI cZ hc a (fun _ _ => 0) 0 0 0 0 0) sz = A at hD hA hS hro ⊢
  refine W_up hM (va_new (ci := 1) (fs := [.int 0, .int 0, .int 0, .int 0, .int 0, .int 0, .null, .null, .null]) (own := RL) (C := RX1) (T := TX1) (N := 9) hx hb hts wb_in tyX1 tyX1_ok hown (hts (.classLink RL 16 RX1) (by decide +kernel)) (hts (.instantiable RX1 9) (by decide +kernel)) (hts (.initialized RX1) (by decide +kernel)) hK hP hD hS hA rfl (fun j hj => by rcases (show j = 0 ∨ j = 1 ∨ j = 2 ∨ j = 3 ∨ j = 4 ∨ j = 5 ∨ j = 6 ∨ j = 7 ∨ j = 8 by omega) with rfl | rfl | rfl | rfl | rfl | rfl | rfl | rfl | rfl <;> rfl) (Nat.le_of_ble_eq_true rfl) (Nat.le_of_ble_eq_true rfl) dL_build_0 (fun hs H hP hD hS => W_dn (fun hM => ?_)))
  have hP : va_P G vwCl ((Dk cI cZ hc a (fun _ _ => 0) 0 0 0 0 0) ++ siZ hs) H := hP
  have hD : va_D A ((Dk cI cZ hc a (fun _ _ => 0) 0 0 0 0 0) ++ siZ hs) := hD
  refine lv_dup hx hb dL_build_3 rfl ?_
  refine o_plv (wr := (Dk cI cZ hc a (fun _ _ => 0) 0 0 0 0 0)) (va_runIN (As := []) (rest := [.ref hs]) ⟨hx, hb, hml, hown, hts⟩ (c_X1_init l G cI cZ hs H.size K) ⟨va_cnB 0 hts gL_build_X1_init_n93 rfl rfl rfl hNX (hts (.initialized RX1) (by decide +kernel)) (by decide +kernel) ⟨(Nat.le_of_ble_eq_true rfl), (Nat.le_of_ble_eq_true rfl)⟩, rfl, hts (.instanceMethod yX1_init) (by decide +kernel)⟩ ⟨oPreI_blind, o_preI hM hK hAO (hP.sub [12] rfl) (hD.sub [12] (by decide) rfl)⟩ rfl rfl hl.1 rfl (lv_room (Nat.le_of_ble_eq_true rfl)) dL_build_4 ⟨(Nat.le_of_ble_eq_true rfl), (Nat.le_of_ble_eq_true rfl)⟩) hP hD hS hA [12] [0, 1, 2, 3, 4, 5, 6, 7, 8, 9, 10, 11] rfl rfl (by decide) (by decide) (fun u H locs hu hK hP hD hS hM => ?_)
  obtain ⟨⟨cR, ao, ap, au⟩, ro, rp, L, f⟩ := u
  have hK3 : va_K G vwCl (ty3 cI cZ cR) s := hK
  have hP : va_P G vwCl (((Dk cI cZ hc a (fun _ _ => 0) 0 0 0 0 0) ++ [SM hs ao ap au 0 0 0 0 0, OA cR ao ro, PA cR ap rp]) ++ va_pl L f) H := hP
  have hD : va_D A (((Dk cI cZ hc a (fun _ _ => 0) 0 0 0 0 0) ++ [SM hs ao ap au 0 0 0 0 0, OA cR ao ro, PA cR ap rp]) ++ va_pl L f) := hD
  have hP : va_P G vwCl (WB cI cZ hc a ((hs, ao, ap, au), (ro, rp, L), (cR, (fun _ _ => 0, 0, f))) 0 0 0 0) H := hP.part [13, 14, 12, 0, 1, 2, 3, 4, 5, 6, 7, 8, 9, 10, 11] rfl
  have hD : va_D A (WB cI cZ hc a ((hs, ao, ap, au), (ro, rp, L), (cR, (fun _ _ => 0, 0, f))) 0 0 0 0) := hD.part [13, 14, 12, 0, 1, 2, 3, 4, 5, 6, 7, 8, 9, 10, 11] (by decide) rfl
  refine lv_astore_n (lv' := [(2, .ref hs), (0, .ref hc), (1, .ref b)]) hx hb dL_build_7 rfl hl (by decide) rfl (fun ls hl => ?_)
  refine lv_bipush (v := nI 24) hx hb dL_build_8 (by decide) ?_
  refine lv_aload_n hx hb dL_build_10 rfl (lv_at hl 2 rfl) ?_
  refine lv_iconst (v := nI 0) hx hb dL_build_11 (by decide) ?_
  refine o_in (va_runS (As := [.ref b, .int (nI 0)]) (rest := [.int (nI 24)]) ⟨hx, hb, hml, hown, hts⟩ (c_L_cell l G cI b 16 xs H.size K 0 (by omega) (by decide)) (va_cwS 2 hts gL_build_L_cell rfl rfl rfl (by decide +kernel) ⟨(Nat.le_of_ble_eq_true rfl), (Nat.le_of_ble_eq_true rfl)⟩) ⟨oPre_blind, o_pre hM (hK3.sub [0] rfl) w_P0 (o_keep hR hro hS) (w_D0 (A := A)) o_x0⟩ rfl rfl hl.1 rfl (lv_room (Nat.le_of_ble_eq_true rfl)) dL_build_12 ⟨(Nat.le_of_ble_eq_true rfl), (Nat.le_of_ble_eq_true rfl)⟩) hP hS hA (fun r12 u12 H locs hw12 hP hS hM => ?_)
  subst hw12
  refine lv_bipush (v := nI 44) hx hb dL_build_15 (by decide) ?_
  refine o_st (va_runS (As := [.int (xs 0), .int (nI 44)]) (rest := [.int (nI 24)]) ⟨hx, hb, hml, hown, hts⟩ (c_L_below l G _ (xs 0) 44 (by omega) (by omega)) (va_cwS 2 hts gL_build_L_below rfl rfl rfl (by decide +kernel) ⟨(Nat.le_of_ble_eq_true rfl), (Nat.le_of_ble_eq_true rfl)⟩) ⟨wPre_blind, w_pre (hK.sub [] rfl) w_P0 (w_D0 (A := A))⟩ rfl rfl hl.1 rfl (lv_room (Nat.le_of_ble_eq_true rfl)) dL_build_17 ⟨(Nat.le_of_ble_eq_true rfl), (Nat.le_of_ble_eq_true rfl)⟩) hM hP hS hA (fun r17 u17 H locs hw17 hP hS hM => ?_)
  subst hw17
  refine lv_iadd hx hb dL_build_20 ?_
  rw [nI_add, hN]
  refine lv_istore_n (lv' := [(3, .int (nI 67)), (2, .ref hs), (0, .ref hc), (1, .ref b)]) hx hb dL_build_21 rfl hl (by decide) rfl (fun ls hl => ?_)
  refine lv_iconst (v := nI 0) hx hb dL_build_22 (by decide) ?_
  refine lv_istore (lv' := [(4, .int (nI 0)), (3, .int (nI 67)), (2, .ref hs), (0, .ref hc), (1, .ref b)]) hx hb dL_build_23 hl (by decide) rfl (fun ls hl => ?_)
  have key : ∀ (n k : Nat), k ≤ 67 → 67 < k + n → ∀ (F : Nat → Nat → Int32) (nw : Int32) (f : Nat → va_E), CI F (pf k) → OR cI ro rp L f (of1 k) → ∀ (H : Heap) (locs : List Loc), va_P G vwCl (WB cI cZ hc a ((hs, ao, ap, au), (ro, rp, L), (cR, (F, nw, f))) (tf k) (qf k) (of1 k) (pf k)) H → va_D A (WB cI cZ hc a ((hs, ao, ap, au), (ro, rp, L), (cR, (F, nw, f))) (tf k) (qf k) (of1 k) (pf k)) → va_S A s.heap H locs → K + mf k ≤ slotSum H → ∀ ls : Array Slot, lv_has ls 5 [(4, .int (nI k)), (3, .int (nI 67)), (2, .ref hs), (0, .ref hc), (1, .ref b)] → W pg l e ({ frames := 7, cells := 549434, slots := 10854313, locals := 172 } : Room) s m ([.ref hc, .ref b] : List Value).toArray below meth cd H locs (34 + 8200 * k) (313 + 162000 * k) (MQ below (va_Qq (fun (r : Option Nat) (u : Option BW) => (u = none ∧ r = none) ∨ ∃ w : BW, u = some w ∧ r = some w.1.1 ∧ BQ cI (of1 67) (pf 67) w) (fun u t => ∀ w : BW, u = some w → oB G (ty3 cI cZ w.2.2.1) (WB cI cZ hc a w (tf 67) (qf 67) (of1 67) (pf 67)) A (K + mf 67) t) A) ([.ref hc, .ref b] : List Value).toArray s 549434 10854313 A) (F0 m 25 ls []) := by
    intro n
    induction n with
    | zero => intro k h1 h2; exact absurd h2 (by omega)
    | succ n ih =>
      intro k hi hn F nw f hF hrow H locs hP hD hS hM ls hl
      refine lv_iload hx hb dL_build_25 (lv_at hl 0 rfl) ?_
      refine lv_iload_n hx hb dL_build_27 rfl (lv_at hl 1 rfl) ?_
      refine lv_icmp_ge (tgt := 71) hx hb dL_build_28 (by decide) (fun c9 => ?_) (fun c9 => ?_)
      · have h9 : 67 ≤ k := (nI_leI (by omega) (by omega)).mp c9
        have ei : k = 67 := by omega
        subst ei
        refine lv_aload_n hx hb dL_build_71 rfl (lv_at hl 2 rfl) ?_
        refine W.widen (k := 549434) (n := 10854313) (by omega) (by omega) ?_
        exact W.aret (v := .ref hs) hx hb hr (Or.inl ⟨_, rfl⟩) (Or.inr ⟨_, rfl⟩) (fun t ht hW => ⟨⟨some hs, some ((hs, ao, ap, au), (ro, rp, L), (cR, (F, nw, f))), rfl, Or.inr ⟨_, rfl, rfl, hF, hrow⟩, fun w hw => by
          cases hw
          exact ⟨⟨by rw [ht]; exact hP, va_K.moved hW.alike hK3, hD⟩, by rw [ht]; exact hM⟩⟩, hS.F ht⟩) hS.2.2 dL_build_72 hlocks
      · have h9 : k < 67 := o_ge c9 (by omega) (by omega)
        obtain ⟨dl, hst, hmf⟩ := hrun.1 k h9
        obtain ⟨b1, b2, b3, b4⟩ := hrun.2 k hi
        refine lv_aload_n hx hb dL_build_31 rfl (lv_at hl 3 rfl) ?_
        refine lv_aload_n hx hb dL_build_32 rfl (lv_at hl 2 rfl) ?_
        refine lv_aload_n hx hb dL_build_33 rfl (lv_at hl 4 rfl) ?_
        refine lv_iload hx hb dL_build_34 (lv_at hl 0 rfl) ?_
        refine lv_bipush (v := nI 16) hx hb dL_build_36 (by decide) ?_
        refine lv_irem hx hb dL_build_38 (by decide) ?_
        rw [o_rem (m := k) (n := 16) (by omega) (by decide)]
        refine o_in (va_runS (As := [.ref b, .int (nI (k % 16))]) (rest := [.ref hs, .ref hc]) ⟨hx, hb, hml, hown, hts⟩ (c_L_cell l G cI b 16 xs H.size (K + mf k) (k % 16) (Nat.mod_lt _ (by decide)) (by decide)) (va_cwS 2 hts gL_build_L_cell rfl rfl rfl (by decide +kernel) ⟨(Nat.le_of_ble_eq_true rfl), (Nat.le_of_ble_eq_true rfl)⟩) ⟨oPre_blind, o_pre hM (hK3.sub [0] rfl) w_P0 (o_keep hR hro hS) (w_D0 (A := A)) o_x0⟩ rfl rfl hl.1 rfl (lv_room (Nat.le_of_ble_eq_true rfl)) dL_build_39 ⟨by dsimp only; omega, by dsimp only; omega⟩) hP hS hA (fun r39 u39 H locs hw39 hP hS hM => ?_)
        subst hw39
        refine lv_iload hx hb dL_build_42 (lv_at hl 0 rfl) ?_
        refine lv_bipush (v := nI 16) hx hb dL_build_44 (by decide) ?_
        refine lv_idiv hx hb dL_build_46 (by decide) ?_
        rw [o_div (m := k) (n := 16) (by omega) (by decide)]
        refine lv_iconst (v := nI 3) hx hb dL_build_47 (by decide) ?_
        refine lv_imul hx hb dL_build_48 ?_
        rw [pk_mul]
        refine lv_ishr hx hb dL_build_49 ?_
        refine lv_sipush (v := nI 523) hx hb dL_build_50 (by decide) ?_
        refine lv_iload hx hb dL_build_53 (lv_at hl 0 rfl) ?_
        refine lv_imul hx hb dL_build_55 ?_
        rw [pk_mul]
        refine lv_iadd hx hb dL_build_56 ?_
        rw [show xs (k % 16) >>> (nI (k / 16 * 3) &&& 31) + nI (523 * k) = o_xk xs k from rfl]
        have hPm : va_P G vwCl (((SM hs ao ap au (nI (tf k / 48)) (nI (tf k % 48)) (qf k) (of1 k) (pf k)) :: (Dk cI cZ hc a F (qf k) (of1 k) (pf k) 0 nw)) ++ va_pl L f) H := hP.part [2, 3, 4, 5, 6, 7, 8, 9, 10, 11, 12, 13, 14] rfl
        have hDm : va_D A (((SM hs ao ap au (nI (tf k / 48)) (nI (tf k % 48)) (qf k) (of1 k) (pf k)) :: (Dk cI cZ hc a F (qf k) (of1 k) (pf k) 0 nw)) ++ va_pl L f) := hD.part [2, 3, 4, 5, 6, 7, 8, 9, 10, 11, 12, 13, 14] (by decide) rfl
        refine o_pp (X := [OA cR ao ro, PA cR ap rp] ++ ((SM hs ao ap au (nI (tf k / 48)) (nI (tf k % 48)) (qf k) (of1 k) (pf k)) :: (Dk cI cZ hc a F (qf k) (of1 k) (pf k) 0 nw))) (cx := (SM hs ao ap au (nI (tf k / 48)) (nI (tf k % 48)) (qf k) (of1 k) (pf k)) :: (Dk cI cZ hc a F (qf k) (of1 k) (pf k) 0 nw)) (pl := va_pl L f) (wr := [OA cR ao ro, PA cR ap rp]) (rx := fun u : AC => (SM hs ao ap au (nI (tf (k + 1) / 48)) (nI (tf (k + 1) % 48)) (qf (k + 1)) (of1 (k + 1)) (pf (k + 1))) :: (Dk cI cZ hc a u.1 (qf (k + 1)) (of1 (k + 1)) (pf (k + 1)) 0 u.2.1)) (pl1 := fun u : AC => va_pl L u.2.2) (va_runS (As := [.ref hc, .ref hs, .int (o_xk xs k)]) (rest := []) ⟨hx, hb, hml, hown, hts⟩ (c_L_act l G cI cZ cR hc a F nw hs ao ap au ro rp L f (qf k) (of1 k) (pf k) (tf k) (qf (k + 1)) (of1 (k + 1)) (pf (k + 1)) (tf (k + 1)) dl H.size (K + mf k) (o_xk xs k) b1 b2 b3 b4 hst hF hrow) (va_cwS 3 hts gL_build_L_act rfl rfl rfl (by decide +kernel) ⟨(Nat.le_of_ble_eq_true rfl), (Nat.le_of_ble_eq_true rfl)⟩) ⟨oPre_blind, o_pre hM hK3 hPm (hP.sub [0, 1] rfl) hDm (o_apart2 hD)⟩ rfl rfl hl.1 rfl (lv_room (Nat.le_of_ble_eq_true rfl)) dL_build_57 ⟨by dsimp only; omega, by dsimp only; omega⟩) hP hD hS hA [2, 3, 4, 5, 6, 7, 8, 9, 10, 11, 12, 13, 14] [0, 1] rfl rfl (by decide) (by decide) (fun r57 u H locs hw57 hP hD hS hM => ?_)
        obtain ⟨-, hF1, hrow1⟩ := hw57
        obtain ⟨F1, nw1, f1⟩ := u
        refine lv_if_ne (tgt := 65) hx hb dL_build_60 (by decide) (fun c8 => ?_) (fun c8 => ?_)
        · refine lv_iinc (v := nI k + 1) (lv' := [(4, .int (nI k + 1)), (3, .int (nI 67)), (2, .ref hs), (0, .ref hc), (1, .ref b)]) hx hb dL_build_65 hl (k := 0) rfl rfl (by decide) rfl (fun ls hl => ?_)
          refine lv_goto (tgt := 25) hx hb dL_build_68 (by decide) ?_
          rw [nI_1] at hl
          exact W.widen (by omega) (by omega) (ih (k + 1) (by omega) (by omega) F1 nw1 f1 hF1 hrow1 H locs hP hD hS (by rw [hmf]; omega) ls hl)
        · refine lv_null hx hb dL_build_63 ?_
          refine W.widen (k := 549434) (n := 10854313) (by omega) (by omega) ?_
          exact W.aret (v := .null) hx hb hr (Or.inl ⟨_, rfl⟩) (Or.inl rfl) (fun t ht hW => ⟨⟨none, none, rfl, Or.inl ⟨rfl, rfl⟩, fun w hw => by cases hw⟩, hS.F ht⟩) hS.2.2 dL_build_64 hlocks
  obtain ⟨z1, z2, z3, z4, z5⟩ := h0
  have hF0 : CI (fun _ _ => 0) (pf 0) := ⟨fun k hk => by rw [z3] at hk; omega, fun _ => Or.inl rfl⟩
  have hrow0 : OR cI ro rp L f (of1 0) := ⟨fun i hi => by rw [z2] at hi; omega, hu⟩
  exact W.widen (by omega) (by omega) (key 68 0 (by omega) (by omega) (fun _ _ => 0) 0 f hF0 hrow0 H locs (by rw [z1, z2, z3, z4]; exact hP) (by rw [z1, z2, z3, z4]; exact hD) hS (by rw [z5]; exact hM) ls hl)
end BLD
end
section
theorem dX0_day_0 : decode cX0_day 0 = .ok (.aload_n 0, 1) := by decide +kernel
theorem dX0_day_1 : decode cX0_day 1 = .ok (.getfield 101, 3) := by decide +kernel
theorem dX0_day_4 : decode cX0_day 4 = .ok (.bipush 48, 2) := by decide +kernel
theorem dX0_day_6 : decode cX0_day 6 = .ok (.idiv, 1) := by decide +kernel
theorem dX0_day_7 : decode cX0_day 7 = .ok (.ireturn, 1) := by decide +kernel
theorem dX0_halfHour_0 : decode cX0_halfHour 0 = .ok (.aload_n 0, 1) := by decide +kernel
theorem dX0_halfHour_1 : decode cX0_halfHour 1 = .ok (.getfield 101, 3) := by decide +kernel
theorem dX0_halfHour_4 : decode cX0_halfHour 4 = .ok (.bipush 48, 2) := by decide +kernel
theorem dX0_halfHour_6 : decode cX0_halfHour 6 = .ok (.irem, 1) := by decide +kernel
theorem dX0_halfHour_7 : decode cX0_halfHour 7 = .ok (.ireturn, 1) := by decide +kernel
set_option maxRecDepth 20000 in
theorem ggX0_duskIn_X0_requireWithin : GoodIn wsX0_duskIn wsX0_requireWithin := goodIn_ca (goodIn_r _ [4, 5, 6] (by decide +kernel) (by decide +kernel)) (goodIn_sub (fun _ h => List.mem_cons_of_mem _ (List.mem_append_right _ h)) (by decide +kernel))
set_option maxRecDepth 20000 in
theorem gX0_duskIn_X0_requireWithin : GoodIn wsX0_duskIn (va_wsS RX0 70 yX0_requireWithin wsX0_requireWithin) := goodIn_app (goodIn_of _ (by decide +kernel)) ggX0_duskIn_X0_requireWithin
set_option maxRecDepth 20000 in
theorem ggX0_duskIn_X0_day : GoodIn wsX0_duskIn wsX0_day := goodIn_r _ [10, 11, 20, 21, 22, 23, 24, 25, 26, 27, 28, 29, 30, 31, 32, 33, 34, 35] (by decide +kernel) (by decide +kernel)
set_option maxRecDepth 20000 in
theorem gX0_duskIn_X0_day : GoodIn wsX0_duskIn (wsV RX0 118 RX0 yX0_day wsX0_day) := goodIn_app (goodIn_of _ (by decide +kernel)) ggX0_duskIn_X0_day
set_option maxRecDepth 20000 in
theorem ggX0_duskIn_X0_duskOf : GoodIn wsX0_duskIn wsX0_duskOf := goodIn_r _ [15, 16, 17, 18, 3, 19, 20, 21, 22, 23, 24, 25, 26, 27, 28, 29, 30, 31, 32, 33, 34, 35] (by decide +kernel) (by decide +kernel)
set_option maxRecDepth 20000 in
theorem gX0_duskIn_X0_duskOf : GoodIn wsX0_duskIn (wsV RX0 122 RX0 yX0_duskOf wsX0_duskOf) := goodIn_app (goodIn_of _ (by decide +kernel)) ggX0_duskIn_X0_duskOf
theorem dX0_duskIn_0 : decode cX0_duskIn 0 = .ok (.iload_n 1, 1) := by decide +kernel
theorem dX0_duskIn_1 : decode cX0_duskIn 1 = .ok (.iconst 0, 1) := by decide +kernel
theorem dX0_duskIn_2 : decode cX0_duskIn 2 = .ok (.bipush 99, 2) := by decide +kernel
theorem dX0_duskIn_4 : decode cX0_duskIn 4 = .ok (.invokestatic 70, 3) := by decide +kernel
theorem dX0_duskIn_7 : decode cX0_duskIn 7 = .ok (.aload_n 0, 1) := by decide +kernel
theorem dX0_duskIn_8 : decode cX0_duskIn 8 = .ok (.aload_n 0, 1) := by decide +kernel
theorem dX0_duskIn_9 : decode cX0_duskIn 9 = .ok (.invokevirtual 118, 3) := by decide +kernel
theorem dX0_duskIn_12 : decode cX0_duskIn 12 = .ok (.iload_n 1, 1) := by decide +kernel
theorem dX0_duskIn_13 : decode cX0_duskIn 13 = .ok (.iadd, 1) := by decide +kernel
theorem dX0_duskIn_14 : decode cX0_duskIn 14 = .ok (.invokevirtual 122, 3) := by decide +kernel
theorem dX0_duskIn_17 : decode cX0_duskIn 17 = .ok (.ireturn, 1) := by decide +kernel
set_option maxRecDepth 20000 in
theorem ggX0_dawnIn_X0_requireWithin : GoodIn wsX0_dawnIn wsX0_requireWithin := goodIn_ca (goodIn_r _ [4, 5, 6] (by decide +kernel) (by decide +kernel)) (goodIn_sub (fun _ h => List.mem_cons_of_mem _ (List.mem_append_right _ h)) (by decide +kernel))
set_option maxRecDepth 20000 in
theorem gX0_dawnIn_X0_requireWithin : GoodIn wsX0_dawnIn (va_wsS RX0 70 yX0_requireWithin wsX0_requireWithin) := goodIn_app (goodIn_of _ (by decide +kernel)) ggX0_dawnIn_X0_requireWithin
set_option maxRecDepth 20000 in
theorem ggX0_dawnIn_X0_day : GoodIn wsX0_dawnIn wsX0_day := goodIn_r _ [10, 11, 18, 19, 20, 21, 22, 23, 24, 25, 26, 27, 28, 29, 30, 31, 32, 33] (by decide +kernel) (by decide +kernel)
set_option maxRecDepth 20000 in
theorem gX0_dawnIn_X0_day : GoodIn wsX0_dawnIn (wsV RX0 118 RX0 yX0_day wsX0_day) := goodIn_app (goodIn_of _ (by decide +kernel)) ggX0_dawnIn_X0_day
set_option maxRecDepth 20000 in
theorem ggX0_dawnIn_X0_dawnOf : GoodIn wsX0_dawnIn wsX0_dawnOf := goodIn_r _ [14, 15, 16, 3, 17] (by decide +kernel) (by decide +kernel)
set_option maxRecDepth 20000 in
theorem gX0_dawnIn_X0_dawnOf : GoodIn wsX0_dawnIn (va_wsS RX0 125 yX0_dawnOf wsX0_dawnOf) := goodIn_app (goodIn_of _ (by decide +kernel)) ggX0_dawnIn_X0_dawnOf
theorem dX0_dawnIn_0 : decode cX0_dawnIn 0 = .ok (.iload_n 1, 1) := by decide +kernel
theorem dX0_dawnIn_1 : decode cX0_dawnIn 1 = .ok (.iconst 0, 1) := by decide +kernel
theorem dX0_dawnIn_2 : decode cX0_dawnIn 2 = .ok (.bipush 99, 2) := by decide +kernel
theorem dX0_dawnIn_4 : decode cX0_dawnIn 4 = .ok (.invokestatic 70, 3) := by decide +kernel
theorem dX0_dawnIn_7 : decode cX0_dawnIn 7 = .ok (.aload_n 0, 1) := by decide +kernel
theorem dX0_dawnIn_8 : decode cX0_dawnIn 8 = .ok (.invokevirtual 118, 3) := by decide +kernel
theorem dX0_dawnIn_11 : decode cX0_dawnIn 11 = .ok (.iload_n 1, 1) := by decide +kernel
theorem dX0_dawnIn_12 : decode cX0_dawnIn 12 = .ok (.iadd, 1) := by decide +kernel
theorem dX0_dawnIn_13 : decode cX0_dawnIn 13 = .ok (.invokestatic 125, 3) := by decide +kernel
theorem dX0_dawnIn_16 : decode cX0_dawnIn 16 = .ok (.ireturn, 1) := by decide +kernel
set_option maxRecDepth 20000 in
theorem ggX0_isInForce_X0_requireOrder : GoodIn wsX0_isInForce wsX0_requireOrder := goodIn_ca (goodIn_r _ [6, 7, 8, 9, 10, 11, 12, 13, 14, 15, 16, 17, 18, 19, 20, 21, 22, 23, 24, 25] (by decide +kernel) (by decide +kernel)) (goodIn_sub (fun _ h => List.mem_cons_of_mem _ (List.mem_append_right _ h)) (by decide +kernel))
set_option maxRecDepth 20000 in
theorem gX0_isInForce_X0_requireOrder : GoodIn wsX0_isInForce (wsV RX0 79 RX0 yX0_requireOrder wsX0_requireOrder) := goodIn_app (goodIn_of _ (by decide +kernel)) ggX0_isInForce_X0_requireOrder
theorem dX0_isInForce_0 : decode cX0_isInForce 0 = .ok (.aload_n 0, 1) := by decide +kernel
theorem dX0_isInForce_1 : decode cX0_isInForce 1 = .ok (.iload_n 1, 1) := by decide +kernel
theorem dX0_isInForce_2 : decode cX0_isInForce 2 = .ok (.invokevirtual 79, 3) := by decide +kernel
theorem dX0_isInForce_5 : decode cX0_isInForce 5 = .ok (.aload_n 0, 1) := by decide +kernel
theorem dX0_isInForce_6 : decode cX0_isInForce 6 = .ok (.getfield 22, 3) := by decide +kernel
theorem dX0_isInForce_9 : decode cX0_isInForce 9 = .ok (.iload_n 1, 1) := by decide +kernel
theorem dX0_isInForce_10 : decode cX0_isInForce 10 = .ok (.baload, 1) := by decide +kernel
theorem dX0_isInForce_11 : decode cX0_isInForce 11 = .ok (.ireturn, 1) := by decide +kernel
set_option maxRecDepth 20000 in
theorem ggX0_isOn_X0_requireOrder : GoodIn wsX0_isOn wsX0_requireOrder := goodIn_ca (goodIn_r _ [6, 7, 8, 9, 32, 33, 34, 35, 36, 37, 38, 39, 40, 41, 42, 43, 44, 45, 46, 47] (by decide +kernel) (by decide +kernel)) (goodIn_sub (fun _ h => List.mem_cons_of_mem _ (List.mem_append_right _ h)) (by decide +kernel))
set_option maxRecDepth 20000 in
theorem gX0_isOn_X0_requireOrder : GoodIn wsX0_isOn (wsV RX0 79 RX0 yX0_requireOrder wsX0_requireOrder) := goodIn_app (goodIn_of _ (by decide +kernel)) ggX0_isOn_X0_requireOrder
set_option maxRecDepth 20000 in
theorem ggX0_isOn_X0_isOnAt : GoodIn wsX0_isOn wsX0_isOnAt := goodIn_r _ [13, 14, 15, 16, 17, 5, 18, 19, 20, 21, 22, 23, 24, 25, 26, 27, 28, 29, 30, 31, 32, 33, 34, 35, 36, 37, 38, 39, 40, 41, 42, 43, 44, 45, 46, 47] (by decide +kernel) (by decide +kernel)
set_option maxRecDepth 20000 in
theorem gX0_isOn_X0_isOnAt : GoodIn wsX0_isOn (wsV RX0 128 RX0 yX0_isOnAt wsX0_isOnAt) := goodIn_app (goodIn_of _ (by decide +kernel)) ggX0_isOn_X0_isOnAt
theorem dX0_isOn_0 : decode cX0_isOn 0 = .ok (.aload_n 0, 1) := by decide +kernel
theorem dX0_isOn_1 : decode cX0_isOn 1 = .ok (.iload_n 1, 1) := by decide +kernel
theorem dX0_isOn_2 : decode cX0_isOn 2 = .ok (.invokevirtual 79, 3) := by decide +kernel
theorem dX0_isOn_5 : decode cX0_isOn 5 = .ok (.aload_n 0, 1) := by decide +kernel
theorem dX0_isOn_6 : decode cX0_isOn 6 = .ok (.iload_n 1, 1) := by decide +kernel
theorem dX0_isOn_7 : decode cX0_isOn 7 = .ok (.aload_n 0, 1) := by decide +kernel
theorem dX0_isOn_8 : decode cX0_isOn 8 = .ok (.getfield 101, 3) := by decide +kernel
theorem dX0_isOn_11 : decode cX0_isOn 11 = .ok (.invokevirtual 128, 3) := by decide +kernel
theorem dX0_isOn_14 : decode cX0_isOn 14 = .ok (.ireturn, 1) := by decide +kernel
set_option maxRecDepth 20000 in
theorem ggX0_isExempt_X0_requireOrder : GoodIn wsX0_isExempt wsX0_requireOrder := goodIn_ca (goodIn_r _ [5, 6, 7, 8, 17, 18, 19, 20, 21, 22, 23, 24, 25, 26, 27, 28, 29, 30, 31, 32] (by decide +kernel) (by decide +kernel)) (goodIn_sub (fun _ h => List.mem_cons_of_mem _ (List.mem_append_right _ h)) (by decide +kernel))
set_option maxRecDepth 20000 in
theorem gX0_isExempt_X0_requireOrder : GoodIn wsX0_isExempt (wsV RX0 79 RX0 yX0_requireOrder wsX0_requireOrder) := goodIn_app (goodIn_of _ (by decide +kernel)) ggX0_isExempt_X0_requireOrder
set_option maxRecDepth 20000 in
theorem ggX0_isExempt_X0_requireTrade : GoodIn wsX0_isExempt wsX0_requireTrade := goodIn_ca (goodIn_r _ [11, 6, 7] (by decide +kernel) (by decide +kernel)) (goodIn_sub (fun _ h => List.mem_cons_of_mem _ (List.mem_append_right _ h)) (by decide +kernel))
set_option maxRecDepth 20000 in
theorem gX0_isExempt_X0_requireTrade : GoodIn wsX0_isExempt (va_wsS RX0 55 yX0_requireTrade wsX0_requireTrade) := goodIn_app (goodIn_of _ (by decide +kernel)) ggX0_isExempt_X0_requireTrade
set_option maxRecDepth 20000 in
theorem ggX0_isExempt_X0_exempts : GoodIn wsX0_isExempt wsX0_exempts := goodIn_r _ [15, 16, 17, 18, 19, 20, 21, 22, 23, 24, 25, 26, 27, 28, 29, 30, 31, 32] (by decide +kernel) (by decide +kernel)
set_option maxRecDepth 20000 in
theorem gX0_isExempt_X0_exempts : GoodIn wsX0_isExempt (wsV RX0 82 RX0 yX0_exempts wsX0_exempts) := goodIn_app (goodIn_of _ (by decide +kernel)) ggX0_isExempt_X0_exempts
theorem dX0_isExempt_0 : decode cX0_isExempt 0 = .ok (.aload_n 0, 1) := by decide +kernel
theorem dX0_isExempt_1 : decode cX0_isExempt 1 = .ok (.iload_n 1, 1) := by decide +kernel
theorem dX0_isExempt_2 : decode cX0_isExempt 2 = .ok (.invokevirtual 79, 3) := by decide +kernel
theorem dX0_isExempt_5 : decode cX0_isExempt 5 = .ok (.iload_n 2, 1) := by decide +kernel
theorem dX0_isExempt_6 : decode cX0_isExempt 6 = .ok (.invokestatic 55, 3) := by decide +kernel
theorem dX0_isExempt_9 : decode cX0_isExempt 9 = .ok (.aload_n 0, 1) := by decide +kernel
theorem dX0_isExempt_10 : decode cX0_isExempt 10 = .ok (.iload_n 1, 1) := by decide +kernel
theorem dX0_isExempt_11 : decode cX0_isExempt 11 = .ok (.iload_n 2, 1) := by decide +kernel
theorem dX0_isExempt_12 : decode cX0_isExempt 12 = .ok (.invokevirtual 82, 3) := by decide +kernel
theorem dX0_isExempt_15 : decode cX0_isExempt 15 = .ok (.ireturn, 1) := by decide +kernel
set_option maxRecDepth 20000 in
theorem ggX0_barredBy_X0_requireOrder : GoodIn wsX0_barredBy wsX0_requireOrder := goodIn_ca (goodIn_r _ [8, 9, 10, 11, 40, 41, 42, 43, 44, 45, 46, 47, 48, 49, 50, 51, 52, 53, 54, 55] (by decide +kernel) (by decide +kernel)) (goodIn_sub (fun _ h => List.mem_cons_of_mem _ (List.mem_append_right _ h)) (by decide +kernel))
set_option maxRecDepth 20000 in
theorem gX0_barredBy_X0_requireOrder : GoodIn wsX0_barredBy (wsV RX0 79 RX0 yX0_requireOrder wsX0_requireOrder) := goodIn_app (goodIn_of _ (by decide +kernel)) ggX0_barredBy_X0_requireOrder
set_option maxRecDepth 20000 in
theorem ggX0_barredBy_X0_bars : GoodIn wsX0_barredBy wsX0_bars := goodIn_r _ [15, 2, 16, 17, 18, 19, 20, 7, 21, 22, 23, 24, 25, 26, 27, 28, 29, 30, 31, 32, 33, 34, 35, 36, 37, 38, 39, 40, 41, 42, 43, 44, 45, 46, 47, 48, 49, 50, 51, 52, 53, 54, 55] (by decide +kernel) (by decide +kernel)
set_option maxRecDepth 20000 in
theorem gX0_barredBy_X0_bars : GoodIn wsX0_barredBy (wsV RX0 104 RX0 yX0_bars wsX0_bars) := goodIn_app (goodIn_of _ (by decide +kernel)) ggX0_barredBy_X0_bars
theorem dX0_barredBy_0 : decode cX0_barredBy 0 = .ok (.aload_n 0, 1) := by decide +kernel
theorem dX0_barredBy_1 : decode cX0_barredBy 1 = .ok (.iload_n 1, 1) := by decide +kernel
theorem dX0_barredBy_2 : decode cX0_barredBy 2 = .ok (.invokevirtual 79, 3) := by decide +kernel
theorem dX0_barredBy_5 : decode cX0_barredBy 5 = .ok (.iconst 0, 1) := by decide +kernel
theorem dX0_barredBy_6 : decode cX0_barredBy 6 = .ok (.istore_n 2, 1) := by decide +kernel
theorem dX0_barredBy_7 : decode cX0_barredBy 7 = .ok (.iconst 0, 1) := by decide +kernel
theorem dX0_barredBy_8 : decode cX0_barredBy 8 = .ok (.istore_n 3, 1) := by decide +kernel
theorem dX0_barredBy_9 : decode cX0_barredBy 9 = .ok (.iload_n 3, 1) := by decide +kernel
theorem dX0_barredBy_10 : decode cX0_barredBy 10 = .ok (.aload_n 0, 1) := by decide +kernel
theorem dX0_barredBy_11 : decode cX0_barredBy 11 = .ok (.getfield 59, 3) := by decide +kernel
theorem dX0_barredBy_14 : decode cX0_barredBy 14 = .ok (.if_icmp .ge 31, 3) := by decide +kernel
theorem dX0_barredBy_17 : decode cX0_barredBy 17 = .ok (.aload_n 0, 1) := by decide +kernel
theorem dX0_barredBy_18 : decode cX0_barredBy 18 = .ok (.iload_n 1, 1) := by decide +kernel
theorem dX0_barredBy_19 : decode cX0_barredBy 19 = .ok (.iload_n 3, 1) := by decide +kernel
theorem dX0_barredBy_20 : decode cX0_barredBy 20 = .ok (.aload_n 0, 1) := by decide +kernel
theorem dX0_barredBy_21 : decode cX0_barredBy 21 = .ok (.getfield 9, 3) := by decide +kernel
theorem dX0_barredBy_24 : decode cX0_barredBy 24 = .ok (.iload_n 1, 1) := by decide +kernel
theorem dX0_barredBy_25 : decode cX0_barredBy 25 = .ok (.iaload, 1) := by decide +kernel
theorem dX0_barredBy_26 : decode cX0_barredBy 26 = .ok (.aload_n 0, 1) := by decide +kernel
theorem dX0_barredBy_27 : decode cX0_barredBy 27 = .ok (.getfield 101, 3) := by decide +kernel
theorem dX0_barredBy_30 : decode cX0_barredBy 30 = .ok (.invokevirtual 104, 3) := by decide +kernel
theorem dX0_barredBy_33 : decode cX0_barredBy 33 = .ok (.ifCond .eq 6, 3) := by decide +kernel
theorem dX0_barredBy_36 : decode cX0_barredBy 36 = .ok (.iinc 2 1, 3) := by decide +kernel
theorem dX0_barredBy_39 : decode cX0_barredBy 39 = .ok (.iinc 3 1, 3) := by decide +kernel
theorem dX0_barredBy_42 : decode cX0_barredBy 42 = .ok (.goto (-33), 3) := by decide +kernel
theorem dX0_barredBy_45 : decode cX0_barredBy 45 = .ok (.iload_n 2, 1) := by decide +kernel
theorem dX0_barredBy_46 : decode cX0_barredBy 46 = .ok (.ireturn, 1) := by decide +kernel
set_option maxRecDepth 20000 in
theorem ggX0_tradeOf_X0_requirePerson : GoodIn wsX0_tradeOf wsX0_requirePerson := goodIn_ca (goodIn_r _ [6, 7, 8, 9, 10, 11, 12, 13, 14, 15, 16, 17, 18, 19, 20, 21, 22, 23, 24, 25] (by decide +kernel) (by decide +kernel)) (goodIn_sub (fun _ h => List.mem_cons_of_mem _ (List.mem_append_right _ h)) (by decide +kernel))
set_option maxRecDepth 20000 in
theorem gX0_tradeOf_X0_requirePerson : GoodIn wsX0_tradeOf (wsV RX0 89 RX0 yX0_requirePerson wsX0_requirePerson) := goodIn_app (goodIn_of _ (by decide +kernel)) ggX0_tradeOf_X0_requirePerson
theorem dX0_tradeOf_0 : decode cX0_tradeOf 0 = .ok (.aload_n 0, 1) := by decide +kernel
theorem dX0_tradeOf_1 : decode cX0_tradeOf 1 = .ok (.iload_n 1, 1) := by decide +kernel
theorem dX0_tradeOf_2 : decode cX0_tradeOf 2 = .ok (.invokevirtual 89, 3) := by decide +kernel
theorem dX0_tradeOf_5 : decode cX0_tradeOf 5 = .ok (.aload_n 0, 1) := by decide +kernel
theorem dX0_tradeOf_6 : decode cX0_tradeOf 6 = .ok (.getfield 29, 3) := by decide +kernel
theorem dX0_tradeOf_9 : decode cX0_tradeOf 9 = .ok (.iload_n 1, 1) := by decide +kernel
theorem dX0_tradeOf_10 : decode cX0_tradeOf 10 = .ok (.iaload, 1) := by decide +kernel
theorem dX0_tradeOf_11 : decode cX0_tradeOf 11 = .ok (.ireturn, 1) := by decide +kernel
set_option maxRecDepth 20000 in
theorem ggX0_stampsOf_X0_requirePerson : GoodIn wsX0_stampsOf wsX0_requirePerson := goodIn_ca (goodIn_r _ [6, 7, 8, 9, 16, 17, 18, 19, 20, 21, 22, 23, 24, 25, 26, 27, 28, 29, 30, 31] (by decide +kernel) (by decide +kernel)) (goodIn_sub (fun _ h => List.mem_cons_of_mem _ (List.mem_append_right _ h)) (by decide +kernel))
set_option maxRecDepth 20000 in
theorem gX0_stampsOf_X0_requirePerson : GoodIn wsX0_stampsOf (wsV RX0 89 RX0 yX0_requirePerson wsX0_requirePerson) := goodIn_app (goodIn_of _ (by decide +kernel)) ggX0_stampsOf_X0_requirePerson
set_option maxRecDepth 20000 in
theorem ggX0_stampsOf_X0_requireColour : GoodIn wsX0_stampsOf wsX0_requireColour := goodIn_ca (goodIn_r _ [12, 7, 8] (by decide +kernel) (by decide +kernel)) (goodIn_sub (fun _ h => List.mem_cons_of_mem _ (List.mem_append_right _ h)) (by decide +kernel))
set_option maxRecDepth 20000 in
theorem gX0_stampsOf_X0_requireColour : GoodIn wsX0_stampsOf (va_wsS RX0 67 yX0_requireColour wsX0_requireColour) := goodIn_app (goodIn_of _ (by decide +kernel)) ggX0_stampsOf_X0_requireColour
set_option maxRecDepth 20000 in
theorem ggX0_stampsOf_X0_stampPlace : GoodIn wsX0_stampsOf wsX0_stampPlace := goodIn_r _ [15] (by decide +kernel) (by decide +kernel)
set_option maxRecDepth 20000 in
theorem gX0_stampsOf_X0_stampPlace : GoodIn wsX0_stampsOf (va_wsS RX0 92 yX0_stampPlace wsX0_stampPlace) := goodIn_app (goodIn_of _ (by decide +kernel)) ggX0_stampsOf_X0_stampPlace
theorem dX0_stampsOf_0 : decode cX0_stampsOf 0 = .ok (.aload_n 0, 1) := by decide +kernel
theorem dX0_stampsOf_1 : decode cX0_stampsOf 1 = .ok (.iload_n 1, 1) := by decide +kernel
theorem dX0_stampsOf_2 : decode cX0_stampsOf 2 = .ok (.invokevirtual 89, 3) := by decide +kernel
theorem dX0_stampsOf_5 : decode cX0_stampsOf 5 = .ok (.iload_n 2, 1) := by decide +kernel
theorem dX0_stampsOf_6 : decode cX0_stampsOf 6 = .ok (.invokestatic 67, 3) := by decide +kernel
theorem dX0_stampsOf_9 : decode cX0_stampsOf 9 = .ok (.aload_n 0, 1) := by decide +kernel
theorem dX0_stampsOf_10 : decode cX0_stampsOf 10 = .ok (.getfield 38, 3) := by decide +kernel
theorem dX0_stampsOf_13 : decode cX0_stampsOf 13 = .ok (.iload_n 1, 1) := by decide +kernel
theorem dX0_stampsOf_14 : decode cX0_stampsOf 14 = .ok (.iload_n 2, 1) := by decide +kernel
theorem dX0_stampsOf_15 : decode cX0_stampsOf 15 = .ok (.invokestatic 92, 3) := by decide +kernel
theorem dX0_stampsOf_18 : decode cX0_stampsOf 18 = .ok (.iaload, 1) := by decide +kernel
theorem dX0_stampsOf_19 : decode cX0_stampsOf 19 = .ok (.ireturn, 1) := by decide +kernel
set_option maxRecDepth 20000 in
theorem ggX0_owes_X0_requirePerson : GoodIn wsX0_owes wsX0_requirePerson := goodIn_ca (goodIn_r _ [6, 7, 8, 9, 10, 11, 12, 13, 14, 15, 16, 17, 18, 19, 20, 21, 22, 23, 24, 25] (by decide +kernel) (by decide +kernel)) (goodIn_sub (fun _ h => List.mem_cons_of_mem _ (List.mem_append_right _ h)) (by decide +kernel))
set_option maxRecDepth 20000 in
theorem gX0_owes_X0_requirePerson : GoodIn wsX0_owes (wsV RX0 89 RX0 yX0_requirePerson wsX0_requirePerson) := goodIn_app (goodIn_of _ (by decide +kernel)) ggX0_owes_X0_requirePerson
theorem dX0_owes_0 : decode cX0_owes 0 = .ok (.aload_n 0, 1) := by decide +kernel
theorem dX0_owes_1 : decode cX0_owes 1 = .ok (.iload_n 1, 1) := by decide +kernel
theorem dX0_owes_2 : decode cX0_owes 2 = .ok (.invokevirtual 89, 3) := by decide +kernel
theorem dX0_owes_5 : decode cX0_owes 5 = .ok (.aload_n 0, 1) := by decide +kernel
theorem dX0_owes_6 : decode cX0_owes 6 = .ok (.getfield 35, 3) := by decide +kernel
theorem dX0_owes_9 : decode cX0_owes 9 = .ok (.iload_n 1, 1) := by decide +kernel
theorem dX0_owes_10 : decode cX0_owes 10 = .ok (.iaload, 1) := by decide +kernel
theorem dX0_owes_11 : decode cX0_owes 11 = .ok (.ireturn, 1) := by decide +kernel
set_option maxRecDepth 20000 in
theorem ggX0_timesFined_X0_requirePerson : GoodIn wsX0_timesFined wsX0_requirePerson := goodIn_ca (goodIn_r _ [6, 7, 8, 9, 10, 11, 12, 13, 14, 15, 16, 17, 18, 19, 20, 21, 22, 23, 24, 25] (by decide +kernel) (by decide +kernel)) (goodIn_sub (fun _ h => List.mem_cons_of_mem _ (List.mem_append_right _ h)) (by decide +kernel))
set_option maxRecDepth 20000 in
theorem gX0_timesFined_X0_requirePerson : GoodIn wsX0_timesFined (wsV RX0 89 RX0 yX0_requirePerson wsX0_requirePerson) := goodIn_app (goodIn_of _ (by decide +kernel)) ggX0_timesFined_X0_requirePerson
theorem dX0_timesFined_0 : decode cX0_timesFined 0 = .ok (.aload_n 0, 1) := by decide +kernel
theorem dX0_timesFined_1 : decode cX0_timesFined 1 = .ok (.iload_n 1, 1) := by decide +kernel
theorem dX0_timesFined_2 : decode cX0_timesFined 2 = .ok (.invokevirtual 89, 3) := by decide +kernel
theorem dX0_timesFined_5 : decode cX0_timesFined 5 = .ok (.aload_n 0, 1) := by decide +kernel
theorem dX0_timesFined_6 : decode cX0_timesFined 6 = .ok (.getfield 32, 3) := by decide +kernel
theorem dX0_timesFined_9 : decode cX0_timesFined 9 = .ok (.iload_n 1, 1) := by decide +kernel
theorem dX0_timesFined_10 : decode cX0_timesFined 10 = .ok (.iaload, 1) := by decide +kernel
theorem dX0_timesFined_11 : decode cX0_timesFined 11 = .ok (.ireturn, 1) := by decide +kernel
set_option maxRecDepth 20000 in
theorem ggX0_ordersAgainst_X0_requirePerson : GoodIn wsX0_ordersAgainst wsX0_requirePerson := goodIn_ca (goodIn_r _ [7, 8, 9, 10, 45, 46, 47, 48, 49, 50, 51, 52, 53, 54, 55, 56, 57, 58, 59, 60] (by decide +kernel) (by decide +kernel)) (goodIn_sub (fun _ h => List.mem_cons_of_mem _ (List.mem_append_right _ h)) (by decide +kernel))
set_option maxRecDepth 20000 in
theorem gX0_ordersAgainst_X0_requirePerson : GoodIn wsX0_ordersAgainst (wsV RX0 89 RX0 yX0_requirePerson wsX0_requirePerson) := goodIn_app (goodIn_of _ (by decide +kernel)) ggX0_ordersAgainst_X0_requirePerson
set_option maxRecDepth 20000 in
theorem ggX0_ordersAgainst_X0_requireQuarter : GoodIn wsX0_ordersAgainst wsX0_requireQuarter := goodIn_ca (goodIn_r _ [14, 8, 9, 15, 45, 46, 47, 48, 49, 50, 51, 52, 53, 54, 55, 56, 57, 58, 59, 60] (by decide +kernel) (by decide +kernel)) (goodIn_sub (fun _ h => List.mem_cons_of_mem _ (List.mem_append_right _ h)) (by decide +kernel))
set_option maxRecDepth 20000 in
theorem gX0_ordersAgainst_X0_requireQuarter : GoodIn wsX0_ordersAgainst (wsV RX0 64 RX0 yX0_requireQuarter wsX0_requireQuarter) := goodIn_app (goodIn_of _ (by decide +kernel)) ggX0_ordersAgainst_X0_requireQuarter
set_option maxRecDepth 20000 in
theorem ggX0_ordersAgainst_X0_bars : GoodIn wsX0_ordersAgainst wsX0_bars := goodIn_r _ [19, 20, 21, 22, 23, 24, 25, 6, 26, 27, 28, 29, 30, 31, 32, 33, 34, 35, 36, 37, 38, 39, 40, 41, 42, 43, 44, 45, 46, 47, 48, 49, 50, 51, 52, 53, 54, 55, 56, 57, 58, 59, 60] (by decide +kernel) (by decide +kernel)
set_option maxRecDepth 20000 in
theorem gX0_ordersAgainst_X0_bars : GoodIn wsX0_ordersAgainst (wsV RX0 104 RX0 yX0_bars wsX0_bars) := goodIn_app (goodIn_of _ (by decide +kernel)) ggX0_ordersAgainst_X0_bars
theorem dX0_ordersAgainst_0 : decode cX0_ordersAgainst 0 = .ok (.aload_n 0, 1) := by decide +kernel
theorem dX0_ordersAgainst_1 : decode cX0_ordersAgainst 1 = .ok (.iload_n 1, 1) := by decide +kernel
theorem dX0_ordersAgainst_2 : decode cX0_ordersAgainst 2 = .ok (.invokevirtual 89, 3) := by decide +kernel
theorem dX0_ordersAgainst_5 : decode cX0_ordersAgainst 5 = .ok (.aload_n 0, 1) := by decide +kernel
theorem dX0_ordersAgainst_6 : decode cX0_ordersAgainst 6 = .ok (.iload_n 2, 1) := by decide +kernel
theorem dX0_ordersAgainst_7 : decode cX0_ordersAgainst 7 = .ok (.invokevirtual 64, 3) := by decide +kernel
theorem dX0_ordersAgainst_10 : decode cX0_ordersAgainst 10 = .ok (.iconst 0, 1) := by decide +kernel
theorem dX0_ordersAgainst_11 : decode cX0_ordersAgainst 11 = .ok (.istore_n 3, 1) := by decide +kernel
theorem dX0_ordersAgainst_12 : decode cX0_ordersAgainst 12 = .ok (.iconst 0, 1) := by decide +kernel
theorem dX0_ordersAgainst_13 : decode cX0_ordersAgainst 13 = .ok (.istore 4, 2) := by decide +kernel
theorem dX0_ordersAgainst_15 : decode cX0_ordersAgainst 15 = .ok (.iload 4, 2) := by decide +kernel
theorem dX0_ordersAgainst_17 : decode cX0_ordersAgainst 17 = .ok (.aload_n 0, 1) := by decide +kernel
theorem dX0_ordersAgainst_18 : decode cX0_ordersAgainst 18 = .ok (.getfield 74, 3) := by decide +kernel
theorem dX0_ordersAgainst_21 : decode cX0_ordersAgainst 21 = .ok (.if_icmp .ge 27, 3) := by decide +kernel
theorem dX0_ordersAgainst_24 : decode cX0_ordersAgainst 24 = .ok (.aload_n 0, 1) := by decide +kernel
theorem dX0_ordersAgainst_25 : decode cX0_ordersAgainst 25 = .ok (.iload 4, 2) := by decide +kernel
theorem dX0_ordersAgainst_27 : decode cX0_ordersAgainst 27 = .ok (.iload_n 1, 1) := by decide +kernel
theorem dX0_ordersAgainst_28 : decode cX0_ordersAgainst 28 = .ok (.iload_n 2, 1) := by decide +kernel
theorem dX0_ordersAgainst_29 : decode cX0_ordersAgainst 29 = .ok (.aload_n 0, 1) := by decide +kernel
theorem dX0_ordersAgainst_30 : decode cX0_ordersAgainst 30 = .ok (.getfield 101, 3) := by decide +kernel
theorem dX0_ordersAgainst_33 : decode cX0_ordersAgainst 33 = .ok (.invokevirtual 104, 3) := by decide +kernel
theorem dX0_ordersAgainst_36 : decode cX0_ordersAgainst 36 = .ok (.ifCond .eq 6, 3) := by decide +kernel
theorem dX0_ordersAgainst_39 : decode cX0_ordersAgainst 39 = .ok (.iinc 3 1, 3) := by decide +kernel
theorem dX0_ordersAgainst_42 : decode cX0_ordersAgainst 42 = .ok (.iinc 4 1, 3) := by decide +kernel
theorem dX0_ordersAgainst_45 : decode cX0_ordersAgainst 45 = .ok (.goto (-30), 3) := by decide +kernel
theorem dX0_ordersAgainst_48 : decode cX0_ordersAgainst 48 = .ok (.iload_n 3, 1) := by decide +kernel
theorem dX0_ordersAgainst_49 : decode cX0_ordersAgainst 49 = .ok (.ireturn, 1) := by decide +kernel
set_option maxRecDepth 20000 in
theorem ggX0_mayGo_X0_requirePerson : GoodIn wsX0_mayGo wsX0_requirePerson := goodIn_ca (goodIn_r _ [5, 6, 7, 8, 58, 59, 60, 61, 62, 63, 64, 65, 66, 67, 68, 69, 70, 71, 72, 73] (by decide +kernel) (by decide +kernel)) (goodIn_sub (fun _ h => List.mem_cons_of_mem _ (List.mem_append_right _ h)) (by decide +kernel))
set_option maxRecDepth 20000 in
theorem gX0_mayGo_X0_requirePerson : GoodIn wsX0_mayGo (wsV RX0 89 RX0 yX0_requirePerson wsX0_requirePerson) := goodIn_app (goodIn_of _ (by decide +kernel)) ggX0_mayGo_X0_requirePerson
set_option maxRecDepth 20000 in
theorem ggX0_mayGo_X0_requireQuarter : GoodIn wsX0_mayGo wsX0_requireQuarter := goodIn_ca (goodIn_r _ [12, 6, 7, 13, 58, 59, 60, 61, 62, 63, 64, 65, 66, 67, 68, 69, 70, 71, 72, 73] (by decide +kernel) (by decide +kernel)) (goodIn_sub (fun _ h => List.mem_cons_of_mem _ (List.mem_append_right _ h)) (by decide +kernel))
set_option maxRecDepth 20000 in
theorem gX0_mayGo_X0_requireQuarter : GoodIn wsX0_mayGo (wsV RX0 64 RX0 yX0_requireQuarter wsX0_requireQuarter) := goodIn_app (goodIn_of _ (by decide +kernel)) ggX0_mayGo_X0_requireQuarter
set_option maxRecDepth 20000 in
theorem ggX0_mayGo_X0_missing : GoodIn wsX0_mayGo wsX0_missing := goodIn_r _ [17, 18, 19, 20, 21, 22, 23, 24, 25, 26, 27, 28, 4, 29, 30, 31, 32, 33, 34, 35, 36, 37, 38, 39, 40, 41, 42, 43, 44, 45, 46, 47, 48, 49, 50, 51, 52, 53, 54, 55, 56, 57, 58, 59, 60, 61, 62, 63, 64, 65, 66, 67, 68, 69, 70, 71, 72, 73] (by decide +kernel) (by decide +kernel)
set_option maxRecDepth 20000 in
theorem gX0_mayGo_X0_missing : GoodIn wsX0_mayGo (wsV RX0 131 RX0 yX0_missing wsX0_missing) := goodIn_app (goodIn_of _ (by decide +kernel)) ggX0_mayGo_X0_missing
theorem dX0_mayGo_0 : decode cX0_mayGo 0 = .ok (.aload_n 0, 1) := by decide +kernel
theorem dX0_mayGo_1 : decode cX0_mayGo 1 = .ok (.iload_n 1, 1) := by decide +kernel
theorem dX0_mayGo_2 : decode cX0_mayGo 2 = .ok (.invokevirtual 89, 3) := by decide +kernel
theorem dX0_mayGo_5 : decode cX0_mayGo 5 = .ok (.aload_n 0, 1) := by decide +kernel
theorem dX0_mayGo_6 : decode cX0_mayGo 6 = .ok (.iload_n 2, 1) := by decide +kernel
theorem dX0_mayGo_7 : decode cX0_mayGo 7 = .ok (.invokevirtual 64, 3) := by decide +kernel
theorem dX0_mayGo_10 : decode cX0_mayGo 10 = .ok (.aload_n 0, 1) := by decide +kernel
theorem dX0_mayGo_11 : decode cX0_mayGo 11 = .ok (.iload_n 1, 1) := by decide +kernel
theorem dX0_mayGo_12 : decode cX0_mayGo 12 = .ok (.iload_n 2, 1) := by decide +kernel
theorem dX0_mayGo_13 : decode cX0_mayGo 13 = .ok (.iconst (-1), 1) := by decide +kernel
theorem dX0_mayGo_14 : decode cX0_mayGo 14 = .ok (.invokevirtual 131, 3) := by decide +kernel
theorem dX0_mayGo_17 : decode cX0_mayGo 17 = .ok (.ifCond .ne 7, 3) := by decide +kernel
theorem dX0_mayGo_20 : decode cX0_mayGo 20 = .ok (.iconst 1, 1) := by decide +kernel
theorem dX0_mayGo_21 : decode cX0_mayGo 21 = .ok (.goto 4, 3) := by decide +kernel
theorem dX0_mayGo_24 : decode cX0_mayGo 24 = .ok (.iconst 0, 1) := by decide +kernel
theorem dX0_mayGo_25 : decode cX0_mayGo 25 = .ok (.ireturn, 1) := by decide +kernel
set_option maxRecDepth 20000 in
theorem ggX0_stampsMissing_X0_requirePerson : GoodIn wsX0_stampsMissing wsX0_requirePerson := goodIn_ca (goodIn_r _ [5, 6, 7, 8, 58, 59, 60, 61, 62, 63, 64, 65, 66, 67, 68, 69, 70, 71, 72, 73] (by decide +kernel) (by decide +kernel)) (goodIn_sub (fun _ h => List.mem_cons_of_mem _ (List.mem_append_right _ h)) (by decide +kernel))
set_option maxRecDepth 20000 in
theorem gX0_stampsMissing_X0_requirePerson : GoodIn wsX0_stampsMissing (wsV RX0 89 RX0 yX0_requirePerson wsX0_requirePerson) := goodIn_app (goodIn_of _ (by decide +kernel)) ggX0_stampsMissing_X0_requirePerson
set_option maxRecDepth 20000 in
theorem ggX0_stampsMissing_X0_requireQuarter : GoodIn wsX0_stampsMissing wsX0_requireQuarter := goodIn_ca (goodIn_r _ [12, 6, 7, 13, 58, 59, 60, 61, 62, 63, 64, 65, 66, 67, 68, 69, 70, 71, 72, 73] (by decide +kernel) (by decide +kernel)) (goodIn_sub (fun _ h => List.mem_cons_of_mem _ (List.mem_append_right _ h)) (by decide +kernel))
set_option maxRecDepth 20000 in
theorem gX0_stampsMissing_X0_requireQuarter : GoodIn wsX0_stampsMissing (wsV RX0 64 RX0 yX0_requireQuarter wsX0_requireQuarter) := goodIn_app (goodIn_of _ (by decide +kernel)) ggX0_stampsMissing_X0_requireQuarter
set_option maxRecDepth 20000 in
theorem ggX0_stampsMissing_X0_missing : GoodIn wsX0_stampsMissing wsX0_missing := goodIn_r _ [17, 18, 19, 20, 21, 22, 23, 24, 25, 26, 27, 28, 4, 29, 30, 31, 32, 33, 34, 35, 36, 37, 38, 39, 40, 41, 42, 43, 44, 45, 46, 47, 48, 49, 50, 51, 52, 53, 54, 55, 56, 57, 58, 59, 60, 61, 62, 63, 64, 65, 66, 67, 68, 69, 70, 71, 72, 73] (by decide +kernel) (by decide +kernel)
set_option maxRecDepth 20000 in
theorem gX0_stampsMissing_X0_missing : GoodIn wsX0_stampsMissing (wsV RX0 131 RX0 yX0_missing wsX0_missing) := goodIn_app (goodIn_of _ (by decide +kernel)) ggX0_stampsMissing_X0_missing
theorem dX0_stampsMissing_0 : decode cX0_stampsMissing 0 = .ok (.aload_n 0, 1) := by decide +kernel
theorem dX0_stampsMissing_1 : decode cX0_stampsMissing 1 = .ok (.iload_n 1, 1) := by decide +kernel
theorem dX0_stampsMissing_2 : decode cX0_stampsMissing 2 = .ok (.invokevirtual 89, 3) := by decide +kernel
theorem dX0_stampsMissing_5 : decode cX0_stampsMissing 5 = .ok (.aload_n 0, 1) := by decide +kernel
theorem dX0_stampsMissing_6 : decode cX0_stampsMissing 6 = .ok (.iload_n 2, 1) := by decide +kernel
theorem dX0_stampsMissing_7 : decode cX0_stampsMissing 7 = .ok (.invokevirtual 64, 3) := by decide +kernel
theorem dX0_stampsMissing_10 : decode cX0_stampsMissing 10 = .ok (.aload_n 0, 1) := by decide +kernel
theorem dX0_stampsMissing_11 : decode cX0_stampsMissing 11 = .ok (.iload_n 1, 1) := by decide +kernel
theorem dX0_stampsMissing_12 : decode cX0_stampsMissing 12 = .ok (.iload_n 2, 1) := by decide +kernel
theorem dX0_stampsMissing_13 : decode cX0_stampsMissing 13 = .ok (.iconst (-1), 1) := by decide +kernel
theorem dX0_stampsMissing_14 : decode cX0_stampsMissing 14 = .ok (.invokevirtual 131, 3) := by decide +kernel
theorem dX0_stampsMissing_17 : decode cX0_stampsMissing 17 = .ok (.ireturn, 1) := by decide +kernel
theorem dX0_quarters_0 : decode cX0_quarters 0 = .ok (.aload_n 0, 1) := by decide +kernel
theorem dX0_quarters_1 : decode cX0_quarters 1 = .ok (.getfield 44, 3) := by decide +kernel
theorem dX0_quarters_4 : decode cX0_quarters 4 = .ok (.ireturn, 1) := by decide +kernel
theorem dX0_orders_0 : decode cX0_orders 0 = .ok (.aload_n 0, 1) := by decide +kernel
theorem dX0_orders_1 : decode cX0_orders 1 = .ok (.getfield 74, 3) := by decide +kernel
theorem dX0_orders_4 : decode cX0_orders 4 = .ok (.ireturn, 1) := by decide +kernel
theorem dX0_people_0 : decode cX0_people 0 = .ok (.aload_n 0, 1) := by decide +kernel
theorem dX0_people_1 : decode cX0_people 1 = .ok (.getfield 59, 3) := by decide +kernel
theorem dX0_people_4 : decode cX0_people 4 = .ok (.ireturn, 1) := by decide +kernel
set_option maxRecDepth 20000 in
theorem ggX0_ordersOn_X0_isOnAt : GoodIn wsX0_ordersOn wsX0_isOnAt := goodIn_r _ [7, 8, 9, 10, 11, 6, 12, 13, 14, 15, 16, 17, 18, 19, 20, 21, 22, 23, 24, 25, 26, 27, 28, 29, 30, 31, 32, 33, 34, 35, 36, 37, 38, 39, 40, 41] (by decide +kernel) (by decide +kernel)
set_option maxRecDepth 20000 in
theorem gX0_ordersOn_X0_isOnAt : GoodIn wsX0_ordersOn (wsV RX0 128 RX0 yX0_isOnAt wsX0_isOnAt) := goodIn_app (goodIn_of _ (by decide +kernel)) ggX0_ordersOn_X0_isOnAt
theorem dX0_ordersOn_0 : decode cX0_ordersOn 0 = .ok (.iconst 0, 1) := by decide +kernel
theorem dX0_ordersOn_1 : decode cX0_ordersOn 1 = .ok (.istore_n 1, 1) := by decide +kernel
theorem dX0_ordersOn_2 : decode cX0_ordersOn 2 = .ok (.iconst 0, 1) := by decide +kernel
theorem dX0_ordersOn_3 : decode cX0_ordersOn 3 = .ok (.istore_n 2, 1) := by decide +kernel
theorem dX0_ordersOn_4 : decode cX0_ordersOn 4 = .ok (.iload_n 2, 1) := by decide +kernel
theorem dX0_ordersOn_5 : decode cX0_ordersOn 5 = .ok (.aload_n 0, 1) := by decide +kernel
theorem dX0_ordersOn_6 : decode cX0_ordersOn 6 = .ok (.getfield 74, 3) := by decide +kernel
theorem dX0_ordersOn_9 : decode cX0_ordersOn 9 = .ok (.if_icmp .ge 24, 3) := by decide +kernel
theorem dX0_ordersOn_12 : decode cX0_ordersOn 12 = .ok (.aload_n 0, 1) := by decide +kernel
theorem dX0_ordersOn_13 : decode cX0_ordersOn 13 = .ok (.iload_n 2, 1) := by decide +kernel
theorem dX0_ordersOn_14 : decode cX0_ordersOn 14 = .ok (.aload_n 0, 1) := by decide +kernel
theorem dX0_ordersOn_15 : decode cX0_ordersOn 15 = .ok (.getfield 101, 3) := by decide +kernel
theorem dX0_ordersOn_18 : decode cX0_ordersOn 18 = .ok (.invokevirtual 128, 3) := by decide +kernel
theorem dX0_ordersOn_21 : decode cX0_ordersOn 21 = .ok (.ifCond .eq 6, 3) := by decide +kernel
theorem dX0_ordersOn_24 : decode cX0_ordersOn 24 = .ok (.iinc 1 1, 3) := by decide +kernel
theorem dX0_ordersOn_27 : decode cX0_ordersOn 27 = .ok (.iinc 2 1, 3) := by decide +kernel
theorem dX0_ordersOn_30 : decode cX0_ordersOn 30 = .ok (.goto (-26), 3) := by decide +kernel
theorem dX0_ordersOn_33 : decode cX0_ordersOn 33 = .ok (.iload_n 1, 1) := by decide +kernel
theorem dX0_ordersOn_34 : decode cX0_ordersOn 34 = .ok (.ireturn, 1) := by decide +kernel
theorem dX0_shift_0 : decode cX0_shift 0 = .ok (.aload_n 0, 1) := by decide +kernel
theorem dX0_shift_1 : decode cX0_shift 1 = .ok (.getfield 86, 3) := by decide +kernel
theorem dX0_shift_4 : decode cX0_shift 4 = .ok (.ireturn, 1) := by decide +kernel
theorem dX0_allOwe_0 : decode cX0_allOwe 0 = .ok (.iconst 0, 1) := by decide +kernel
theorem dX0_allOwe_1 : decode cX0_allOwe 1 = .ok (.istore_n 1, 1) := by decide +kernel
theorem dX0_allOwe_2 : decode cX0_allOwe 2 = .ok (.iconst 0, 1) := by decide +kernel
theorem dX0_allOwe_3 : decode cX0_allOwe 3 = .ok (.istore_n 2, 1) := by decide +kernel
theorem dX0_allOwe_4 : decode cX0_allOwe 4 = .ok (.iload_n 2, 1) := by decide +kernel
theorem dX0_allOwe_5 : decode cX0_allOwe 5 = .ok (.aload_n 0, 1) := by decide +kernel
theorem dX0_allOwe_6 : decode cX0_allOwe 6 = .ok (.getfield 59, 3) := by decide +kernel
theorem dX0_allOwe_9 : decode cX0_allOwe 9 = .ok (.if_icmp .ge 18, 3) := by decide +kernel
theorem dX0_allOwe_12 : decode cX0_allOwe 12 = .ok (.iload_n 1, 1) := by decide +kernel
theorem dX0_allOwe_13 : decode cX0_allOwe 13 = .ok (.aload_n 0, 1) := by decide +kernel
theorem dX0_allOwe_14 : decode cX0_allOwe 14 = .ok (.getfield 35, 3) := by decide +kernel
theorem dX0_allOwe_17 : decode cX0_allOwe 17 = .ok (.iload_n 2, 1) := by decide +kernel
theorem dX0_allOwe_18 : decode cX0_allOwe 18 = .ok (.iaload, 1) := by decide +kernel
theorem dX0_allOwe_19 : decode cX0_allOwe 19 = .ok (.iadd, 1) := by decide +kernel
theorem dX0_allOwe_20 : decode cX0_allOwe 20 = .ok (.istore_n 1, 1) := by decide +kernel
theorem dX0_allOwe_21 : decode cX0_allOwe 21 = .ok (.iinc 2 1, 3) := by decide +kernel
theorem dX0_allOwe_24 : decode cX0_allOwe 24 = .ok (.goto (-20), 3) := by decide +kernel
theorem dX0_allOwe_27 : decode cX0_allOwe 27 = .ok (.iload_n 1, 1) := by decide +kernel
theorem dX0_allOwe_28 : decode cX0_allOwe 28 = .ok (.ireturn, 1) := by decide +kernel
set_option maxRecDepth 20000 in
theorem ggX0_halfHoursUntilFree_X0_requirePerson : GoodIn wsX0_halfHoursUntilFree wsX0_requirePerson := goodIn_ca (goodIn_r _ [6, 7, 8, 9, 49, 50, 51, 52, 53, 54, 55, 56, 57, 58, 59, 60, 61, 62, 63, 64] (by decide +kernel) (by decide +kernel)) (goodIn_sub (fun _ h => List.mem_cons_of_mem _ (List.mem_append_right _ h)) (by decide +kernel))
set_option maxRecDepth 20000 in
theorem gX0_halfHoursUntilFree_X0_requirePerson : GoodIn wsX0_halfHoursUntilFree (wsV RX0 89 RX0 yX0_requirePerson wsX0_requirePerson) := goodIn_app (goodIn_of _ (by decide +kernel)) ggX0_halfHoursUntilFree_X0_requirePerson
set_option maxRecDepth 20000 in
theorem ggX0_halfHoursUntilFree_X0_requireQuarter : GoodIn wsX0_halfHoursUntilFree wsX0_requireQuarter := goodIn_ca (goodIn_r _ [13, 7, 8, 14, 49, 50, 51, 52, 53, 54, 55, 56, 57, 58, 59, 60, 61, 62, 63, 64] (by decide +kernel) (by decide +kernel)) (goodIn_sub (fun _ h => List.mem_cons_of_mem _ (List.mem_append_right _ h)) (by decide +kernel))
set_option maxRecDepth 20000 in
theorem gX0_halfHoursUntilFree_X0_requireQuarter : GoodIn wsX0_halfHoursUntilFree (wsV RX0 64 RX0 yX0_requireQuarter wsX0_requireQuarter) := goodIn_app (goodIn_of _ (by decide +kernel)) ggX0_halfHoursUntilFree_X0_requireQuarter
set_option maxRecDepth 20000 in
theorem ggX0_halfHoursUntilFree_X0_isFreeAt : GoodIn wsX0_halfHoursUntilFree wsX0_isFreeAt := goodIn_r _ [18, 19, 20, 21, 22, 5, 23, 24, 25, 26, 27, 28, 29, 30, 31, 32, 33, 34, 35, 36, 37, 38, 39, 40, 41, 42, 43, 44, 45, 46, 47, 48, 49, 50, 51, 52, 53, 54, 55, 56, 57, 58, 59, 60, 61, 62, 63, 64] (by decide +kernel) (by decide +kernel)
set_option maxRecDepth 20000 in
theorem gX0_halfHoursUntilFree_X0_isFreeAt : GoodIn wsX0_halfHoursUntilFree (wsV RX0 135 RX0 yX0_isFreeAt wsX0_isFreeAt) := goodIn_app (goodIn_of _ (by decide +kernel)) ggX0_halfHoursUntilFree_X0_isFreeAt
theorem dX0_halfHoursUntilFree_0 : decode cX0_halfHoursUntilFree 0 = .ok (.aload_n 0, 1) := by decide +kernel
theorem dX0_halfHoursUntilFree_1 : decode cX0_halfHoursUntilFree 1 = .ok (.iload_n 1, 1) := by decide +kernel
theorem dX0_halfHoursUntilFree_2 : decode cX0_halfHoursUntilFree 2 = .ok (.invokevirtual 89, 3) := by decide +kernel
theorem dX0_halfHoursUntilFree_5 : decode cX0_halfHoursUntilFree 5 = .ok (.aload_n 0, 1) := by decide +kernel
theorem dX0_halfHoursUntilFree_6 : decode cX0_halfHoursUntilFree 6 = .ok (.iload_n 2, 1) := by decide +kernel
theorem dX0_halfHoursUntilFree_7 : decode cX0_halfHoursUntilFree 7 = .ok (.invokevirtual 64, 3) := by decide +kernel
theorem dX0_halfHoursUntilFree_10 : decode cX0_halfHoursUntilFree 10 = .ok (.iconst 0, 1) := by decide +kernel
theorem dX0_halfHoursUntilFree_11 : decode cX0_halfHoursUntilFree 11 = .ok (.istore_n 3, 1) := by decide +kernel
theorem dX0_halfHoursUntilFree_12 : decode cX0_halfHoursUntilFree 12 = .ok (.iload_n 3, 1) := by decide +kernel
theorem dX0_halfHoursUntilFree_13 : decode cX0_halfHoursUntilFree 13 = .ok (.bipush 48, 2) := by decide +kernel
theorem dX0_halfHoursUntilFree_15 : decode cX0_halfHoursUntilFree 15 = .ok (.if_icmp .gt 26, 3) := by decide +kernel
theorem dX0_halfHoursUntilFree_18 : decode cX0_halfHoursUntilFree 18 = .ok (.aload_n 0, 1) := by decide +kernel
theorem dX0_halfHoursUntilFree_19 : decode cX0_halfHoursUntilFree 19 = .ok (.iload_n 1, 1) := by decide +kernel
theorem dX0_halfHoursUntilFree_20 : decode cX0_halfHoursUntilFree 20 = .ok (.iload_n 2, 1) := by decide +kernel
theorem dX0_halfHoursUntilFree_21 : decode cX0_halfHoursUntilFree 21 = .ok (.aload_n 0, 1) := by decide +kernel
theorem dX0_halfHoursUntilFree_22 : decode cX0_halfHoursUntilFree 22 = .ok (.getfield 101, 3) := by decide +kernel
theorem dX0_halfHoursUntilFree_25 : decode cX0_halfHoursUntilFree 25 = .ok (.iload_n 3, 1) := by decide +kernel
theorem dX0_halfHoursUntilFree_26 : decode cX0_halfHoursUntilFree 26 = .ok (.iadd, 1) := by decide +kernel
theorem dX0_halfHoursUntilFree_27 : decode cX0_halfHoursUntilFree 27 = .ok (.invokevirtual 135, 3) := by decide +kernel
theorem dX0_halfHoursUntilFree_30 : decode cX0_halfHoursUntilFree 30 = .ok (.ifCond .eq 5, 3) := by decide +kernel
theorem dX0_halfHoursUntilFree_33 : decode cX0_halfHoursUntilFree 33 = .ok (.iload_n 3, 1) := by decide +kernel
theorem dX0_halfHoursUntilFree_34 : decode cX0_halfHoursUntilFree 34 = .ok (.ireturn, 1) := by decide +kernel
theorem dX0_halfHoursUntilFree_35 : decode cX0_halfHoursUntilFree 35 = .ok (.iinc 3 1, 3) := by decide +kernel
theorem dX0_halfHoursUntilFree_38 : decode cX0_halfHoursUntilFree 38 = .ok (.goto (-26), 3) := by decide +kernel
theorem dX0_halfHoursUntilFree_41 : decode cX0_halfHoursUntilFree 41 = .ok (.iconst (-1), 1) := by decide +kernel
theorem dX0_halfHoursUntilFree_42 : decode cX0_halfHoursUntilFree 42 = .ok (.ireturn, 1) := by decide +kernel
set_option maxRecDepth 20000 in
theorem ggX0_halfHoursOn_X0_requireOrder : GoodIn wsX0_halfHoursOn wsX0_requireOrder := goodIn_ca (goodIn_r _ [6, 7, 8, 9, 27, 28, 29, 30, 31, 32, 33, 34, 35, 36, 37, 38, 39, 40, 41, 42] (by decide +kernel) (by decide +kernel)) (goodIn_sub (fun _ h => List.mem_cons_of_mem _ (List.mem_append_right _ h)) (by decide +kernel))
set_option maxRecDepth 20000 in
theorem gX0_halfHoursOn_X0_requireOrder : GoodIn wsX0_halfHoursOn (wsV RX0 79 RX0 yX0_requireOrder wsX0_requireOrder) := goodIn_app (goodIn_of _ (by decide +kernel)) ggX0_halfHoursOn_X0_requireOrder
set_option maxRecDepth 20000 in
theorem ggX0_halfHoursOn_X0_isInHours : GoodIn wsX0_halfHoursOn wsX0_isInHours := goodIn_r _ [13, 14, 15, 16, 17, 18, 5, 19, 20, 21, 22, 23, 24, 25, 26, 27, 28, 29, 30, 31, 32, 33, 34, 35, 36, 37, 38, 39, 40, 41, 42] (by decide +kernel) (by decide +kernel)
set_option maxRecDepth 20000 in
theorem gX0_halfHoursOn_X0_isInHours : GoodIn wsX0_halfHoursOn (wsV RX0 139 RX0 yX0_isInHours wsX0_isInHours) := goodIn_app (goodIn_of _ (by decide +kernel)) ggX0_halfHoursOn_X0_isInHours
theorem dX0_halfHoursOn_0 : decode cX0_halfHoursOn 0 = .ok (.aload_n 0, 1) := by decide +kernel
theorem dX0_halfHoursOn_1 : decode cX0_halfHoursOn 1 = .ok (.iload_n 1, 1) := by decide +kernel
theorem dX0_halfHoursOn_2 : decode cX0_halfHoursOn 2 = .ok (.invokevirtual 79, 3) := by decide +kernel
theorem dX0_halfHoursOn_5 : decode cX0_halfHoursOn 5 = .ok (.iconst 0, 1) := by decide +kernel
theorem dX0_halfHoursOn_6 : decode cX0_halfHoursOn 6 = .ok (.istore_n 2, 1) := by decide +kernel
theorem dX0_halfHoursOn_7 : decode cX0_halfHoursOn 7 = .ok (.iconst 0, 1) := by decide +kernel
theorem dX0_halfHoursOn_8 : decode cX0_halfHoursOn 8 = .ok (.istore_n 3, 1) := by decide +kernel
theorem dX0_halfHoursOn_9 : decode cX0_halfHoursOn 9 = .ok (.iload_n 3, 1) := by decide +kernel
theorem dX0_halfHoursOn_10 : decode cX0_halfHoursOn 10 = .ok (.bipush 48, 2) := by decide +kernel
theorem dX0_halfHoursOn_12 : decode cX0_halfHoursOn 12 = .ok (.if_icmp .ge 26, 3) := by decide +kernel
theorem dX0_halfHoursOn_15 : decode cX0_halfHoursOn 15 = .ok (.aload_n 0, 1) := by decide +kernel
theorem dX0_halfHoursOn_16 : decode cX0_halfHoursOn 16 = .ok (.iload_n 1, 1) := by decide +kernel
theorem dX0_halfHoursOn_17 : decode cX0_halfHoursOn 17 = .ok (.aload_n 0, 1) := by decide +kernel
theorem dX0_halfHoursOn_18 : decode cX0_halfHoursOn 18 = .ok (.getfield 101, 3) := by decide +kernel
theorem dX0_halfHoursOn_21 : decode cX0_halfHoursOn 21 = .ok (.iload_n 3, 1) := by decide +kernel
theorem dX0_halfHoursOn_22 : decode cX0_halfHoursOn 22 = .ok (.iadd, 1) := by decide +kernel
theorem dX0_halfHoursOn_23 : decode cX0_halfHoursOn 23 = .ok (.invokevirtual 139, 3) := by decide +kernel
theorem dX0_halfHoursOn_26 : decode cX0_halfHoursOn 26 = .ok (.ifCond .eq 6, 3) := by decide +kernel
theorem dX0_halfHoursOn_29 : decode cX0_halfHoursOn 29 = .ok (.iinc 2 1, 3) := by decide +kernel
theorem dX0_halfHoursOn_32 : decode cX0_halfHoursOn 32 = .ok (.iinc 3 1, 3) := by decide +kernel
theorem dX0_halfHoursOn_35 : decode cX0_halfHoursOn 35 = .ok (.goto (-26), 3) := by decide +kernel
theorem dX0_halfHoursOn_38 : decode cX0_halfHoursOn 38 = .ok (.iload_n 2, 1) := by decide +kernel
theorem dX0_halfHoursOn_39 : decode cX0_halfHoursOn 39 = .ok (.ireturn, 1) := by decide +kernel
theorem dX0_exempts_0 : decode cX0_exempts 0 = .ok (.aload_n 0, 1) := by decide +kernel
theorem dX0_exempts_1 : decode cX0_exempts 1 = .ok (.getfield 26, 3) := by decide +kernel
theorem dX0_exempts_4 : decode cX0_exempts 4 = .ok (.iload_n 1, 1) := by decide +kernel
theorem dX0_exempts_5 : decode cX0_exempts 5 = .ok (.iaload, 1) := by decide +kernel
theorem dX0_exempts_6 : decode cX0_exempts 6 = .ok (.iload_n 2, 1) := by decide +kernel
theorem dX0_exempts_7 : decode cX0_exempts 7 = .ok (.ishr, 1) := by decide +kernel
theorem dX0_exempts_8 : decode cX0_exempts 8 = .ok (.iconst 1, 1) := by decide +kernel
theorem dX0_exempts_9 : decode cX0_exempts 9 = .ok (.iand, 1) := by decide +kernel
theorem dX0_exempts_10 : decode cX0_exempts 10 = .ok (.ifCond .eq 7, 3) := by decide +kernel
theorem dX0_exempts_13 : decode cX0_exempts 13 = .ok (.iconst 1, 1) := by decide +kernel
theorem dX0_exempts_14 : decode cX0_exempts 14 = .ok (.goto 4, 3) := by decide +kernel
theorem dX0_exempts_17 : decode cX0_exempts 17 = .ok (.iconst 0, 1) := by decide +kernel
theorem dX0_exempts_18 : decode cX0_exempts 18 = .ok (.ireturn, 1) := by decide +kernel
set_option maxRecDepth 20000 in
theorem ggX0_bars_X0_exempts : GoodIn wsX0_bars wsX0_exempts := goodIn_r _ [8, 9, 27, 28, 29, 30, 31, 32, 33, 34, 35, 36, 37, 38, 39, 40, 41, 42] (by decide +kernel) (by decide +kernel)
set_option maxRecDepth 20000 in
theorem gX0_bars_X0_exempts : GoodIn wsX0_bars (wsV RX0 82 RX0 yX0_exempts wsX0_exempts) := goodIn_app (goodIn_of _ (by decide +kernel)) ggX0_bars_X0_exempts
set_option maxRecDepth 20000 in
theorem ggX0_bars_X0_isInHours : GoodIn wsX0_bars wsX0_isInHours := goodIn_r _ [13, 14, 15, 16, 17, 18, 7, 19, 20, 21, 22, 23, 24, 25, 26, 27, 28, 29, 30, 31, 32, 33, 34, 35, 36, 37, 38, 39, 40, 41, 42] (by decide +kernel) (by decide +kernel)
set_option maxRecDepth 20000 in
theorem gX0_bars_X0_isInHours : GoodIn wsX0_bars (wsV RX0 139 RX0 yX0_isInHours wsX0_isInHours) := goodIn_app (goodIn_of _ (by decide +kernel)) ggX0_bars_X0_isInHours
theorem dX0_bars_0 : decode cX0_bars 0 = .ok (.aload_n 0, 1) := by decide +kernel
theorem dX0_bars_1 : decode cX0_bars 1 = .ok (.getfield 9, 3) := by decide +kernel
theorem dX0_bars_4 : decode cX0_bars 4 = .ok (.iload_n 1, 1) := by decide +kernel
theorem dX0_bars_5 : decode cX0_bars 5 = .ok (.iaload, 1) := by decide +kernel
theorem dX0_bars_6 : decode cX0_bars 6 = .ok (.iload_n 3, 1) := by decide +kernel
theorem dX0_bars_7 : decode cX0_bars 7 = .ok (.if_icmp .ne 40, 3) := by decide +kernel
theorem dX0_bars_10 : decode cX0_bars 10 = .ok (.aload_n 0, 1) := by decide +kernel
theorem dX0_bars_11 : decode cX0_bars 11 = .ok (.iload_n 1, 1) := by decide +kernel
theorem dX0_bars_12 : decode cX0_bars 12 = .ok (.aload_n 0, 1) := by decide +kernel
theorem dX0_bars_13 : decode cX0_bars 13 = .ok (.getfield 29, 3) := by decide +kernel
theorem dX0_bars_16 : decode cX0_bars 16 = .ok (.iload_n 2, 1) := by decide +kernel
theorem dX0_bars_17 : decode cX0_bars 17 = .ok (.iaload, 1) := by decide +kernel
theorem dX0_bars_18 : decode cX0_bars 18 = .ok (.invokevirtual 82, 3) := by decide +kernel
theorem dX0_bars_21 : decode cX0_bars 21 = .ok (.ifCond .ne 26, 3) := by decide +kernel
theorem dX0_bars_24 : decode cX0_bars 24 = .ok (.aload_n 0, 1) := by decide +kernel
theorem dX0_bars_25 : decode cX0_bars 25 = .ok (.getfield 22, 3) := by decide +kernel
theorem dX0_bars_28 : decode cX0_bars 28 = .ok (.iload_n 1, 1) := by decide +kernel
theorem dX0_bars_29 : decode cX0_bars 29 = .ok (.baload, 1) := by decide +kernel
theorem dX0_bars_30 : decode cX0_bars 30 = .ok (.ifCond .eq 17, 3) := by decide +kernel
theorem dX0_bars_33 : decode cX0_bars 33 = .ok (.aload_n 0, 1) := by decide +kernel
theorem dX0_bars_34 : decode cX0_bars 34 = .ok (.iload_n 1, 1) := by decide +kernel
theorem dX0_bars_35 : decode cX0_bars 35 = .ok (.iload 4, 2) := by decide +kernel
theorem dX0_bars_37 : decode cX0_bars 37 = .ok (.invokevirtual 139, 3) := by decide +kernel
theorem dX0_bars_40 : decode cX0_bars 40 = .ok (.ifCond .eq 7, 3) := by decide +kernel
theorem dX0_bars_43 : decode cX0_bars 43 = .ok (.iconst 1, 1) := by decide +kernel
theorem dX0_bars_44 : decode cX0_bars 44 = .ok (.goto 4, 3) := by decide +kernel
theorem dX0_bars_47 : decode cX0_bars 47 = .ok (.iconst 0, 1) := by decide +kernel
theorem dX0_bars_48 : decode cX0_bars 48 = .ok (.ireturn, 1) := by decide +kernel
set_option maxRecDepth 20000 in
theorem ggX0_isFreeAt_X0_bars : GoodIn wsX0_isFreeAt wsX0_bars := goodIn_r _ [6, 7, 8, 9, 10, 11, 12, 5, 13, 14, 15, 16, 17, 18, 19, 20, 21, 22, 23, 24, 25, 26, 27, 28, 29, 30, 31, 32, 33, 34, 35, 36, 37, 38, 39, 40, 41, 42, 43, 44, 45, 46, 47] (by decide +kernel) (by decide +kernel)
set_option maxRecDepth 20000 in
theorem gX0_isFreeAt_X0_bars : GoodIn wsX0_isFreeAt (wsV RX0 104 RX0 yX0_bars wsX0_bars) := goodIn_app (goodIn_of _ (by decide +kernel)) ggX0_isFreeAt_X0_bars
theorem dX0_isFreeAt_0 : decode cX0_isFreeAt 0 = .ok (.iconst 0, 1) := by decide +kernel
theorem dX0_isFreeAt_1 : decode cX0_isFreeAt 1 = .ok (.istore 4, 2) := by decide +kernel
theorem dX0_isFreeAt_3 : decode cX0_isFreeAt 3 = .ok (.iload 4, 2) := by decide +kernel
theorem dX0_isFreeAt_5 : decode cX0_isFreeAt 5 = .ok (.aload_n 0, 1) := by decide +kernel
theorem dX0_isFreeAt_6 : decode cX0_isFreeAt 6 = .ok (.getfield 74, 3) := by decide +kernel
theorem dX0_isFreeAt_9 : decode cX0_isFreeAt 9 = .ok (.if_icmp .ge 23, 3) := by decide +kernel
theorem dX0_isFreeAt_12 : decode cX0_isFreeAt 12 = .ok (.aload_n 0, 1) := by decide +kernel
theorem dX0_isFreeAt_13 : decode cX0_isFreeAt 13 = .ok (.iload 4, 2) := by decide +kernel
theorem dX0_isFreeAt_15 : decode cX0_isFreeAt 15 = .ok (.iload_n 1, 1) := by decide +kernel
theorem dX0_isFreeAt_16 : decode cX0_isFreeAt 16 = .ok (.iload_n 2, 1) := by decide +kernel
theorem dX0_isFreeAt_17 : decode cX0_isFreeAt 17 = .ok (.iload_n 3, 1) := by decide +kernel
theorem dX0_isFreeAt_18 : decode cX0_isFreeAt 18 = .ok (.invokevirtual 104, 3) := by decide +kernel
theorem dX0_isFreeAt_21 : decode cX0_isFreeAt 21 = .ok (.ifCond .eq 5, 3) := by decide +kernel
theorem dX0_isFreeAt_24 : decode cX0_isFreeAt 24 = .ok (.iconst 0, 1) := by decide +kernel
theorem dX0_isFreeAt_25 : decode cX0_isFreeAt 25 = .ok (.ireturn, 1) := by decide +kernel
theorem dX0_isFreeAt_26 : decode cX0_isFreeAt 26 = .ok (.iinc 4 1, 3) := by decide +kernel
theorem dX0_isFreeAt_29 : decode cX0_isFreeAt 29 = .ok (.goto (-26), 3) := by decide +kernel
theorem dX0_isFreeAt_32 : decode cX0_isFreeAt 32 = .ok (.iconst 1, 1) := by decide +kernel
theorem dX0_isFreeAt_33 : decode cX0_isFreeAt 33 = .ok (.ireturn, 1) := by decide +kernel
theorem dX0_stampPlace_0 : decode cX0_stampPlace 0 = .ok (.iload_n 0, 1) := by decide +kernel
theorem dX0_stampPlace_1 : decode cX0_stampPlace 1 = .ok (.iconst 4, 1) := by decide +kernel
theorem dX0_stampPlace_2 : decode cX0_stampPlace 2 = .ok (.imul, 1) := by decide +kernel
theorem dX0_stampPlace_3 : decode cX0_stampPlace 3 = .ok (.iload_n 1, 1) := by decide +kernel
theorem dX0_stampPlace_4 : decode cX0_stampPlace 4 = .ok (.iadd, 1) := by decide +kernel
theorem dX0_stampPlace_5 : decode cX0_stampPlace 5 = .ok (.ireturn, 1) := by decide +kernel
set_option maxRecDepth 20000 in
theorem ggX0_missing_X0_bars : GoodIn wsX0_missing wsX0_bars := goodIn_r _ [13, 14, 15, 16, 17, 18, 19, 12, 20, 21, 22, 23, 24, 25, 26, 27, 28, 29, 30, 31, 32, 33, 34, 35, 36, 37, 38, 42, 43, 44, 45, 46, 47, 48, 49, 50, 51, 52, 53, 54, 55, 56, 57] (by decide +kernel) (by decide +kernel)
set_option maxRecDepth 20000 in
theorem gX0_missing_X0_bars : GoodIn wsX0_missing (wsV RX0 104 RX0 yX0_bars wsX0_bars) := goodIn_app (goodIn_of _ (by decide +kernel)) ggX0_missing_X0_bars
set_option maxRecDepth 20000 in
theorem ggX0_missing_X0_stampPlace : GoodIn wsX0_missing wsX0_stampPlace := goodIn_r _ [41] (by decide +kernel) (by decide +kernel)
set_option maxRecDepth 20000 in
theorem gX0_missing_X0_stampPlace : GoodIn wsX0_missing (va_wsS RX0 92 yX0_stampPlace wsX0_stampPlace) := goodIn_app (goodIn_of _ (by decide +kernel)) ggX0_missing_X0_stampPlace
theorem dX0_missing_0 : decode cX0_missing 0 = .ok (.iconst 0, 1) := by decide +kernel
theorem dX0_missing_1 : decode cX0_missing 1 = .ok (.istore 4, 2) := by decide +kernel
theorem dX0_missing_3 : decode cX0_missing 3 = .ok (.iconst 0, 1) := by decide +kernel
theorem dX0_missing_4 : decode cX0_missing 4 = .ok (.istore 5, 2) := by decide +kernel
theorem dX0_missing_6 : decode cX0_missing 6 = .ok (.iload 5, 2) := by decide +kernel
theorem dX0_missing_8 : decode cX0_missing 8 = .ok (.iconst 4, 1) := by decide +kernel
theorem dX0_missing_9 : decode cX0_missing 9 = .ok (.if_icmp .ge 89, 3) := by decide +kernel
theorem dX0_missing_12 : decode cX0_missing 12 = .ok (.iconst 0, 1) := by decide +kernel
theorem dX0_missing_13 : decode cX0_missing 13 = .ok (.istore 6, 2) := by decide +kernel
theorem dX0_missing_15 : decode cX0_missing 15 = .ok (.iconst 0, 1) := by decide +kernel
theorem dX0_missing_16 : decode cX0_missing 16 = .ok (.istore 7, 2) := by decide +kernel
theorem dX0_missing_18 : decode cX0_missing 18 = .ok (.iload 7, 2) := by decide +kernel
theorem dX0_missing_20 : decode cX0_missing 20 = .ok (.aload_n 0, 1) := by decide +kernel
theorem dX0_missing_21 : decode cX0_missing 21 = .ok (.getfield 74, 3) := by decide +kernel
theorem dX0_missing_24 : decode cX0_missing 24 = .ok (.if_icmp .ge 45, 3) := by decide +kernel
theorem dX0_missing_27 : decode cX0_missing 27 = .ok (.iload 7, 2) := by decide +kernel
theorem dX0_missing_29 : decode cX0_missing 29 = .ok (.iload_n 3, 1) := by decide +kernel
theorem dX0_missing_30 : decode cX0_missing 30 = .ok (.if_icmp .eq 33, 3) := by decide +kernel
theorem dX0_missing_33 : decode cX0_missing 33 = .ok (.aload_n 0, 1) := by decide +kernel
theorem dX0_missing_34 : decode cX0_missing 34 = .ok (.getfield 19, 3) := by decide +kernel
theorem dX0_missing_37 : decode cX0_missing 37 = .ok (.iload 7, 2) := by decide +kernel
theorem dX0_missing_39 : decode cX0_missing 39 = .ok (.iaload, 1) := by decide +kernel
theorem dX0_missing_40 : decode cX0_missing 40 = .ok (.iload 5, 2) := by decide +kernel
theorem dX0_missing_42 : decode cX0_missing 42 = .ok (.if_icmp .ne 21, 3) := by decide +kernel
theorem dX0_missing_45 : decode cX0_missing 45 = .ok (.aload_n 0, 1) := by decide +kernel
theorem dX0_missing_46 : decode cX0_missing 46 = .ok (.iload 7, 2) := by decide +kernel
theorem dX0_missing_48 : decode cX0_missing 48 = .ok (.iload_n 1, 1) := by decide +kernel
theorem dX0_missing_49 : decode cX0_missing 49 = .ok (.iload_n 2, 1) := by decide +kernel
theorem dX0_missing_50 : decode cX0_missing 50 = .ok (.aload_n 0, 1) := by decide +kernel
theorem dX0_missing_51 : decode cX0_missing 51 = .ok (.getfield 101, 3) := by decide +kernel
theorem dX0_missing_54 : decode cX0_missing 54 = .ok (.invokevirtual 104, 3) := by decide +kernel
theorem dX0_missing_57 : decode cX0_missing 57 = .ok (.ifCond .eq 6, 3) := by decide +kernel
theorem dX0_missing_60 : decode cX0_missing 60 = .ok (.iinc 6 1, 3) := by decide +kernel
theorem dX0_missing_63 : decode cX0_missing 63 = .ok (.iinc 7 1, 3) := by decide +kernel
theorem dX0_missing_66 : decode cX0_missing 66 = .ok (.goto (-48), 3) := by decide +kernel
theorem dX0_missing_69 : decode cX0_missing 69 = .ok (.iload 4, 2) := by decide +kernel
theorem dX0_missing_71 : decode cX0_missing 71 = .ok (.iconst 0, 1) := by decide +kernel
theorem dX0_missing_72 : decode cX0_missing 72 = .ok (.iload 6, 2) := by decide +kernel
theorem dX0_missing_74 : decode cX0_missing 74 = .ok (.aload_n 0, 1) := by decide +kernel
theorem dX0_missing_75 : decode cX0_missing 75 = .ok (.getfield 38, 3) := by decide +kernel
theorem dX0_missing_78 : decode cX0_missing 78 = .ok (.iload_n 1, 1) := by decide +kernel
theorem dX0_missing_79 : decode cX0_missing 79 = .ok (.iload 5, 2) := by decide +kernel
theorem dX0_missing_81 : decode cX0_missing 81 = .ok (.invokestatic 92, 3) := by decide +kernel
theorem dX0_missing_84 : decode cX0_missing 84 = .ok (.iaload, 1) := by decide +kernel
theorem dX0_missing_85 : decode cX0_missing 85 = .ok (.isub, 1) := by decide +kernel
theorem dX0_missing_86 : decode cX0_missing 86 = .ok (.invokestatic 187, 3) := by decide +kernel
theorem dX0_missing_89 : decode cX0_missing 89 = .ok (.iadd, 1) := by decide +kernel
theorem dX0_missing_90 : decode cX0_missing 90 = .ok (.istore 4, 2) := by decide +kernel
theorem dX0_missing_92 : decode cX0_missing 92 = .ok (.iinc 5 1, 3) := by decide +kernel
theorem dX0_missing_95 : decode cX0_missing 95 = .ok (.goto (-89), 3) := by decide +kernel
theorem dX0_missing_98 : decode cX0_missing 98 = .ok (.iload 4, 2) := by decide +kernel
theorem dX0_missing_100 : decode cX0_missing 100 = .ok (.ireturn, 1) := by decide +kernel
theorem dX0_requireOrder_0 : decode cX0_requireOrder 0 = .ok (.iload_n 1, 1) := by decide +kernel
theorem dX0_requireOrder_1 : decode cX0_requireOrder 1 = .ok (.ifCond .lt 11, 3) := by decide +kernel
theorem dX0_requireOrder_4 : decode cX0_requireOrder 4 = .ok (.iload_n 1, 1) := by decide +kernel
theorem dX0_requireOrder_5 : decode cX0_requireOrder 5 = .ok (.aload_n 0, 1) := by decide +kernel
theorem dX0_requireOrder_6 : decode cX0_requireOrder 6 = .ok (.getfield 74, 3) := by decide +kernel
theorem dX0_requireOrder_9 : decode cX0_requireOrder 9 = .ok (.if_icmp .lt 13, 3) := by decide +kernel
theorem dX0_requireOrder_12 : decode cX0_requireOrder 12 = .ok (.new 190, 3) := by decide +kernel
theorem dX0_requireOrder_15 : decode cX0_requireOrder 15 = .ok (.dup, 1) := by decide +kernel
theorem dX0_requireOrder_16 : decode cX0_requireOrder 16 = .ok (.ldc 195, 2) := by decide +kernel
theorem dX0_requireOrder_18 : decode cX0_requireOrder 18 = .ok (.invokespecial 194, 3) := by decide +kernel
theorem dX0_requireOrder_21 : decode cX0_requireOrder 21 = .ok (.athrow, 1) := by decide +kernel
theorem dX0_requireOrder_22 : decode cX0_requireOrder 22 = .ok (.return_, 1) := by decide +kernel
theorem dX0_requirePerson_0 : decode cX0_requirePerson 0 = .ok (.iload_n 1, 1) := by decide +kernel
theorem dX0_requirePerson_1 : decode cX0_requirePerson 1 = .ok (.ifCond .lt 11, 3) := by decide +kernel
theorem dX0_requirePerson_4 : decode cX0_requirePerson 4 = .ok (.iload_n 1, 1) := by decide +kernel
theorem dX0_requirePerson_5 : decode cX0_requirePerson 5 = .ok (.aload_n 0, 1) := by decide +kernel
theorem dX0_requirePerson_6 : decode cX0_requirePerson 6 = .ok (.getfield 59, 3) := by decide +kernel
theorem dX0_requirePerson_9 : decode cX0_requirePerson 9 = .ok (.if_icmp .lt 13, 3) := by decide +kernel
theorem dX0_requirePerson_12 : decode cX0_requirePerson 12 = .ok (.new 190, 3) := by decide +kernel
theorem dX0_requirePerson_15 : decode cX0_requirePerson 15 = .ok (.dup, 1) := by decide +kernel
theorem dX0_requirePerson_16 : decode cX0_requirePerson 16 = .ok (.ldc 197, 2) := by decide +kernel
theorem dX0_requirePerson_18 : decode cX0_requirePerson 18 = .ok (.invokespecial 194, 3) := by decide +kernel
theorem dX0_requirePerson_21 : decode cX0_requirePerson 21 = .ok (.athrow, 1) := by decide +kernel
theorem dX0_requirePerson_22 : decode cX0_requirePerson 22 = .ok (.return_, 1) := by decide +kernel
end
section
set_option maxRecDepth 20000 in
theorem ggL_law_L_cell : GoodIn wsL_law wsL_cell := goodIn_r _ [38, 39] (by decide +kernel) (by decide +kernel)
set_option maxRecDepth 20000 in
theorem gL_law_L_cell : GoodIn wsL_law (va_wsS RL 94 yL_cell wsL_cell) := goodIn_app (goodIn_of _ (by decide +kernel)) ggL_law_L_cell
set_option maxRecDepth 20000 in
theorem ggL_law_X0_halfHour : GoodIn wsL_law wsX0_halfHour := goodIn_r _ [203, 157, 356, 357, 358, 359, 360, 361, 362, 363, 364, 365, 366, 367, 368, 369, 370, 371] (by decide +kernel) (by decide +kernel)
set_option maxRecDepth 20000 in
theorem gL_law_X0_halfHour : GoodIn wsL_law (wsV RL 107 RX0 yX0_halfHour wsX0_halfHour) := goodIn_app (goodIn_of _ (by decide +kernel)) ggL_law_X0_halfHour
set_option maxRecDepth 20000 in
theorem ggL_law_X0_dawnIn : GoodIn wsL_law wsX0_dawnIn := goodIn_ca (goodIn_r _ [207, 87, 88, 2, 89, 90, 91, 208, 209, 210, 211, 157, 173, 174, 175, 170, 171, 172, 356, 357, 358, 359, 360, 361, 362, 363, 364, 365, 366, 367, 368, 369, 370, 371] (by decide +kernel) (by decide +kernel)) (goodIn_sub (fun _ h => List.mem_append_right _ h) (by decide +kernel))
set_option maxRecDepth 20000 in
theorem gL_law_X0_dawnIn : GoodIn wsL_law (wsV RL 110 RX0 yX0_dawnIn wsX0_dawnIn) := goodIn_app (goodIn_of _ (by decide +kernel)) ggL_law_X0_dawnIn
set_option maxRecDepth 20000 in
theorem ggL_law_X0_duskIn : GoodIn wsL_law wsX0_duskIn := goodIn_ca (goodIn_r _ [215, 87, 88, 2, 89, 90, 91, 208, 209, 210, 211, 157, 166, 167, 168, 169, 112, 170, 171, 172, 356, 357, 358, 359, 360, 361, 362, 363, 364, 365, 366, 367, 368, 369, 370, 371] (by decide +kernel) (by decide +kernel)) (goodIn_sub (fun _ h => List.mem_append_right _ h) (by decide +kernel))
set_option maxRecDepth 20000 in
theorem gL_law_X0_duskIn : GoodIn wsL_law (wsV RL 113 RX0 yX0_duskIn wsX0_duskIn) := goodIn_app (goodIn_of _ (by decide +kernel)) ggL_law_X0_duskIn
set_option maxRecDepth 20000 in
theorem ggL_law_X0_shift : GoodIn wsL_law wsX0_shift := goodIn_r _ [219, 112, 356, 357, 358, 359, 360, 361, 362, 363, 364, 365, 366, 367, 368, 369, 370, 371] (by decide +kernel) (by decide +kernel)
set_option maxRecDepth 20000 in
theorem gL_law_X0_shift : GoodIn wsL_law (wsV RL 116 RX0 yX0_shift wsX0_shift) := goodIn_app (goodIn_of _ (by decide +kernel)) ggL_law_X0_shift
set_option maxRecDepth 20000 in
theorem ggL_law_X0_orders : GoodIn wsL_law wsX0_orders := goodIn_r _ [223, 79, 356, 357, 358, 359, 360, 361, 362, 363, 364, 365, 366, 367, 368, 369, 370, 371] (by decide +kernel) (by decide +kernel)
set_option maxRecDepth 20000 in
theorem gL_law_X0_orders : GoodIn wsL_law (wsV RL 118 RX0 yX0_orders wsX0_orders) := goodIn_app (goodIn_of _ (by decide +kernel)) ggL_law_X0_orders
set_option maxRecDepth 20000 in
theorem ggL_law_X0_isOn : GoodIn wsL_law wsX0_isOn := goodIn_ca (goodIn_r _ [227, 157, 96, 97, 98, 2, 99, 73, 74, 79, 196, 197, 198, 199, 15, 162, 163, 164, 165, 11, 12, 166, 167, 168, 169, 112, 170, 171, 172, 173, 174, 175, 356, 357, 358, 359, 360, 361, 362, 363, 364, 365, 366, 367, 368, 369, 370, 371] (by decide +kernel) (by decide +kernel)) (goodIn_sub (fun _ h => List.mem_append_left _ (List.mem_append_right _ h)) (by decide +kernel))
set_option maxRecDepth 20000 in
theorem gL_law_X0_isOn : GoodIn wsL_law (wsV RL 120 RX0 yX0_isOn wsX0_isOn) := goodIn_app (goodIn_of _ (by decide +kernel)) ggL_law_X0_isOn
set_option maxRecDepth 20000 in
theorem ggL_law_X0_isInForce : GoodIn wsL_law wsX0_isInForce := goodIn_ca (goodIn_r _ [231, 15, 96, 97, 98, 2, 99, 73, 74, 79, 356, 357, 358, 359, 360, 361, 362, 363, 364, 365, 366, 367, 368, 369, 370, 371] (by decide +kernel) (by decide +kernel)) (goodIn_sub (fun _ h => List.mem_append_left _ (List.mem_append_right _ h)) (by decide +kernel))
set_option maxRecDepth 20000 in
theorem gL_law_X0_isInForce : GoodIn wsL_law (wsV RL 123 RX0 yX0_isInForce wsX0_isInForce) := goodIn_app (goodIn_of _ (by decide +kernel)) ggL_law_X0_isInForce
set_option maxRecDepth 20000 in
theorem ggL_law_X0_halfHoursOn : GoodIn wsL_law wsX0_halfHoursOn := goodIn_ca (goodIn_r _ [235, 157, 96, 97, 98, 2, 99, 73, 74, 79, 162, 163, 164, 165, 11, 12, 166, 167, 168, 169, 112, 170, 171, 172, 173, 174, 175, 356, 357, 358, 359, 360, 361, 362, 363, 364, 365, 366, 367, 368, 369, 370, 371] (by decide +kernel) (by decide +kernel)) (goodIn_sub (fun _ h => List.mem_append_left _ (List.mem_append_right _ h)) (by decide +kernel))
set_option maxRecDepth 20000 in
theorem gL_law_X0_halfHoursOn : GoodIn wsL_law (wsV RL 126 RX0 yX0_halfHoursOn wsX0_halfHoursOn) := goodIn_app (goodIn_of _ (by decide +kernel)) ggL_law_X0_halfHoursOn
set_option maxRecDepth 20000 in
theorem ggL_law_X0_people : GoodIn wsL_law wsX0_people := goodIn_r _ [239, 69, 356, 357, 358, 359, 360, 361, 362, 363, 364, 365, 366, 367, 368, 369, 370, 371] (by decide +kernel) (by decide +kernel)
set_option maxRecDepth 20000 in
theorem gL_law_X0_people : GoodIn wsL_law (wsV RL 129 RX0 yX0_people wsX0_people) := goodIn_app (goodIn_of _ (by decide +kernel)) ggL_law_X0_people
set_option maxRecDepth 20000 in
theorem ggL_law_X0_tradeOf : GoodIn wsL_law wsX0_tradeOf := goodIn_ca (goodIn_r _ [243, 17, 118, 119, 120, 2, 121, 73, 74, 69, 356, 357, 358, 359, 360, 361, 362, 363, 364, 365, 366, 367, 368, 369, 370, 371] (by decide +kernel) (by decide +kernel)) (goodIn_sub (fun _ h => List.mem_append_left _ (List.mem_append_right _ h)) (by decide +kernel))
set_option maxRecDepth 20000 in
theorem gL_law_X0_tradeOf : GoodIn wsL_law (wsV RL 131 RX0 yX0_tradeOf wsX0_tradeOf) := goodIn_app (goodIn_of _ (by decide +kernel)) ggL_law_X0_tradeOf
set_option maxRecDepth 20000 in
theorem ggL_law_X0_isExempt : GoodIn wsL_law wsX0_isExempt := goodIn_ca (goodIn_r _ [247, 96, 97, 98, 2, 99, 73, 74, 79, 70, 71, 72, 100, 101, 102, 103, 16, 356, 357, 358, 359, 360, 361, 362, 363, 364, 365, 366, 367, 368, 369, 370, 371] (by decide +kernel) (by decide +kernel)) (goodIn_sub (fun _ h => List.mem_append_left _ (List.mem_append_right _ h)) (by decide +kernel))
set_option maxRecDepth 20000 in
theorem gL_law_X0_isExempt : GoodIn wsL_law (wsV RL 134 RX0 yX0_isExempt wsX0_isExempt) := goodIn_app (goodIn_of _ (by decide +kernel)) ggL_law_X0_isExempt
set_option maxRecDepth 20000 in
theorem ggL_law_X0_barredBy : GoodIn wsL_law wsX0_barredBy := goodIn_ca (goodIn_r _ [251, 69, 10, 157, 96, 97, 98, 2, 99, 73, 74, 79, 158, 159, 160, 161, 17, 15, 100, 101, 102, 103, 16, 162, 163, 164, 165, 11, 12, 166, 167, 168, 169, 112, 170, 171, 172, 173, 174, 175, 356, 357, 358, 359, 360, 361, 362, 363, 364, 365, 366, 367, 368, 369, 370, 371] (by decide +kernel) (by decide +kernel)) (goodIn_sub (fun _ h => List.mem_append_left _ (List.mem_append_right _ h)) (by decide +kernel))
set_option maxRecDepth 20000 in
theorem gL_law_X0_barredBy : GoodIn wsL_law (wsV RL 137 RX0 yX0_barredBy wsX0_barredBy) := goodIn_app (goodIn_of _ (by decide +kernel)) ggL_law_X0_barredBy
set_option maxRecDepth 20000 in
theorem ggL_law_X0_timesFined : GoodIn wsL_law wsX0_timesFined := goodIn_ca (goodIn_r _ [255, 18, 118, 119, 120, 2, 121, 73, 74, 69, 356, 357, 358, 359, 360, 361, 362, 363, 364, 365, 366, 367, 368, 369, 370, 371] (by decide +kernel) (by decide +kernel)) (goodIn_sub (fun _ h => List.mem_append_left _ (List.mem_append_right _ h)) (by decide +kernel))
set_option maxRecDepth 20000 in
theorem gL_law_X0_timesFined : GoodIn wsL_law (wsV RL 140 RX0 yX0_timesFined wsX0_timesFined) := goodIn_app (goodIn_of _ (by decide +kernel)) ggL_law_X0_timesFined
set_option maxRecDepth 20000 in
theorem ggL_law_X0_owes : GoodIn wsL_law wsX0_owes := goodIn_ca (goodIn_r _ [259, 19, 118, 119, 120, 2, 121, 73, 74, 69, 356, 357, 358, 359, 360, 361, 362, 363, 364, 365, 366, 367, 368, 369, 370, 371] (by decide +kernel) (by decide +kernel)) (goodIn_sub (fun _ h => List.mem_append_left _ (List.mem_append_right _ h)) (by decide +kernel))
set_option maxRecDepth 20000 in
theorem gL_law_X0_owes : GoodIn wsL_law (wsV RL 143 RX0 yX0_owes wsX0_owes) := goodIn_app (goodIn_of _ (by decide +kernel)) ggL_law_X0_owes
set_option maxRecDepth 20000 in
theorem ggL_law_X0_stampsOf : GoodIn wsL_law wsX0_stampsOf := goodIn_ca (goodIn_r _ [263, 20, 118, 119, 120, 2, 121, 73, 74, 69, 84, 85, 86, 122, 123, 124, 356, 357, 358, 359, 360, 361, 362, 363, 364, 365, 366, 367, 368, 369, 370, 371] (by decide +kernel) (by decide +kernel)) (goodIn_sub (fun _ h => List.mem_append_left _ (List.mem_append_right _ h)) (by decide +kernel))
set_option maxRecDepth 20000 in
theorem gL_law_X0_stampsOf : GoodIn wsL_law (wsV RL 146 RX0 yX0_stampsOf wsX0_stampsOf) := goodIn_app (goodIn_of _ (by decide +kernel)) ggL_law_X0_stampsOf
set_option maxRecDepth 20000 in
theorem ggL_law_X0_quarters : GoodIn wsL_law wsX0_quarters := goodIn_r _ [267, 64, 356, 357, 358, 359, 360, 361, 362, 363, 364, 365, 366, 367, 368, 369, 370, 371] (by decide +kernel) (by decide +kernel)
set_option maxRecDepth 20000 in
theorem gL_law_X0_quarters : GoodIn wsL_law (wsV RL 149 RX0 yX0_quarters wsX0_quarters) := goodIn_app (goodIn_of _ (by decide +kernel)) ggL_law_X0_quarters
set_option maxRecDepth 20000 in
theorem ggL_law_X0_ordersAgainst : GoodIn wsL_law wsX0_ordersAgainst := goodIn_ca (goodIn_r _ [271, 79, 157, 118, 119, 120, 2, 121, 73, 74, 69, 80, 81, 82, 83, 64, 158, 159, 160, 161, 10, 17, 15, 100, 101, 102, 103, 16, 162, 163, 164, 165, 11, 12, 166, 167, 168, 169, 112, 170, 171, 172, 173, 174, 175, 356, 357, 358, 359, 360, 361, 362, 363, 364, 365, 366, 367, 368, 369, 370, 371] (by decide +kernel) (by decide +kernel)) (goodIn_sub (fun _ h => List.mem_append_left _ (List.mem_append_right _ h)) (by decide +kernel))
set_option maxRecDepth 20000 in
theorem gL_law_X0_ordersAgainst : GoodIn wsL_law (wsV RL 151 RX0 yX0_ordersAgainst wsX0_ordersAgainst) := goodIn_app (goodIn_of _ (by decide +kernel)) ggL_law_X0_ordersAgainst
set_option maxRecDepth 20000 in
theorem ggL_law_X0_stampsMissing : GoodIn wsL_law wsX0_stampsMissing := goodIn_ca (goodIn_r _ [275, 118, 119, 120, 2, 121, 73, 74, 69, 80, 81, 82, 83, 64, 276, 277, 278, 279, 79, 13, 157, 20, 280, 281, 55, 282, 158, 159, 160, 161, 10, 17, 15, 100, 101, 102, 103, 16, 162, 163, 164, 165, 11, 12, 166, 167, 168, 169, 112, 170, 171, 172, 173, 174, 175, 122, 123, 124, 356, 357, 358, 359, 360, 361, 362, 363, 364, 365, 366, 367, 368, 369, 370, 371] (by decide +kernel) (by decide +kernel)) (goodIn_sub (fun _ h => List.mem_append_left _ (List.mem_append_right _ h)) (by decide +kernel))
set_option maxRecDepth 20000 in
theorem gL_law_X0_stampsMissing : GoodIn wsL_law (wsV RL 154 RX0 yX0_stampsMissing wsX0_stampsMissing) := goodIn_app (goodIn_of _ (by decide +kernel)) ggL_law_X0_stampsMissing
set_option maxRecDepth 20000 in
theorem ggL_law_X0_mayGo : GoodIn wsL_law wsX0_mayGo := goodIn_ca (goodIn_r _ [286, 118, 119, 120, 2, 121, 73, 74, 69, 80, 81, 82, 83, 64, 276, 277, 278, 279, 79, 13, 157, 20, 280, 281, 55, 282, 158, 159, 160, 161, 10, 17, 15, 100, 101, 102, 103, 16, 162, 163, 164, 165, 11, 12, 166, 167, 168, 169, 112, 170, 171, 172, 173, 174, 175, 122, 123, 124, 356, 357, 358, 359, 360, 361, 362, 363, 364, 365, 366, 367, 368, 369, 370, 371] (by decide +kernel) (by decide +kernel)) (goodIn_sub (fun _ h => List.mem_append_left _ (List.mem_append_right _ h)) (by decide +kernel))
set_option maxRecDepth 20000 in
theorem gL_law_X0_mayGo : GoodIn wsL_law (wsV RL 157 RX0 yX0_mayGo wsX0_mayGo) := goodIn_app (goodIn_of _ (by decide +kernel)) ggL_law_X0_mayGo
set_option maxRecDepth 20000 in
theorem ggL_law_X0_halfHoursUntilFree : GoodIn wsL_law wsX0_halfHoursUntilFree := goodIn_ca (goodIn_r _ [290, 157, 118, 119, 120, 2, 121, 73, 74, 69, 80, 81, 82, 83, 64, 291, 292, 293, 294, 79, 158, 159, 160, 161, 10, 17, 15, 100, 101, 102, 103, 16, 162, 163, 164, 165, 11, 12, 166, 167, 168, 169, 112, 170, 171, 172, 173, 174, 175, 356, 357, 358, 359, 360, 361, 362, 363, 364, 365, 366, 367, 368, 369, 370, 371] (by decide +kernel) (by decide +kernel)) (goodIn_sub (fun _ h => List.mem_append_left _ (List.mem_append_right _ h)) (by decide +kernel))
set_option maxRecDepth 20000 in
theorem gL_law_X0_halfHoursUntilFree : GoodIn wsL_law (wsV RL 160 RX0 yX0_halfHoursUntilFree wsX0_halfHoursUntilFree) := goodIn_app (goodIn_of _ (by decide +kernel)) ggL_law_X0_halfHoursUntilFree
set_option maxRecDepth 20000 in
theorem ggL_law_X0_ordersOn : GoodIn wsL_law wsX0_ordersOn := goodIn_r _ [298, 79, 157, 196, 197, 198, 2, 199, 15, 162, 163, 164, 165, 11, 12, 166, 167, 168, 169, 112, 170, 171, 172, 173, 174, 175, 356, 357, 358, 359, 360, 361, 362, 363, 364, 365, 366, 367, 368, 369, 370, 371] (by decide +kernel) (by decide +kernel)
set_option maxRecDepth 20000 in
theorem gL_law_X0_ordersOn : GoodIn wsL_law (wsV RL 163 RX0 yX0_ordersOn wsX0_ordersOn) := goodIn_app (goodIn_of _ (by decide +kernel)) ggL_law_X0_ordersOn
set_option maxRecDepth 20000 in
theorem ggL_law_X0_allOwe : GoodIn wsL_law wsX0_allOwe := goodIn_r _ [302, 69, 19, 356, 357, 358, 359, 360, 361, 362, 363, 364, 365, 366, 367, 368, 369, 370, 371] (by decide +kernel) (by decide +kernel)
set_option maxRecDepth 20000 in
theorem gL_law_X0_allOwe : GoodIn wsL_law (wsV RL 166 RX0 yX0_allOwe wsX0_allOwe) := goodIn_app (goodIn_of _ (by decide +kernel)) ggL_law_X0_allOwe
theorem dL_law_21 : decode cL_law 21 = .ok (.istore_n 3, 1) := by decide +kernel
theorem dL_law_22 : decode cL_law 22 = .ok (.iload_n 3, 1) := by decide +kernel
theorem dL_law_23 : decode cL_law 23 = .ok (.bipush 24, 2) := by decide +kernel
theorem dL_law_25 : decode cL_law 25 = .ok (.if_icmp .ge 660, 3) := by decide +kernel
theorem dL_law_28 : decode cL_law 28 = .ok (.aload_n 0, 1) := by decide +kernel
theorem dL_law_29 : decode cL_law 29 = .ok (.iload_n 3, 1) := by decide +kernel
theorem dL_law_30 : decode cL_law 30 = .ok (.bipush 16, 2) := by decide +kernel
theorem dL_law_32 : decode cL_law 32 = .ok (.irem, 1) := by decide +kernel
theorem dL_law_33 : decode cL_law 33 = .ok (.invokestatic 94, 3) := by decide +kernel
theorem dL_law_36 : decode cL_law 36 = .ok (.iload_n 3, 1) := by decide +kernel
theorem dL_law_37 : decode cL_law 37 = .ok (.bipush 16, 2) := by decide +kernel
theorem dL_law_39 : decode cL_law 39 = .ok (.idiv, 1) := by decide +kernel
theorem dL_law_40 : decode cL_law 40 = .ok (.iconst 3, 1) := by decide +kernel
theorem dL_law_41 : decode cL_law 41 = .ok (.imul, 1) := by decide +kernel
theorem dL_law_42 : decode cL_law 42 = .ok (.ishr, 1) := by decide +kernel
theorem dL_law_43 : decode cL_law 43 = .ok (.sipush 523, 3) := by decide +kernel
theorem dL_law_46 : decode cL_law 46 = .ok (.iload_n 3, 1) := by decide +kernel
theorem dL_law_47 : decode cL_law 47 = .ok (.imul, 1) := by decide +kernel
theorem dL_law_48 : decode cL_law 48 = .ok (.iadd, 1) := by decide +kernel
theorem dL_law_49 : decode cL_law 49 = .ok (.istore 4, 2) := by decide +kernel
theorem dL_law_51 : decode cL_law 51 = .ok (.iconst 0, 1) := by decide +kernel
theorem dL_law_52 : decode cL_law 52 = .ok (.istore 5, 2) := by decide +kernel
theorem dL_law_54 : decode cL_law 54 = .ok (.iload 5, 2) := by decide +kernel
theorem dL_law_56 : decode cL_law 56 = .ok (.iconst 2, 1) := by decide +kernel
theorem dL_law_57 : decode cL_law 57 = .ok (.if_icmp .ge 33, 3) := by decide +kernel
theorem dL_law_60 : decode cL_law 60 = .ok (.aload_n 1, 1) := by decide +kernel
theorem dL_law_61 : decode cL_law 61 = .ok (.aload_n 2, 1) := by decide +kernel
theorem dL_law_62 : decode cL_law 62 = .ok (.iload 4, 2) := by decide +kernel
theorem dL_law_64 : decode cL_law 64 = .ok (.iconst 2, 1) := by decide +kernel
theorem dL_law_65 : decode cL_law 65 = .ok (.iload 5, 2) := by decide +kernel
theorem dL_law_67 : decode cL_law 67 = .ok (.imul, 1) := by decide +kernel
theorem dL_law_68 : decode cL_law 68 = .ok (.ishr, 1) := by decide +kernel
theorem dL_law_69 : decode cL_law 69 = .ok (.sipush 409, 3) := by decide +kernel
theorem dL_law_72 : decode cL_law 72 = .ok (.iload 5, 2) := by decide +kernel
theorem dL_law_74 : decode cL_law 74 = .ok (.imul, 1) := by decide +kernel
theorem dL_law_75 : decode cL_law 75 = .ok (.iadd, 1) := by decide +kernel
theorem dL_law_76 : decode cL_law 76 = .ok (.invokestatic 98, 3) := by decide +kernel
theorem dL_law_79 : decode cL_law 79 = .ok (.ifCond .ne 5, 3) := by decide +kernel
theorem dL_law_82 : decode cL_law 82 = .ok (.iconst 0, 1) := by decide +kernel
theorem dL_law_83 : decode cL_law 83 = .ok (.ireturn, 1) := by decide +kernel
theorem dL_law_84 : decode cL_law 84 = .ok (.iinc 5 1, 3) := by decide +kernel
theorem dL_law_87 : decode cL_law 87 = .ok (.goto (-33), 3) := by decide +kernel
theorem dL_law_90 : decode cL_law 90 = .ok (.aload_n 1, 1) := by decide +kernel
theorem dL_law_91 : decode cL_law 91 = .ok (.invokevirtual 107, 3) := by decide +kernel
theorem dL_law_94 : decode cL_law 94 = .ok (.istore 5, 2) := by decide +kernel
theorem dL_law_96 : decode cL_law 96 = .ok (.bipush 14, 2) := by decide +kernel
theorem dL_law_98 : decode cL_law 98 = .ok (.aload_n 1, 1) := by decide +kernel
theorem dL_law_99 : decode cL_law 99 = .ok (.iconst 0, 1) := by decide +kernel
theorem dL_law_100 : decode cL_law 100 = .ok (.invokevirtual 110, 3) := by decide +kernel
theorem dL_law_103 : decode cL_law 103 = .ok (.isub, 1) := by decide +kernel
theorem dL_law_104 : decode cL_law 104 = .ok (.istore 6, 2) := by decide +kernel
theorem dL_law_106 : decode cL_law 106 = .ok (.iload 5, 2) := by decide +kernel
theorem dL_law_108 : decode cL_law 108 = .ok (.ifCond .lt 56, 3) := by decide +kernel
theorem dL_law_111 : decode cL_law 111 = .ok (.iload 5, 2) := by decide +kernel
theorem dL_law_113 : decode cL_law 113 = .ok (.bipush 47, 2) := by decide +kernel
theorem dL_law_115 : decode cL_law 115 = .ok (.if_icmp .gt 49, 3) := by decide +kernel
theorem dL_law_118 : decode cL_law 118 = .ok (.iload 6, 2) := by decide +kernel
theorem dL_law_120 : decode cL_law 120 = .ok (.ifCond .lt 44, 3) := by decide +kernel
theorem dL_law_123 : decode cL_law 123 = .ok (.iload 6, 2) := by decide +kernel
theorem dL_law_125 : decode cL_law 125 = .ok (.iconst 4, 1) := by decide +kernel
theorem dL_law_126 : decode cL_law 126 = .ok (.if_icmp .gt 38, 3) := by decide +kernel
theorem dL_law_129 : decode cL_law 129 = .ok (.aload_n 1, 1) := by decide +kernel
theorem dL_law_130 : decode cL_law 130 = .ok (.iconst 0, 1) := by decide +kernel
theorem dL_law_131 : decode cL_law 131 = .ok (.invokevirtual 113, 3) := by decide +kernel
theorem dL_law_134 : decode cL_law 134 = .ok (.bipush 34, 2) := by decide +kernel
theorem dL_law_136 : decode cL_law 136 = .ok (.iload 6, 2) := by decide +kernel
theorem dL_law_138 : decode cL_law 138 = .ok (.iadd, 1) := by decide +kernel
theorem dL_law_139 : decode cL_law 139 = .ok (.aload_n 1, 1) := by decide +kernel
theorem dL_law_140 : decode cL_law 140 = .ok (.invokevirtual 116, 3) := by decide +kernel
theorem dL_law_143 : decode cL_law 143 = .ok (.iadd, 1) := by decide +kernel
theorem dL_law_144 : decode cL_law 144 = .ok (.if_icmp .ne 20, 3) := by decide +kernel
theorem dL_law_147 : decode cL_law 147 = .ok (.aload_n 1, 1) := by decide +kernel
theorem dL_law_148 : decode cL_law 148 = .ok (.invokevirtual 116, 3) := by decide +kernel
theorem dL_law_151 : decode cL_law 151 = .ok (.bipush (-4), 2) := by decide +kernel
theorem dL_law_153 : decode cL_law 153 = .ok (.if_icmp .lt 11, 3) := by decide +kernel
theorem dL_law_156 : decode cL_law 156 = .ok (.aload_n 1, 1) := by decide +kernel
theorem dL_law_157 : decode cL_law 157 = .ok (.invokevirtual 116, 3) := by decide +kernel
theorem dL_law_160 : decode cL_law 160 = .ok (.iconst 4, 1) := by decide +kernel
theorem dL_law_161 : decode cL_law 161 = .ok (.if_icmp .le 5, 3) := by decide +kernel
theorem dL_law_164 : decode cL_law 164 = .ok (.iconst 0, 1) := by decide +kernel
theorem dL_law_165 : decode cL_law 165 = .ok (.ireturn, 1) := by decide +kernel
theorem dL_law_166 : decode cL_law 166 = .ok (.iconst 0, 1) := by decide +kernel
theorem dL_law_167 : decode cL_law 167 = .ok (.istore 7, 2) := by decide +kernel
theorem dL_law_169 : decode cL_law 169 = .ok (.iconst 0, 1) := by decide +kernel
theorem dL_law_170 : decode cL_law 170 = .ok (.istore 8, 2) := by decide +kernel
theorem dL_law_172 : decode cL_law 172 = .ok (.iconst 0, 1) := by decide +kernel
theorem dL_law_173 : decode cL_law 173 = .ok (.istore 9, 2) := by decide +kernel
theorem dL_law_175 : decode cL_law 175 = .ok (.iload 9, 2) := by decide +kernel
theorem dL_law_177 : decode cL_law 177 = .ok (.aload_n 1, 1) := by decide +kernel
theorem dL_law_178 : decode cL_law 178 = .ok (.invokevirtual 118, 3) := by decide +kernel
theorem dL_law_181 : decode cL_law 181 = .ok (.if_icmp .ge 240, 3) := by decide +kernel
theorem dL_law_184 : decode cL_law 184 = .ok (.aload_n 1, 1) := by decide +kernel
theorem dL_law_185 : decode cL_law 185 = .ok (.iload 9, 2) := by decide +kernel
theorem dL_law_187 : decode cL_law 187 = .ok (.invokevirtual 120, 3) := by decide +kernel
theorem dL_law_190 : decode cL_law 190 = .ok (.istore 10, 2) := by decide +kernel
theorem dL_law_192 : decode cL_law 192 = .ok (.iload 7, 2) := by decide +kernel
theorem dL_law_194 : decode cL_law 194 = .ok (.iload 10, 2) := by decide +kernel
theorem dL_law_196 : decode cL_law 196 = .ok (.ifCond .eq 7, 3) := by decide +kernel
theorem dL_law_199 : decode cL_law 199 = .ok (.iconst 1, 1) := by decide +kernel
theorem dL_law_200 : decode cL_law 200 = .ok (.goto 4, 3) := by decide +kernel
theorem dL_law_203 : decode cL_law 203 = .ok (.iconst 0, 1) := by decide +kernel
theorem dL_law_204 : decode cL_law 204 = .ok (.iadd, 1) := by decide +kernel
theorem dL_law_205 : decode cL_law 205 = .ok (.istore 7, 2) := by decide +kernel
theorem dL_law_207 : decode cL_law 207 = .ok (.iload 5, 2) := by decide +kernel
theorem dL_law_209 : decode cL_law 209 = .ok (.aload_n 1, 1) := by decide +kernel
theorem dL_law_210 : decode cL_law 210 = .ok (.iconst 0, 1) := by decide +kernel
theorem dL_law_211 : decode cL_law 211 = .ok (.invokevirtual 113, 3) := by decide +kernel
theorem dL_law_214 : decode cL_law 214 = .ok (.if_icmp .ge 13, 3) := by decide +kernel
theorem dL_law_217 : decode cL_law 217 = .ok (.iload 5, 2) := by decide +kernel
theorem dL_law_219 : decode cL_law 219 = .ok (.aload_n 1, 1) := by decide +kernel
theorem dL_law_220 : decode cL_law 220 = .ok (.iconst 0, 1) := by decide +kernel
theorem dL_law_221 : decode cL_law 221 = .ok (.invokevirtual 110, 3) := by decide +kernel
theorem dL_law_224 : decode cL_law 224 = .ok (.if_icmp .ge 7, 3) := by decide +kernel
theorem dL_law_227 : decode cL_law 227 = .ok (.iconst 1, 1) := by decide +kernel
theorem dL_law_228 : decode cL_law 228 = .ok (.goto 4, 3) := by decide +kernel
theorem dL_law_231 : decode cL_law 231 = .ok (.iconst 0, 1) := by decide +kernel
theorem dL_law_232 : decode cL_law 232 = .ok (.istore 11, 2) := by decide +kernel
theorem dL_law_234 : decode cL_law 234 = .ok (.iload 5, 2) := by decide +kernel
theorem dL_law_236 : decode cL_law 236 = .ok (.aload_n 1, 1) := by decide +kernel
theorem dL_law_237 : decode cL_law 237 = .ok (.iconst 0, 1) := by decide +kernel
theorem dL_law_238 : decode cL_law 238 = .ok (.invokevirtual 110, 3) := by decide +kernel
theorem dL_law_241 : decode cL_law 241 = .ok (.iconst 4, 1) := by decide +kernel
theorem dL_law_242 : decode cL_law 242 = .ok (.iadd, 1) := by decide +kernel
theorem dL_law_243 : decode cL_law 243 = .ok (.if_icmp .lt 19, 3) := by decide +kernel
theorem dL_law_246 : decode cL_law 246 = .ok (.iload 5, 2) := by decide +kernel
theorem dL_law_248 : decode cL_law 248 = .ok (.aload_n 1, 1) := by decide +kernel
theorem dL_law_249 : decode cL_law 249 = .ok (.iconst 0, 1) := by decide +kernel
theorem dL_law_250 : decode cL_law 250 = .ok (.invokevirtual 113, 3) := by decide +kernel
theorem dL_law_253 : decode cL_law 253 = .ok (.iconst 4, 1) := by decide +kernel
theorem dL_law_254 : decode cL_law 254 = .ok (.isub, 1) := by decide +kernel
theorem dL_law_255 : decode cL_law 255 = .ok (.if_icmp .ge 7, 3) := by decide +kernel
theorem dL_law_258 : decode cL_law 258 = .ok (.iconst 1, 1) := by decide +kernel
theorem dL_law_259 : decode cL_law 259 = .ok (.goto 4, 3) := by decide +kernel
theorem dL_law_262 : decode cL_law 262 = .ok (.iconst 0, 1) := by decide +kernel
theorem dL_law_263 : decode cL_law 263 = .ok (.istore 12, 2) := by decide +kernel
theorem dL_law_265 : decode cL_law 265 = .ok (.iload 10, 2) := by decide +kernel
theorem dL_law_267 : decode cL_law 267 = .ok (.ifCond .eq 12, 3) := by decide +kernel
theorem dL_law_270 : decode cL_law 270 = .ok (.aload_n 1, 1) := by decide +kernel
theorem dL_law_271 : decode cL_law 271 = .ok (.iload 9, 2) := by decide +kernel
theorem dL_law_273 : decode cL_law 273 = .ok (.invokevirtual 123, 3) := by decide +kernel
theorem dL_law_276 : decode cL_law 276 = .ok (.ifCond .eq 53, 3) := by decide +kernel
theorem dL_law_279 : decode cL_law 279 = .ok (.iload 11, 2) := by decide +kernel
theorem dL_law_281 : decode cL_law 281 = .ok (.ifCond .eq 17, 3) := by decide +kernel
theorem dL_law_284 : decode cL_law 284 = .ok (.aload_n 1, 1) := by decide +kernel
theorem dL_law_285 : decode cL_law 285 = .ok (.iload 9, 2) := by decide +kernel
theorem dL_law_287 : decode cL_law 287 = .ok (.invokevirtual 123, 3) := by decide +kernel
theorem dL_law_290 : decode cL_law 290 = .ok (.ifCond .eq 8, 3) := by decide +kernel
theorem dL_law_293 : decode cL_law 293 = .ok (.iload 10, 2) := by decide +kernel
theorem dL_law_295 : decode cL_law 295 = .ok (.ifCond .eq 34, 3) := by decide +kernel
theorem dL_law_298 : decode cL_law 298 = .ok (.iload 12, 2) := by decide +kernel
theorem dL_law_300 : decode cL_law 300 = .ok (.ifCond .eq 8, 3) := by decide +kernel
theorem dL_law_303 : decode cL_law 303 = .ok (.iload 10, 2) := by decide +kernel
theorem dL_law_305 : decode cL_law 305 = .ok (.ifCond .ne 24, 3) := by decide +kernel
theorem dL_law_308 : decode cL_law 308 = .ok (.aload_n 1, 1) := by decide +kernel
theorem dL_law_309 : decode cL_law 309 = .ok (.iload 9, 2) := by decide +kernel
theorem dL_law_311 : decode cL_law 311 = .ok (.invokevirtual 126, 3) := by decide +kernel
theorem dL_law_314 : decode cL_law 314 = .ok (.iconst 1, 1) := by decide +kernel
theorem dL_law_315 : decode cL_law 315 = .ok (.if_icmp .lt 14, 3) := by decide +kernel
theorem dL_law_318 : decode cL_law 318 = .ok (.aload_n 1, 1) := by decide +kernel
theorem dL_law_319 : decode cL_law 319 = .ok (.iload 9, 2) := by decide +kernel
theorem dL_law_321 : decode cL_law 321 = .ok (.invokevirtual 126, 3) := by decide +kernel
theorem dL_law_324 : decode cL_law 324 = .ok (.bipush 48, 2) := by decide +kernel
theorem dL_law_326 : decode cL_law 326 = .ok (.if_icmp .le 5, 3) := by decide +kernel
theorem dL_law_329 : decode cL_law 329 = .ok (.iconst 0, 1) := by decide +kernel
theorem dL_law_330 : decode cL_law 330 = .ok (.ireturn, 1) := by decide +kernel
theorem dL_law_331 : decode cL_law 331 = .ok (.iconst 0, 1) := by decide +kernel
theorem dL_law_332 : decode cL_law 332 = .ok (.istore 13, 2) := by decide +kernel
theorem dL_law_334 : decode cL_law 334 = .ok (.iconst 0, 1) := by decide +kernel
theorem dL_law_335 : decode cL_law 335 = .ok (.istore 14, 2) := by decide +kernel
theorem dL_law_337 : decode cL_law 337 = .ok (.iload 14, 2) := by decide +kernel
theorem dL_law_339 : decode cL_law 339 = .ok (.aload_n 1, 1) := by decide +kernel
theorem dL_law_340 : decode cL_law 340 = .ok (.invokevirtual 129, 3) := by decide +kernel
theorem dL_law_343 : decode cL_law 343 = .ok (.if_icmp .ge 34, 3) := by decide +kernel
theorem dL_law_346 : decode cL_law 346 = .ok (.iload 13, 2) := by decide +kernel
theorem dL_law_348 : decode cL_law 348 = .ok (.aload_n 1, 1) := by decide +kernel
theorem dL_law_349 : decode cL_law 349 = .ok (.iload 9, 2) := by decide +kernel
theorem dL_law_351 : decode cL_law 351 = .ok (.aload_n 1, 1) := by decide +kernel
theorem dL_law_352 : decode cL_law 352 = .ok (.iload 14, 2) := by decide +kernel
theorem dL_law_354 : decode cL_law 354 = .ok (.invokevirtual 131, 3) := by decide +kernel
theorem dL_law_357 : decode cL_law 357 = .ok (.invokevirtual 134, 3) := by decide +kernel
theorem dL_law_360 : decode cL_law 360 = .ok (.ifCond .eq 7, 3) := by decide +kernel
theorem dL_law_363 : decode cL_law 363 = .ok (.iconst 1, 1) := by decide +kernel
theorem dL_law_364 : decode cL_law 364 = .ok (.goto 4, 3) := by decide +kernel
theorem dL_law_367 : decode cL_law 367 = .ok (.iconst 0, 1) := by decide +kernel
theorem dL_law_368 : decode cL_law 368 = .ok (.iadd, 1) := by decide +kernel
theorem dL_law_369 : decode cL_law 369 = .ok (.istore 13, 2) := by decide +kernel
theorem dL_law_371 : decode cL_law 371 = .ok (.iinc 14 1, 3) := by decide +kernel
theorem dL_law_374 : decode cL_law 374 = .ok (.goto (-37), 3) := by decide +kernel
theorem dL_law_377 : decode cL_law 377 = .ok (.aload_n 1, 1) := by decide +kernel
theorem dL_law_378 : decode cL_law 378 = .ok (.iload 9, 2) := by decide +kernel
theorem dL_law_380 : decode cL_law 380 = .ok (.invokevirtual 137, 3) := by decide +kernel
theorem dL_law_383 : decode cL_law 383 = .ok (.iload 10, 2) := by decide +kernel
theorem dL_law_385 : decode cL_law 385 = .ok (.ifCond .eq 13, 3) := by decide +kernel
theorem dL_law_388 : decode cL_law 388 = .ok (.aload_n 1, 1) := by decide +kernel
theorem dL_law_389 : decode cL_law 389 = .ok (.invokevirtual 129, 3) := by decide +kernel
theorem dL_law_392 : decode cL_law 392 = .ok (.iload 13, 2) := by decide +kernel
theorem dL_law_394 : decode cL_law 394 = .ok (.isub, 1) := by decide +kernel
theorem dL_law_395 : decode cL_law 395 = .ok (.goto 4, 3) := by decide +kernel
theorem dL_law_398 : decode cL_law 398 = .ok (.iconst 0, 1) := by decide +kernel
theorem dL_law_399 : decode cL_law 399 = .ok (.if_icmp .eq 5, 3) := by decide +kernel
theorem dL_law_402 : decode cL_law 402 = .ok (.iconst 0, 1) := by decide +kernel
theorem dL_law_403 : decode cL_law 403 = .ok (.ireturn, 1) := by decide +kernel
theorem dL_law_404 : decode cL_law 404 = .ok (.iload 8, 2) := by decide +kernel
theorem dL_law_406 : decode cL_law 406 = .ok (.aload_n 1, 1) := by decide +kernel
theorem dL_law_407 : decode cL_law 407 = .ok (.iload 9, 2) := by decide +kernel
theorem dL_law_409 : decode cL_law 409 = .ok (.invokevirtual 137, 3) := by decide +kernel
theorem dL_law_412 : decode cL_law 412 = .ok (.iadd, 1) := by decide +kernel
theorem dL_law_413 : decode cL_law 413 = .ok (.istore 8, 2) := by decide +kernel
theorem dL_law_415 : decode cL_law 415 = .ok (.iinc 9 1, 3) := by decide +kernel
theorem dL_law_418 : decode cL_law 418 = .ok (.goto (-243), 3) := by decide +kernel
theorem dL_law_421 : decode cL_law 421 = .ok (.iconst 0, 1) := by decide +kernel
theorem dL_law_422 : decode cL_law 422 = .ok (.istore 9, 2) := by decide +kernel
theorem dL_law_424 : decode cL_law 424 = .ok (.iconst 0, 1) := by decide +kernel
theorem dL_law_425 : decode cL_law 425 = .ok (.istore 10, 2) := by decide +kernel
theorem dL_law_427 : decode cL_law 427 = .ok (.iconst 0, 1) := by decide +kernel
theorem dL_law_428 : decode cL_law 428 = .ok (.istore 11, 2) := by decide +kernel
theorem dL_law_430 : decode cL_law 430 = .ok (.iload 11, 2) := by decide +kernel
theorem dL_law_432 : decode cL_law 432 = .ok (.aload_n 1, 1) := by decide +kernel
theorem dL_law_433 : decode cL_law 433 = .ok (.invokevirtual 129, 3) := by decide +kernel
theorem dL_law_436 : decode cL_law 436 = .ok (.if_icmp .ge 216, 3) := by decide +kernel
theorem dL_law_439 : decode cL_law 439 = .ok (.aload_n 1, 1) := by decide +kernel
theorem dL_law_440 : decode cL_law 440 = .ok (.iload 11, 2) := by decide +kernel
theorem dL_law_442 : decode cL_law 442 = .ok (.invokevirtual 140, 3) := by decide +kernel
theorem dL_law_445 : decode cL_law 445 = .ok (.istore 12, 2) := by decide +kernel
theorem dL_law_447 : decode cL_law 447 = .ok (.aload_n 1, 1) := by decide +kernel
theorem dL_law_448 : decode cL_law 448 = .ok (.iload 11, 2) := by decide +kernel
theorem dL_law_450 : decode cL_law 450 = .ok (.invokevirtual 143, 3) := by decide +kernel
theorem dL_law_453 : decode cL_law 453 = .ok (.iconst 5, 1) := by decide +kernel
theorem dL_law_454 : decode cL_law 454 = .ok (.iload 12, 2) := by decide +kernel
theorem dL_law_456 : decode cL_law 456 = .ok (.imul, 1) := by decide +kernel
theorem dL_law_457 : decode cL_law 457 = .ok (.iload 12, 2) := by decide +kernel
theorem dL_law_459 : decode cL_law 459 = .ok (.iconst 1, 1) := by decide +kernel
theorem dL_law_460 : decode cL_law 460 = .ok (.iadd, 1) := by decide +kernel
theorem dL_law_461 : decode cL_law 461 = .ok (.imul, 1) := by decide +kernel
theorem dL_law_462 : decode cL_law 462 = .ok (.if_icmp .eq 5, 3) := by decide +kernel
theorem dL_law_465 : decode cL_law 465 = .ok (.iconst 0, 1) := by decide +kernel
theorem dL_law_466 : decode cL_law 466 = .ok (.ireturn, 1) := by decide +kernel
theorem dL_law_467 : decode cL_law 467 = .ok (.iload 10, 2) := by decide +kernel
theorem dL_law_469 : decode cL_law 469 = .ok (.aload_n 1, 1) := by decide +kernel
theorem dL_law_470 : decode cL_law 470 = .ok (.iload 11, 2) := by decide +kernel
theorem dL_law_472 : decode cL_law 472 = .ok (.invokevirtual 143, 3) := by decide +kernel
theorem dL_law_475 : decode cL_law 475 = .ok (.iadd, 1) := by decide +kernel
theorem dL_law_476 : decode cL_law 476 = .ok (.istore 10, 2) := by decide +kernel
theorem dL_law_478 : decode cL_law 478 = .ok (.iconst 0, 1) := by decide +kernel
theorem dL_law_479 : decode cL_law 479 = .ok (.istore 13, 2) := by decide +kernel
theorem dL_law_481 : decode cL_law 481 = .ok (.iconst 0, 1) := by decide +kernel
theorem dL_law_482 : decode cL_law 482 = .ok (.istore 14, 2) := by decide +kernel
theorem dL_law_484 : decode cL_law 484 = .ok (.iload 14, 2) := by decide +kernel
theorem dL_law_486 : decode cL_law 486 = .ok (.iconst 4, 1) := by decide +kernel
theorem dL_law_487 : decode cL_law 487 = .ok (.if_icmp .ge 40, 3) := by decide +kernel
theorem dL_law_490 : decode cL_law 490 = .ok (.aload_n 1, 1) := by decide +kernel
theorem dL_law_491 : decode cL_law 491 = .ok (.iload 11, 2) := by decide +kernel
theorem dL_law_493 : decode cL_law 493 = .ok (.iload 14, 2) := by decide +kernel
theorem dL_law_495 : decode cL_law 495 = .ok (.invokevirtual 146, 3) := by decide +kernel
theorem dL_law_498 : decode cL_law 498 = .ok (.istore 15, 2) := by decide +kernel
theorem dL_law_500 : decode cL_law 500 = .ok (.iload 15, 2) := by decide +kernel
theorem dL_law_502 : decode cL_law 502 = .ok (.ifCond .lt 10, 3) := by decide +kernel
theorem dL_law_505 : decode cL_law 505 = .ok (.iload 15, 2) := by decide +kernel
theorem dL_law_507 : decode cL_law 507 = .ok (.bipush 9, 2) := by decide +kernel
theorem dL_law_509 : decode cL_law 509 = .ok (.if_icmp .le 5, 3) := by decide +kernel
theorem dL_law_512 : decode cL_law 512 = .ok (.iconst 0, 1) := by decide +kernel
theorem dL_law_513 : decode cL_law 513 = .ok (.ireturn, 1) := by decide +kernel
theorem dL_law_514 : decode cL_law 514 = .ok (.iload 13, 2) := by decide +kernel
theorem dL_law_516 : decode cL_law 516 = .ok (.iload 15, 2) := by decide +kernel
theorem dL_law_518 : decode cL_law 518 = .ok (.iadd, 1) := by decide +kernel
theorem dL_law_519 : decode cL_law 519 = .ok (.istore 13, 2) := by decide +kernel
theorem dL_law_521 : decode cL_law 521 = .ok (.iinc 14 1, 3) := by decide +kernel
theorem dL_law_524 : decode cL_law 524 = .ok (.goto (-40), 3) := by decide +kernel
theorem dL_law_527 : decode cL_law 527 = .ok (.iconst 0, 1) := by decide +kernel
theorem dL_law_528 : decode cL_law 528 = .ok (.istore 14, 2) := by decide +kernel
theorem dL_law_530 : decode cL_law 530 = .ok (.iload 14, 2) := by decide +kernel
theorem dL_law_532 : decode cL_law 532 = .ok (.aload_n 1, 1) := by decide +kernel
theorem dL_law_533 : decode cL_law 533 = .ok (.invokevirtual 149, 3) := by decide +kernel
theorem dL_law_536 : decode cL_law 536 = .ok (.if_icmp .ge 110, 3) := by decide +kernel
theorem dL_law_539 : decode cL_law 539 = .ok (.aload_n 1, 1) := by decide +kernel
theorem dL_law_540 : decode cL_law 540 = .ok (.iload 11, 2) := by decide +kernel
theorem dL_law_542 : decode cL_law 542 = .ok (.iload 14, 2) := by decide +kernel
theorem dL_law_544 : decode cL_law 544 = .ok (.invokevirtual 151, 3) := by decide +kernel
theorem dL_law_547 : decode cL_law 547 = .ok (.istore 15, 2) := by decide +kernel
theorem dL_law_549 : decode cL_law 549 = .ok (.aload_n 1, 1) := by decide +kernel
theorem dL_law_550 : decode cL_law 550 = .ok (.iload 11, 2) := by decide +kernel
theorem dL_law_552 : decode cL_law 552 = .ok (.iload 14, 2) := by decide +kernel
theorem dL_law_554 : decode cL_law 554 = .ok (.invokevirtual 154, 3) := by decide +kernel
theorem dL_law_557 : decode cL_law 557 = .ok (.istore 16, 2) := by decide +kernel
theorem dL_law_559 : decode cL_law 559 = .ok (.iload 9, 2) := by decide +kernel
theorem dL_law_561 : decode cL_law 561 = .ok (.iload 15, 2) := by decide +kernel
theorem dL_law_563 : decode cL_law 563 = .ok (.iadd, 1) := by decide +kernel
theorem dL_law_564 : decode cL_law 564 = .ok (.istore 9, 2) := by decide +kernel
theorem dL_law_566 : decode cL_law 566 = .ok (.iload 16, 2) := by decide +kernel
theorem dL_law_568 : decode cL_law 568 = .ok (.ifCond .lt 70, 3) := by decide +kernel
theorem dL_law_571 : decode cL_law 571 = .ok (.iload 16, 2) := by decide +kernel
theorem dL_law_573 : decode cL_law 573 = .ok (.iload 15, 2) := by decide +kernel
theorem dL_law_575 : decode cL_law 575 = .ok (.if_icmp .gt 63, 3) := by decide +kernel
theorem dL_law_578 : decode cL_law 578 = .ok (.iload 16, 2) := by decide +kernel
theorem dL_law_580 : decode cL_law 580 = .ok (.iload 15, 2) := by decide +kernel
theorem dL_law_582 : decode cL_law 582 = .ok (.iload 13, 2) := by decide +kernel
theorem dL_law_584 : decode cL_law 584 = .ok (.isub, 1) := by decide +kernel
theorem dL_law_585 : decode cL_law 585 = .ok (.if_icmp .lt 53, 3) := by decide +kernel
theorem dL_law_588 : decode cL_law 588 = .ok (.aload_n 1, 1) := by decide +kernel
theorem dL_law_589 : decode cL_law 589 = .ok (.iload 11, 2) := by decide +kernel
theorem dL_law_591 : decode cL_law 591 = .ok (.iload 14, 2) := by decide +kernel
theorem dL_law_593 : decode cL_law 593 = .ok (.invokevirtual 157, 3) := by decide +kernel
theorem dL_law_596 : decode cL_law 596 = .ok (.iload 16, 2) := by decide +kernel
theorem dL_law_598 : decode cL_law 598 = .ok (.ifCond .ne 7, 3) := by decide +kernel
theorem dL_law_601 : decode cL_law 601 = .ok (.iconst 1, 1) := by decide +kernel
theorem dL_law_602 : decode cL_law 602 = .ok (.goto 4, 3) := by decide +kernel
theorem dL_law_605 : decode cL_law 605 = .ok (.iconst 0, 1) := by decide +kernel
theorem dL_law_606 : decode cL_law 606 = .ok (.if_icmp .ne 32, 3) := by decide +kernel
theorem dL_law_609 : decode cL_law 609 = .ok (.iload 15, 2) := by decide +kernel
theorem dL_law_611 : decode cL_law 611 = .ok (.ifCond .ne 7, 3) := by decide +kernel
theorem dL_law_614 : decode cL_law 614 = .ok (.iconst 1, 1) := by decide +kernel
theorem dL_law_615 : decode cL_law 615 = .ok (.goto 4, 3) := by decide +kernel
theorem dL_law_618 : decode cL_law 618 = .ok (.iconst 0, 1) := by decide +kernel
theorem dL_law_619 : decode cL_law 619 = .ok (.aload_n 1, 1) := by decide +kernel
theorem dL_law_620 : decode cL_law 620 = .ok (.iload 11, 2) := by decide +kernel
theorem dL_law_622 : decode cL_law 622 = .ok (.iload 14, 2) := by decide +kernel
theorem dL_law_624 : decode cL_law 624 = .ok (.invokevirtual 160, 3) := by decide +kernel
theorem dL_law_627 : decode cL_law 627 = .ok (.ifCond .ne 7, 3) := by decide +kernel
theorem dL_law_630 : decode cL_law 630 = .ok (.iconst 1, 1) := by decide +kernel
theorem dL_law_631 : decode cL_law 631 = .ok (.goto 4, 3) := by decide +kernel
theorem dL_law_634 : decode cL_law 634 = .ok (.iconst 0, 1) := by decide +kernel
theorem dL_law_635 : decode cL_law 635 = .ok (.if_icmp .eq 5, 3) := by decide +kernel
theorem dL_law_638 : decode cL_law 638 = .ok (.iconst 0, 1) := by decide +kernel
theorem dL_law_639 : decode cL_law 639 = .ok (.ireturn, 1) := by decide +kernel
theorem dL_law_640 : decode cL_law 640 = .ok (.iinc 14 1, 3) := by decide +kernel
theorem dL_law_643 : decode cL_law 643 = .ok (.goto (-113), 3) := by decide +kernel
theorem dL_law_646 : decode cL_law 646 = .ok (.iinc 11 1, 3) := by decide +kernel
theorem dL_law_649 : decode cL_law 649 = .ok (.goto (-219), 3) := by decide +kernel
theorem dL_law_652 : decode cL_law 652 = .ok (.iload 7, 2) := by decide +kernel
theorem dL_law_654 : decode cL_law 654 = .ok (.aload_n 1, 1) := by decide +kernel
theorem dL_law_655 : decode cL_law 655 = .ok (.invokevirtual 163, 3) := by decide +kernel
theorem dL_law_658 : decode cL_law 658 = .ok (.if_icmp .ne 19, 3) := by decide +kernel
theorem dL_law_661 : decode cL_law 661 = .ok (.iload 9, 2) := by decide +kernel
theorem dL_law_663 : decode cL_law 663 = .ok (.iload 8, 2) := by decide +kernel
theorem dL_law_665 : decode cL_law 665 = .ok (.if_icmp .ne 12, 3) := by decide +kernel
theorem dL_law_668 : decode cL_law 668 = .ok (.iload 10, 2) := by decide +kernel
theorem dL_law_670 : decode cL_law 670 = .ok (.aload_n 1, 1) := by decide +kernel
theorem dL_law_671 : decode cL_law 671 = .ok (.invokevirtual 166, 3) := by decide +kernel
theorem dL_law_674 : decode cL_law 674 = .ok (.if_icmp .eq 5, 3) := by decide +kernel
theorem dL_law_677 : decode cL_law 677 = .ok (.iconst 0, 1) := by decide +kernel
theorem dL_law_678 : decode cL_law 678 = .ok (.ireturn, 1) := by decide +kernel
theorem dL_law_679 : decode cL_law 679 = .ok (.iinc 3 1, 3) := by decide +kernel
theorem dL_law_682 : decode cL_law 682 = .ok (.goto (-660), 3) := by decide +kernel
theorem dL_law_685 : decode cL_law 685 = .ok (.aload_n 2, 1) := by decide +kernel
theorem dL_law_686 : decode cL_law 686 = .ok (.aload_n 1, 1) := by decide +kernel
theorem dL_law_687 : decode cL_law 687 = .ok (.invokevirtual 169, 3) := by decide +kernel
theorem dL_law_690 : decode cL_law 690 = .ok (.ireturn, 1) := by decide +kernel
end
section
set_option maxRecDepth 200000 in
theorem ggL_law_L_act : GoodIn wsL_law wsL_act := goodIn_ca (goodIn_ca (goodIn_ca (goodIn_r _ [46, 47, 48, 49, 50, 51, 52, 53, 54, 55, 56, 57, 40, 41, 24, 42, 43, 58, 59, 60, 2, 61, 62, 63, 64, 65, 66, 67, 68, 69, 17, 70, 71, 72, 73, 74, 75, 76, 77, 78, 79, 10, 11, 12, 13, 15, 80, 81, 82, 83, 84, 85, 86, 87, 88, 89, 90, 91, 92, 93, 94, 95, 16, 96, 97, 98, 99, 100, 101, 102, 103, 104, 105, 106, 107, 108, 109, 110, 111, 112, 113, 114, 115, 116, 20, 117, 118, 119, 120, 121, 122, 123, 124, 125, 126, 127, 128, 129, 130, 131, 28, 132, 133, 33, 34, 134, 135, 136, 137, 138, 139, 140, 141, 142, 143, 144, 145, 146, 147, 148, 149, 150, 151, 9, 152, 153, 154, 155, 156, 157, 158, 159, 160, 161, 162, 163, 164, 165, 166, 167, 168, 169, 170, 171, 172, 173, 174, 175, 176, 177, 178, 179, 21, 180, 181, 182, 183, 18, 19, 184, 185, 186, 187, 14, 188, 189, 190, 191, 192, 193, 194, 195, 196, 197, 198, 199, 372, 373, 374, 375, 376, 377, 378, 379, 380, 356, 357, 358, 359, 360, 361, 362, 363, 364, 365, 366, 367, 368, 369, 370, 371] rfl (by decide +kernel)) (goodIn_sub (fun _ h => List.mem_append_left _ (List.mem_append_left _ (List.mem_append_right _ h))) (by decide +kernel))) (goodIn_sub (fun _ h => List.mem_append_left _ (List.mem_append_right _ h)) (by decide +kernel))) (goodIn_sub (fun _ h => List.mem_append_right _ h) (by decide +kernel))
set_option maxRecDepth 20000 in
theorem gL_law_L_act : GoodIn wsL_law (va_wsS RL 98 yL_act wsL_act) := goodIn_app (goodIn_of _ (by decide +kernel)) ggL_law_L_act
end
section
set_option maxHeartbeats 4000000 in
set_option maxRecDepth 100000 in
theorem c_X0_stampPlace (l : Launch) (G : va_G) (sz : Nat) (p : Nat) (c : Nat) : Met l yX0_stampPlace wsX0_stampPlace ({ frames := 0, cells := 0, slots := 0, locals := 0 } : Room) (va_Pc [.int (nI p), .int (nI c)] (wPre G [] [] sz)) (va_Qi (fun (r : Int32) (_ : Unit) => r = nI (p * 4 + c)) (fun _ => wP G [] [] (va_A [] sz)) (va_A [] sz)) 0 0 (va_A [] sz) := by
  refine w_met (cc := cX0_stampPlace) (maxL := 2) (ret := (some .int)) (by decide) rfl (Nat.le_of_ble_eq_true rfl) ?_
  intro pg e s m below meth cd hx hb hml hr hts hown hlocks hnm hK hsz hP hD hA hS ls hl
  have hown : s.vm.findClass RX0 = some m.cls := hown
  have hl : lv_has ls 2 [(0, .int (nI p)), (1, .int (nI c))] := hl
  generalize hAe : va_A [] sz = A at hD hA hS ⊢
  refine lv_iload_n hx hb dX0_stampPlace_0 rfl (lv_at hl 0 rfl) ?_
  refine lv_iconst (v := 4) hx hb dX0_stampPlace_1 (by decide) ?_
  refine lv_imul hx hb dX0_stampPlace_2 ?_
  refine lv_iload_n hx hb dX0_stampPlace_3 rfl (lv_at hl 1 rfl) ?_
  refine lv_iadd hx hb dX0_stampPlace_4 ?_
  exact w_iret () hx hb hr hlocks hK hP hD hS (Nat.le_of_ble_eq_true rfl) (Nat.le_of_ble_eq_true rfl) dX0_stampPlace_5 (show (((nI p) * 4) + (nI c)) = nI (p * 4 + c) from by rw [show (4 : Int32) = nI 4 from rfl, pk_mul, nI_add])
set_option maxHeartbeats 4000000 in
set_option maxRecDepth 100000 in
theorem c_X0_exempts (l : Launch) (G : va_G) (cI cZ : ClassId) (h : Nat) (a : Nat → Nat) (F : Nat → Nat → Int32) (nq no np : Nat) (sh nw : Int32) (sz : Nat) (o : Nat) (tr : Int32) (ho : o < 10) : Met l yX0_exempts wsX0_exempts ({ frames := 0, cells := 0, slots := 0, locals := 0 } : Room) (va_Pc [.ref h, .int (nI o), .int tr] (wPre G (ty2 cI cZ) (Dk cI cZ h a F nq no np sh nw) sz)) (va_Qi (fun (r : Int32) (_ : Unit) => r = b2i (p_ex F o tr)) (fun _ => wP G (ty2 cI cZ) (Dk cI cZ h a F nq no np sh nw) (va_A (Dk cI cZ h a F nq no np sh nw) sz)) (va_A (Dk cI cZ h a F nq no np sh nw) sz)) 0 0 (va_A (Dk cI cZ h a F nq no np sh nw) sz) := by
  refine w_met (cc := cX0_exempts) (maxL := 3) (ret := (some .boolean)) (by decide) rfl (Nat.le_of_ble_eq_true rfl) ?_
  intro pg e s m below meth cd hx hb hml hr hts hown hlocks hnm hK hsz hP hD hA hS ls hl
  have hown : s.vm.findClass RX0 = some m.cls := hown
  have hin : ∀ w ∈ wsX00, w ∈ wsX0_exempts := by decide +kernel
  have hl : lv_has ls 3 [(0, .ref h), (1, .int (nI o)), (2, .int tr)] := hl
  generalize hAe : va_A (Dk cI cZ h a F nq no np sh nw) sz = A at hD hA hS ⊢
  refine lv_aload_n hx hb dX0_exempts_0 rfl (lv_at hl 0 rfl) ?_
  refine va_get (ci := 0) (v := .ref (a 5)) (C := RX0) (T := TX0) (N := 16) hx hb hts hin hown hK hP 0 rfl rfl 5 (by decide) (hts (.fieldLink RX0 26 "CurfewDesk" "orderExempt" "[I") (by decide +kernel)) (fun _ h9 => h9) rfl dX0_exempts_1 ?_
  refine lv_iload_n hx hb dX0_exempts_4 rfl (lv_at hl 1 rfl) ?_
  refine w_iald hx hb hK hP 6 0 rfl rfl (f := (F 5)) (j := o) (by omega) (by omega) dX0_exempts_5 ?_
  refine lv_iload_n hx hb dX0_exempts_6 rfl (lv_at hl 2 rfl) ?_
  refine lv_ishr hx hb dX0_exempts_7 ?_
  refine lv_iconst (v := 1) hx hb dX0_exempts_8 (by decide) ?_
  refine lv_iand hx hb dX0_exempts_9 ?_
  refine w_selE (v1 := 1) (v2 := 0) hx hb dX0_exempts_10 (by decide) dX0_exempts_13 (by decide) dX0_exempts_14 (by decide) dX0_exempts_17 (by decide) ?_
  rw [b2i_z]
  exact w_zret () hx hb hr hlocks hK hP hD hS (Nat.le_of_ble_eq_true rfl) (Nat.le_of_ble_eq_true rfl) dX0_exempts_18 (b2i_n _) (show (b2i (!decide ((((F 5) o) >>> (tr &&& 31)) &&& 1 = 0))) = b2i (p_ex F o tr) from by rfl)
set_option maxHeartbeats 4000000 in
set_option maxRecDepth 100000 in
theorem c_X0_bars (l : Launch) (G : va_G) (cI cZ : ClassId) (h : Nat) (a : Nat → Nat) (F : Nat → Nat → Int32) (nq no np : Nat) (sh nw : Int32) (sz : Nat) (o : Nat) (p : Nat) (q : Int32) (t : Int32) (ho : o < 10) (hp : p < 20) : Met l yX0_bars wsX0_bars ({ frames := 3, cells := 0, slots := 0, locals := 66 } : Room) (va_Pc [.ref h, .int (nI o), .int (nI p), .int q, .int t] (wPre G (ty2 cI cZ) (Dk cI cZ h a F nq no np sh nw) sz)) (va_Qi (fun (r : Int32) (_ : Unit) => r = b2i (p_bars F sh o p q t)) (fun _ => wP G (ty2 cI cZ) (Dk cI cZ h a F nq no np sh nw) (va_A (Dk cI cZ h a F nq no np sh nw) sz)) (va_A (Dk cI cZ h a F nq no np sh nw) sz)) 0 0 (va_A (Dk cI cZ h a F nq no np sh nw) sz) := by
  refine w_met (cc := cX0_bars) (maxL := 5) (ret := (some .boolean)) (by decide) rfl (Nat.le_of_ble_eq_true rfl) ?_
  intro pg e s m below meth cd hx hb hml hr hts hown hlocks hnm hK hsz hP hD hA hS ls hl
  have hown : s.vm.findClass RX0 = some m.cls := hown
  have hin : ∀ w ∈ wsX00, w ∈ wsX0_bars := by decide +kernel
  have hl : lv_has ls 5 [(0, .ref h), (1, .int (nI o)), (2, .int (nI p)), (3, .int q), (4, .int t)] := hl
  generalize hAe : va_A (Dk cI cZ h a F nq no np sh nw) sz = A at hD hA hS ⊢
  refine lv_aload_n hx hb dX0_bars_0 rfl (lv_at hl 0 rfl) ?_
  refine va_get (ci := 0) (v := .ref (a 0)) (C := RX0) (T := TX0) (N := 16) hx hb hts hin hown hK hP 0 rfl rfl 0 (by decide) (hts (.fieldLink RX0 9 "CurfewDesk" "orderQuarter" "[I") (by decide +kernel)) (fun _ h9 => h9) rfl dX0_bars_1 ?_
  refine lv_iload_n hx hb dX0_bars_4 rfl (lv_at hl 1 rfl) ?_
  refine w_iald hx hb hK hP 1 0 rfl rfl (f := (F 0)) (j := o) (by omega) (by omega) dX0_bars_5 ?_
  refine lv_iload_n hx hb dX0_bars_6 rfl (lv_at hl 3 rfl) ?_
  refine lv_icmp_ne (tgt := 47) hx hb dX0_bars_7 (by decide) (fun c7 => ?_) (fun c7 => ?_)
  · refine lv_iconst (v := 0) hx hb dX0_bars_47 (by decide) ?_
    exact w_zret () hx hb hr hlocks hK hP hD hS (Nat.le_of_ble_eq_true rfl) (Nat.le_of_ble_eq_true rfl) dX0_bars_48 rfl (show 0 = b2i (p_bars F sh o p q t) from by simp only [p_bars, p_on, decide_eq_false c7, Bool.not_true, Bool.not_false, Bool.true_or, Bool.false_or, Bool.or_true, Bool.or_false, Bool.true_and, Bool.false_and, Bool.and_true, Bool.and_false, b2i_T, b2i_F])
  · refine lv_aload_n hx hb dX0_bars_10 rfl (lv_at hl 0 rfl) ?_
    refine lv_iload_n hx hb dX0_bars_11 rfl (lv_at hl 1 rfl) ?_
    refine lv_aload_n hx hb dX0_bars_12 rfl (lv_at hl 0 rfl) ?_
    refine va_get (ci := 0) (v := .ref (a 6)) (C := RX0) (T := TX0) (N := 16) hx hb hts hin hown hK hP 0 rfl rfl 6 (by decide) (hts (.fieldLink RX0 29 "CurfewDesk" "personTrade" "[I") (by decide +kernel)) (fun _ h9 => h9) rfl dX0_bars_13 ?_
    refine lv_iload_n hx hb dX0_bars_16 rfl (lv_at hl 2 rfl) ?_
    refine w_iald hx hb hK hP 7 0 rfl rfl (f := (F 6)) (j := p) (by omega) (by omega) dX0_bars_17 ?_
    refine w_in_i (va_runV (As := [.int (nI o), .int ((F 6) p)]) (rest := []) ⟨hx, hb, hml, hown, hts⟩ (c_X0_exempts l G cI cZ h a F nq no np sh nw s.heap.size o ((F 6) p) (by omega)) (cwV 2 hts gX0_bars_X0_exempts rfl rfl rfl (by decide +kernel) ⟨(Nat.le_of_ble_eq_true rfl), (Nat.le_of_ble_eq_true rfl)⟩) ⟨wPre_blind, va_recv hK hP (ci := 0) (q0 := 0) rfl rfl, w_pre hK hP hD⟩ rfl rfl hl.1 rfl (lv_room (Nat.le_of_ble_eq_true rfl)) dX0_bars_18 ⟨(Nat.le_of_ble_eq_true rfl), (Nat.le_of_ble_eq_true rfl)⟩) hD hS hA (fun r18 u18 H locs hw18 hP hD hS => ?_)
    have hP : va_P G vwCl (Dk cI cZ h a F nq no np sh nw) H := hP
    have hD : va_D A (Dk cI cZ h a F nq no np sh nw) := hD
    have hw18 : r18 = b2i (p_ex F o ((F 6) p)) := hw18
    subst hw18
    refine lv_if_ne (tgt := 47) hx hb dX0_bars_21 (by decide) (fun c21 => ?_) (fun c21 => ?_)
    · have c21 := b2i_1.mp c21
      refine lv_iconst (v := 0) hx hb dX0_bars_47 (by decide) ?_
      exact w_zret () hx hb hr hlocks hK hP hD hS (Nat.le_of_ble_eq_true rfl) (Nat.le_of_ble_eq_true rfl) dX0_bars_48 rfl (show 0 = b2i (p_bars F sh o p q t) from by simp only [p_bars, p_on, decide_eq_true c7, c21, Bool.not_true, Bool.not_false, Bool.true_or, Bool.false_or, Bool.or_true, Bool.or_false, Bool.true_and, Bool.false_and, Bool.and_true, Bool.and_false, b2i_T, b2i_F])
    · have c21 := b2i_0.mp c21
      refine lv_aload_n hx hb dX0_bars_24 rfl (lv_at hl 0 rfl) ?_
      refine va_get (ci := 0) (v := .ref (a 4)) (C := RX0) (T := TX0) (N := 16) hx hb hts hin hown hK hP 0 rfl rfl 4 (by decide) (hts (.fieldLink RX0 22 "CurfewDesk" "orderInForce" "[Z") (by decide +kernel)) (fun _ h9 => h9) rfl dX0_bars_25 ?_
      refine lv_iload_n hx hb dX0_bars_28 rfl (lv_at hl 1 rfl) ?_
      refine w_zald hx hb hK hP 5 1 rfl rfl (f := (F 4)) (j := o) (by omega) (by omega) dX0_bars_29 ?_
      refine lv_if_eq (tgt := 47) hx hb dX0_bars_30 (by decide) (fun c30 => ?_) (fun c30 => ?_)
      · refine lv_iconst (v := 0) hx hb dX0_bars_47 (by decide) ?_
        exact w_zret () hx hb hr hlocks hK hP hD hS (Nat.le_of_ble_eq_true rfl) (Nat.le_of_ble_eq_true rfl) dX0_bars_48 rfl (show 0 = b2i (p_bars F sh o p q t) from by simp only [p_bars, p_on, decide_eq_true c7, c21, decide_eq_true c30, Bool.not_true, Bool.not_false, Bool.true_or, Bool.false_or, Bool.or_true, Bool.or_false, Bool.true_and, Bool.false_and, Bool.and_true, Bool.and_false, b2i_T, b2i_F])
      · refine lv_aload_n hx hb dX0_bars_33 rfl (lv_at hl 0 rfl) ?_
        refine lv_iload_n hx hb dX0_bars_34 rfl (lv_at hl 1 rfl) ?_
        refine lv_iload hx hb dX0_bars_35 (lv_at hl 4 rfl) ?_
        refine w_in_i (va_runV (As := [.int (nI o), .int t]) (rest := []) ⟨hx, hb, hml, hown, hts⟩ (c_X0_isInHours l G cI cZ h a F nq no np sh nw H.size o t (by omega)) (cwV 2 hts gX0_bars_X0_isInHours rfl rfl rfl (by decide +kernel) ⟨(Nat.le_of_ble_eq_true rfl), (Nat.le_of_ble_eq_true rfl)⟩) ⟨wPre_blind, va_recv hK hP (ci := 0) (q0 := 0) rfl rfl, w_pre hK hP hD⟩ rfl rfl hl.1 rfl (lv_room (Nat.le_of_ble_eq_true rfl)) dX0_bars_37 ⟨(Nat.le_of_ble_eq_true rfl), (Nat.le_of_ble_eq_true rfl)⟩) hD hS hA (fun r37 u37 H locs hw37 hP hD hS => ?_)
        have hP : va_P G vwCl (Dk cI cZ h a F nq no np sh nw) H := hP
        have hD : va_D A (Dk cI cZ h a F nq no np sh nw) := hD
        have hw37 : r37 = b2i (p_at F sh o t) := hw37
        subst hw37
        refine w_selE (v1 := 1) (v2 := 0) hx hb dX0_bars_40 (by decide) dX0_bars_43 (by decide) dX0_bars_44 (by decide) dX0_bars_47 (by decide) ?_
        rw [b2i_sel]
        exact w_zret () hx hb hr hlocks hK hP hD hS (Nat.le_of_ble_eq_true rfl) (Nat.le_of_ble_eq_true rfl) dX0_bars_48 (b2i_n _) (show (b2i (p_at F sh o t)) = b2i (p_bars F sh o p q t) from by simp only [p_bars, p_on, decide_eq_true c7, c21, decide_eq_false c30, Bool.not_true, Bool.not_false, Bool.true_or, Bool.false_or, Bool.or_true, Bool.or_false, Bool.true_and, Bool.false_and, Bool.and_true, Bool.and_false, b2i_T, b2i_F])
set_option maxHeartbeats 4000000 in
set_option maxRecDepth 100000 in
theorem c_X0_isFreeAt (l : Launch) (G : va_G) (cI cZ : ClassId) (h : Nat) (a : Nat → Nat) (F : Nat → Nat → Int32) (nq no np : Nat) (sh nw : Int32) (sz : Nat) (p : Nat) (q : Int32) (t : Int32) (hp : p < 20) (hno : no ≤ 10) : Met l yX0_isFreeAt wsX0_isFreeAt ({ frames := 4, cells := 0, slots := 0, locals := 90 } : Room) (va_Pc [.ref h, .int (nI p), .int q, .int t] (wPre G (ty2 cI cZ) (Dk cI cZ h a F nq no np sh nw) sz)) (va_Qi (fun (r : Int32) (_ : Unit) => r = b2i (decide (p_ag F sh no p q t = 0))) (fun _ => wP G (ty2 cI cZ) (Dk cI cZ h a F nq no np sh nw) (va_A (Dk cI cZ h a F nq no np sh nw) sz)) (va_A (Dk cI cZ h a F nq no np sh nw) sz)) 0 0 (va_A (Dk cI cZ h a F nq no np sh nw) sz) := by
  refine w_met (cc := cX0_isFreeAt) (maxL := 5) (ret := (some .boolean)) (by decide) rfl (Nat.le_of_ble_eq_true rfl) ?_
  intro pg e s m below meth cd hx hb hml hr hts hown hlocks hnm hK hsz hP hD hA hS ls hl
  have hown : s.vm.findClass RX0 = some m.cls := hown
  have hin : ∀ w ∈ wsX00, w ∈ wsX0_isFreeAt := by decide +kernel
  have hl : lv_has ls 5 [(0, .ref h), (1, .int (nI p)), (2, .int q), (3, .int t)] := hl
  generalize hAe : va_A (Dk cI cZ h a F nq no np sh nw) sz = A at hD hA hS ⊢
  refine lv_iconst (v := 0) hx hb dX0_isFreeAt_0 (by decide) ?_
  refine lv_istore (lv' := [(4, .int 0), (0, .ref h), (1, .int (nI p)), (2, .int q), (3, .int t)]) hx hb dX0_isFreeAt_1 hl (by decide) rfl (fun ls hl => ?_)
  have key3 : ∀ (n i3 : Nat), i3 ≤ no → no < i3 + n → (p_ct (fun o => p_bars F sh o p q t) i3 = 0) → ∀ (x4 : Int32), x4 = nI i3 → ∀ (H : Heap) (locs : List Loc), va_P G vwCl (Dk cI cZ h a F nq no np sh nw) H → va_D A (Dk cI cZ h a F nq no np sh nw) → va_S A s.heap H locs → ∀ ls : Array Slot, lv_has ls 5 [(0, .ref h), (1, .int (nI p)), (2, .int q), (3, .int t), (4, .int x4)] → W pg l e ({ frames := 4, cells := 0, slots := 0, locals := 90 } : Room) s m ([.ref h, .int (nI p), .int q, .int t] : List Value).toArray below meth cd H locs (0) (0) (MQ below (va_Qi (fun (r : Int32) (_ : Unit) => r = b2i (decide (p_ag F sh no p q t = 0))) (fun _ => wP G (ty2 cI cZ) (Dk cI cZ h a F nq no np sh nw) A) A) ([.ref h, .int (nI p), .int q, .int t] : List Value).toArray s 0 0 A) (F0 m 3 ls []) := by
    intro n
    induction n with
    | zero => intro i3 h1 h2; exact absurd h2 (by omega)
    | succ n ih3 =>
      intro i3 hi_i3 hn_i3 hv x4 e4 H locs hP hD hS ls hl
      subst e4
      refine lv_iload hx hb dX0_isFreeAt_3 (lv_at hl 4 rfl) ?_
      refine lv_aload_n hx hb dX0_isFreeAt_5 rfl (lv_at hl 0 rfl) ?_
      refine va_get (ci := 0) (v := .int (nI no)) (C := RX0) (T := TX0) (N := 16) hx hb hts hin hown hK hP 0 rfl rfl 12 (by decide) (hts (.fieldLink RX0 74 "CurfewDesk" "orderCount" "I") (by decide +kernel)) (fun _ h9 => h9) rfl dX0_isFreeAt_6 ?_
      refine lv_icmp_ge (tgt := 32) hx hb dX0_isFreeAt_9 (by decide) (fun c9 => ?_) (fun c9 => ?_)
      · have c9 := (nI_leI (a := no) (b := i3) (by omega) (by omega)).mp c9
        have ei : no = i3 := by omega
        subst ei
        refine lv_iconst (v := 1) hx hb dX0_isFreeAt_32 (by decide) ?_
        exact w_zret () hx hb hr hlocks hK hP hD hS (Nat.le_of_ble_eq_true rfl) (Nat.le_of_ble_eq_true rfl) dX0_isFreeAt_33 rfl (show 1 = b2i (decide (p_ag F sh no p q t = 0)) from by rw [p_ag, decide_eq_true hv]; rfl)
      · have c9 := mt (nI_leI (a := no) (b := i3) (by omega) (by omega)).mpr c9
        have hlt_i3 : i3 < no := by omega
        refine lv_aload_n hx hb dX0_isFreeAt_12 rfl (lv_at hl 0 rfl) ?_
        refine lv_iload hx hb dX0_isFreeAt_13 (lv_at hl 4 rfl) ?_
        refine lv_iload_n hx hb dX0_isFreeAt_15 rfl (lv_at hl 1 rfl) ?_
        refine lv_iload_n hx hb dX0_isFreeAt_16 rfl (lv_at hl 2 rfl) ?_
        refine lv_iload_n hx hb dX0_isFreeAt_17 rfl (lv_at hl 3 rfl) ?_
        refine w_in_i (va_runV (As := [.int (nI i3), .int (nI p), .int q, .int t]) (rest := []) ⟨hx, hb, hml, hown, hts⟩ (c_X0_bars l G cI cZ h a F nq no np sh nw H.size i3 p q t (by omega) (by omega)) (cwV 4 hts gX0_isFreeAt_X0_bars rfl rfl rfl (by decide +kernel) ⟨(Nat.le_of_ble_eq_true rfl), (Nat.le_of_ble_eq_true rfl)⟩) ⟨wPre_blind, va_recv hK hP (ci := 0) (q0 := 0) rfl rfl, w_pre hK hP hD⟩ rfl rfl hl.1 rfl (lv_room (Nat.le_of_ble_eq_true rfl)) dX0_isFreeAt_18 ⟨(Nat.le_of_ble_eq_true rfl), (Nat.le_of_ble_eq_true rfl)⟩) hD hS hA (fun r18 u18 H locs hw18 hP hD hS => ?_)
        have hP : va_P G vwCl (Dk cI cZ h a F nq no np sh nw) H := hP
        have hD : va_D A (Dk cI cZ h a F nq no np sh nw) := hD
        have hw18 : r18 = b2i (p_bars F sh i3 p q t) := hw18
        subst hw18
        refine lv_if_eq (tgt := 26) hx hb dX0_isFreeAt_21 (by decide) (fun c21 => ?_) (fun c21 => ?_)
        · have c21 := b2i_0.mp c21
          refine lv_iinc (v := nI i3 + 1) (lv' := [(4, .int (nI i3 + 1)), (0, .ref h), (1, .int (nI p)), (2, .int q), (3, .int t)]) hx hb dX0_isFreeAt_26 hl (k := 4) rfl rfl (by decide) rfl (fun ls hl => ?_)
          refine lv_goto (tgt := 3) hx hb dX0_isFreeAt_29 (by decide) ?_
          exact ih3 (i3 + 1) (by omega) (by omega) (by rw [ct_f c21]; exact hv) (nI i3 + 1) (by first | exact nI_1 _ | exact nct_t (by assumption) | exact nct_f (by assumption) | exact nct_b | rfl) _ _ hP hD hS _ (lv_sub hl [1, 2, 3, 4, 0] rfl)
        · have c21 := b2i_1.mp c21
          refine lv_iconst (v := 0) hx hb dX0_isFreeAt_24 (by decide) ?_
          exact w_zret () hx hb hr hlocks hK hP hD hS (Nat.le_of_ble_eq_true rfl) (Nat.le_of_ble_eq_true rfl) dX0_isFreeAt_25 rfl (show 0 = b2i (decide (p_ag F sh no p q t = 0)) from by rw [p_ag, decide_eq_false (ct_pos hlt_i3 c21)]; rfl)
  exact key3 (no + 1) 0 (by omega) (by omega) (by rfl) 0 (by first | rfl | simp [p_ct, p_sm, p_fl, p_fg, nI_0]) _ _ hP hD hS _ (lv_sub hl [1, 2, 3, 4, 0] rfl)
set_option maxHeartbeats 4000000 in
set_option maxRecDepth 100000 in
theorem c_X0_missing (l : Launch) (G : va_G) (cI cZ : ClassId) (h : Nat) (a : Nat → Nat) (F : Nat → Nat → Int32) (nq no np : Nat) (sh nw : Int32) (sz : Nat) (p : Nat) (q : Int32) (sp : Int32) (hp : p < 20) (hno : no ≤ 10) : Met l yX0_missing wsX0_missing ({ frames := 4, cells := 0, slots := 0, locals := 90 } : Room) (va_Pc [.ref h, .int (nI p), .int q, .int sp] (wPre G (ty2 cI cZ) (Dk cI cZ h a F nq no np sh nw) sz)) (va_Qi (fun (r : Int32) (_ : Unit) => r = p_miss F sh no p q nw sp) (fun _ => wP G (ty2 cI cZ) (Dk cI cZ h a F nq no np sh nw) (va_A (Dk cI cZ h a F nq no np sh nw) sz)) (va_A (Dk cI cZ h a F nq no np sh nw) sz)) 0 0 (va_A (Dk cI cZ h a F nq no np sh nw) sz) := by
  refine w_met (cc := cX0_missing) (maxL := 8) (ret := (some .int)) (by decide) rfl (Nat.le_of_ble_eq_true rfl) ?_
  intro pg e s m below meth cd hx hb hml hr hts hown hlocks hnm hK hsz hP hD hA hS ls hl
  have hown : s.vm.findClass RX0 = some m.cls := hown
  have hin : ∀ w ∈ wsX00, w ∈ wsX0_missing := by decide +kernel
  have hl : lv_has ls 8 [(0, .ref h), (1, .int (nI p)), (2, .int q), (3, .int sp)] := hl
  generalize hAe : va_A (Dk cI cZ h a F nq no np sh nw) sz = A at hD hA hS ⊢
  refine lv_iconst (v := 0) hx hb dX0_missing_0 (by decide) ?_
  refine lv_istore (lv' := [(4, .int 0), (0, .ref h), (1, .int (nI p)), (2, .int q), (3, .int sp)]) hx hb dX0_missing_1 hl (by decide) rfl (fun ls hl => ?_)
  refine lv_iconst (v := 0) hx hb dX0_missing_3 (by decide) ?_
  refine lv_istore (lv' := [(5, .int 0), (4, .int 0), (0, .ref h), (1, .int (nI p)), (2, .int q), (3, .int sp)]) hx hb dX0_missing_4 hl (by decide) rfl (fun ls hl => ?_)
  have key6 : ∀ (n i6 : Nat), i6 ≤ 4 → 4 < i6 + n → ∀ (x4 : Int32) (x5 : Int32), x4 = p_sm (p_lack F sh no p q nw sp) i6 → x5 = nI i6 → ∀ (H : Heap) (locs : List Loc), va_P G vwCl (Dk cI cZ h a F nq no np sh nw) H → va_D A (Dk cI cZ h a F nq no np sh nw) → va_S A s.heap H locs → ∀ ls : Array Slot, lv_has ls 8 [(0, .ref h), (1, .int (nI p)), (2, .int q), (3, .int sp), (4, .int x4), (5, .int x5)] → W pg l e ({ frames := 4, cells := 0, slots := 0, locals := 90 } : Room) s m ([.ref h, .int (nI p), .int q, .int sp] : List Value).toArray below meth cd H locs (0) (0) (MQ below (va_Qi (fun (r : Int32) (_ : Unit) => r = p_miss F sh no p q nw sp) (fun _ => wP G (ty2 cI cZ) (Dk cI cZ h a F nq no np sh nw) A) A) ([.ref h, .int (nI p), .int q, .int sp] : List Value).toArray s 0 0 A) (F0 m 6 ls []) := by
    intro n
    induction n with
    | zero => intro i6 h1 h2; exact absurd h2 (by omega)
    | succ n ih6 =>
      intro i6 hi_i6 hn_i6 x4 x5 e4 e5 H locs hP hD hS ls hl
      subst e4 e5
      refine lv_iload hx hb dX0_missing_6 (lv_at hl 5 rfl) ?_
      refine lv_iconst (v := 4) hx hb dX0_missing_8 (by decide) ?_
      refine lv_icmp_ge (tgt := 98) hx hb dX0_missing_9 (by decide) (fun c9 => ?_) (fun c9 => ?_)
      · have c9 := (nI_leI (a := 4) (b := i6) (by omega) (by omega)).mp c9
        have ei : 4 = i6 := by omega
        subst ei
        refine lv_iload hx hb dX0_missing_98 (lv_at hl 4 rfl) ?_
        exact w_iret () hx hb hr hlocks hK hP hD hS (Nat.le_of_ble_eq_true rfl) (Nat.le_of_ble_eq_true rfl) dX0_missing_100 (show (p_sm (p_lack F sh no p q nw sp) 4) = p_miss F sh no p q nw sp from by rfl)
      · have c9 := mt (nI_leI (a := 4) (b := i6) (by omega) (by omega)).mpr c9
        have hlt_i6 : i6 < 4 := by omega
        refine lv_iconst (v := 0) hx hb dX0_missing_12 (by decide) ?_
        refine lv_istore (lv' := [(6, .int 0), (0, .ref h), (1, .int (nI p)), (2, .int q), (3, .int sp), (4, .int (p_sm (p_lack F sh no p q nw sp) i6)), (5, .int (nI i6))]) hx hb dX0_missing_13 hl (by decide) rfl (fun ls hl => ?_)
        refine lv_iconst (v := 0) hx hb dX0_missing_15 (by decide) ?_
        refine lv_istore (lv' := [(7, .int 0), (6, .int 0), (0, .ref h), (1, .int (nI p)), (2, .int q), (3, .int sp), (4, .int (p_sm (p_lack F sh no p q nw sp) i6)), (5, .int (nI i6))]) hx hb dX0_missing_16 hl (by decide) rfl (fun ls hl => ?_)
        have key18 : ∀ (n i18 : Nat), i18 ≤ no → no < i18 + n → ∀ (x6 : Int32) (x7 : Int32), x6 = nI (p_ct (p_need F sh p q nw sp i6) i18) → x7 = nI i18 → ∀ (H : Heap) (locs : List Loc), va_P G vwCl (Dk cI cZ h a F nq no np sh nw) H → va_D A (Dk cI cZ h a F nq no np sh nw) → va_S A s.heap H locs → ∀ ls : Array Slot, lv_has ls 8 [(0, .ref h), (1, .int (nI p)), (2, .int q), (3, .int sp), (4, .int (p_sm (p_lack F sh no p q nw sp) i6)), (5, .int (nI i6)), (6, .int x6), (7, .int x7)] → W pg l e ({ frames := 4, cells := 0, slots := 0, locals := 90 } : Room) s m ([.ref h, .int (nI p), .int q, .int sp] : List Value).toArray below meth cd H locs (0) (0) (MQ below (va_Qi (fun (r : Int32) (_ : Unit) => r = p_miss F sh no p q nw sp) (fun _ => wP G (ty2 cI cZ) (Dk cI cZ h a F nq no np sh nw) A) A) ([.ref h, .int (nI p), .int q, .int sp] : List Value).toArray s 0 0 A) (F0 m 18 ls []) := by
          intro n
          induction n with
          | zero => intro i18 h1 h2; exact absurd h2 (by omega)
          | succ n ih18 =>
            intro i18 hi_i18 hn_i18 x6 x7 e6 e7 H locs hP hD hS ls hl
            subst e6 e7
            refine lv_iload hx hb dX0_missing_18 (lv_at hl 7 rfl) ?_
            refine lv_aload_n hx hb dX0_missing_20 rfl (lv_at hl 0 rfl) ?_
            refine va_get (ci := 0) (v := .int (nI no)) (C := RX0) (T := TX0) (N := 16) hx hb hts hin hown hK hP 0 rfl rfl 12 (by decide) (hts (.fieldLink RX0 74 "CurfewDesk" "orderCount" "I") (by decide +kernel)) (fun _ h9 => h9) rfl dX0_missing_21 ?_
            refine lv_icmp_ge (tgt := 69) hx hb dX0_missing_24 (by decide) (fun c24 => ?_) (fun c24 => ?_)
            · have c24 := (nI_leI (a := no) (b := i18) (by omega) (by omega)).mp c24
              have ei : no = i18 := by omega
              subst ei
              refine lv_iload hx hb dX0_missing_69 (lv_at hl 4 rfl) ?_
              refine lv_iconst (v := 0) hx hb dX0_missing_71 (by decide) ?_
              refine lv_iload hx hb dX0_missing_72 (lv_at hl 6 rfl) ?_
              refine lv_aload_n hx hb dX0_missing_74 rfl (lv_at hl 0 rfl) ?_
              refine va_get (ci := 0) (v := .ref (a 9)) (C := RX0) (T := TX0) (N := 16) hx hb hts hin hown hK hP 0 rfl rfl 9 (by decide) (hts (.fieldLink RX0 38 "CurfewDesk" "personStamps" "[I") (by decide +kernel)) (fun _ h9 => h9) rfl dX0_missing_75 ?_
              refine lv_iload_n hx hb dX0_missing_78 rfl (lv_at hl 1 rfl) ?_
              refine lv_iload hx hb dX0_missing_79 (lv_at hl 5 rfl) ?_
              refine w_st_i (va_runS (As := [.int (nI p), .int (nI i6)]) (rest := [.ref (a 9), .int (nI (p_ct (p_need F sh p q nw sp i6) no)), .int 0, .int (p_sm (p_lack F sh no p q nw sp) i6)]) ⟨hx, hb, hml, hown, hts⟩ (c_X0_stampPlace l G H.size p i6 ) (va_cwS 2 hts gX0_missing_X0_stampPlace rfl rfl rfl (by decide +kernel) ⟨(Nat.le_of_ble_eq_true rfl), (Nat.le_of_ble_eq_true rfl)⟩) ⟨wPre_blind, w_pre (hK.sub [] rfl) w_P0 (w_D0 (A := A))⟩ rfl rfl hl.1 rfl (lv_room (Nat.le_of_ble_eq_true rfl)) dX0_missing_81 ⟨(Nat.le_of_ble_eq_true rfl), (Nat.le_of_ble_eq_true rfl)⟩) hP hS hA (fun r81 u81 H locs hw81 hP hS => ?_)
              have hw81 : r81 = nI (p * 4 + i6) := hw81
              subst hw81
              refine w_iald hx hb hK hP 10 0 rfl rfl (f := (F 9)) (j := (p * 4 + i6)) (by omega) (by omega) dX0_missing_84 ?_
              refine lv_isub hx hb dX0_missing_85 ?_
              refine va_mmax hx hb (hml.trans hl.1.symm) hown (hts (.methodLink RX0 187 Lib.Math.max.name) (by decide +kernel)) (hts (.static Lib.Math.max.name) (by decide +kernel)) (hts (.initialized "java/lang/Math") (by decide +kernel)) (hts (.code Lib.Math.max.name Lib.Math.max.code 2 (some .int)) (by decide +kernel)) (Nat.le_of_ble_eq_true rfl) (Nat.le_of_ble_eq_true rfl) (Nat.le_of_ble_eq_true rfl) (Nat.le_of_ble_eq_true rfl) dX0_missing_86 ?_
              rw [← p_max0]
              refine lv_iadd hx hb dX0_missing_89 ?_
              refine lv_istore (lv' := [(4, .int ((p_sm (p_lack F sh no p q nw sp) i6) + (p_max0 ((nI (p_ct (p_need F sh p q nw sp i6) no)) - ((F 9) (p * 4 + i6)))))), (0, .ref h), (1, .int (nI p)), (2, .int q), (3, .int sp), (5, .int (nI i6)), (6, .int (nI (p_ct (p_need F sh p q nw sp i6) no))), (7, .int (nI no))]) hx hb dX0_missing_90 hl (by decide) rfl (fun ls hl => ?_)
              refine lv_iinc (v := nI i6 + 1) (lv' := [(5, .int (nI i6 + 1)), (4, .int ((p_sm (p_lack F sh no p q nw sp) i6) + (p_max0 ((nI (p_ct (p_need F sh p q nw sp i6) no)) - ((F 9) (p * 4 + i6)))))), (0, .ref h), (1, .int (nI p)), (2, .int q), (3, .int sp), (6, .int (nI (p_ct (p_need F sh p q nw sp i6) no))), (7, .int (nI no))]) hx hb dX0_missing_92 hl (k := 5) rfl rfl (by decide) rfl (fun ls hl => ?_)
              refine lv_goto (tgt := 6) hx hb dX0_missing_95 (by decide) ?_
              exact ih6 (i6 + 1) (by omega) (by omega) ((p_sm (p_lack F sh no p q nw sp) i6) + (p_max0 ((nI (p_ct (p_need F sh p q nw sp i6) no)) - ((F 9) (p * 4 + i6))))) (nI i6 + 1) (by rfl) (by first | exact nI_1 _ | exact nct_t (by assumption) | exact nct_f (by assumption) | exact nct_b | rfl) _ _ hP hD hS _ (lv_sub hl [2, 3, 4, 5, 1, 0] rfl)
            · have c24 := mt (nI_leI (a := no) (b := i18) (by omega) (by omega)).mpr c24
              have hlt_i18 : i18 < no := by omega
              refine lv_iload hx hb dX0_missing_27 (lv_at hl 7 rfl) ?_
              refine lv_iload_n hx hb dX0_missing_29 rfl (lv_at hl 3 rfl) ?_
              refine lv_icmp_eq (tgt := 63) hx hb dX0_missing_30 (by decide) (fun c30 => ?_) (fun c30 => ?_)
              · refine lv_iinc (v := nI i18 + 1) (lv' := [(7, .int (nI i18 + 1)), (0, .ref h), (1, .int (nI p)), (2, .int q), (3, .int sp), (4, .int (p_sm (p_lack F sh no p q nw sp) i6)), (5, .int (nI i6)), (6, .int (nI (p_ct (p_need F sh p q nw sp i6) i18)))]) hx hb dX0_missing_63 hl (k := 7) rfl rfl (by decide) rfl (fun ls hl => ?_)
                refine lv_goto (tgt := 18) hx hb dX0_missing_66 (by decide) ?_
                exact ih18 (i18 + 1) (by omega) (by omega) (nI (p_ct (p_need F sh p q nw sp i6) i18)) (nI i18 + 1) (by first | exact nct_t (by simp only [p_need, decide_eq_true c30, Bool.not_true, Bool.not_false, Bool.true_or, Bool.false_or, Bool.or_true, Bool.or_false, Bool.true_and, Bool.false_and, Bool.and_true, Bool.and_false, b2i_T, b2i_F]) | exact nct_f (by simp only [p_need, decide_eq_true c30, Bool.not_true, Bool.not_false, Bool.true_or, Bool.false_or, Bool.or_true, Bool.or_false, Bool.true_and, Bool.false_and, Bool.and_true, Bool.and_false, b2i_T, b2i_F])) (by first | exact nI_1 _ | exact nct_t (by assumption) | exact nct_f (by assumption) | exact nct_b | rfl) _ _ hP hD hS _ (lv_sub hl [1, 2, 3, 4, 5, 6, 7, 0] rfl)
              · refine lv_aload_n hx hb dX0_missing_33 rfl (lv_at hl 0 rfl) ?_
                refine va_get (ci := 0) (v := .ref (a 3)) (C := RX0) (T := TX0) (N := 16) hx hb hts hin hown hK hP 0 rfl rfl 3 (by decide) (hts (.fieldLink RX0 19 "CurfewDesk" "orderColour" "[I") (by decide +kernel)) (fun _ h9 => h9) rfl dX0_missing_34 ?_
                refine lv_iload hx hb dX0_missing_37 (lv_at hl 7 rfl) ?_
                refine w_iald hx hb hK hP 4 0 rfl rfl (f := (F 3)) (j := i18) (by omega) (by omega) dX0_missing_39 ?_
                refine lv_iload hx hb dX0_missing_40 (lv_at hl 5 rfl) ?_
                refine lv_icmp_ne (tgt := 63) hx hb dX0_missing_42 (by decide) (fun c42 => ?_) (fun c42 => ?_)
                · refine lv_iinc (v := nI i18 + 1) (lv' := [(7, .int (nI i18 + 1)), (0, .ref h), (1, .int (nI p)), (2, .int q), (3, .int sp), (4, .int (p_sm (p_lack F sh no p q nw sp) i6)), (5, .int (nI i6)), (6, .int (nI (p_ct (p_need F sh p q nw sp i6) i18)))]) hx hb dX0_missing_63 hl (k := 7) rfl rfl (by decide) rfl (fun ls hl => ?_)
                  refine lv_goto (tgt := 18) hx hb dX0_missing_66 (by decide) ?_
                  exact ih18 (i18 + 1) (by omega) (by omega) (nI (p_ct (p_need F sh p q nw sp i6) i18)) (nI i18 + 1) (by first | exact nct_t (by simp only [p_need, decide_eq_false c30, decide_eq_false c42, Bool.not_true, Bool.not_false, Bool.true_or, Bool.false_or, Bool.or_true, Bool.or_false, Bool.true_and, Bool.false_and, Bool.and_true, Bool.and_false, b2i_T, b2i_F]) | exact nct_f (by simp only [p_need, decide_eq_false c30, decide_eq_false c42, Bool.not_true, Bool.not_false, Bool.true_or, Bool.false_or, Bool.or_true, Bool.or_false, Bool.true_and, Bool.false_and, Bool.and_true, Bool.and_false, b2i_T, b2i_F])) (by first | exact nI_1 _ | exact nct_t (by assumption) | exact nct_f (by assumption) | exact nct_b | rfl) _ _ hP hD hS _ (lv_sub hl [1, 2, 3, 4, 5, 6, 7, 0] rfl)
                · refine lv_aload_n hx hb dX0_missing_45 rfl (lv_at hl 0 rfl) ?_
                  refine lv_iload hx hb dX0_missing_46 (lv_at hl 7 rfl) ?_
                  refine lv_iload_n hx hb dX0_missing_48 rfl (lv_at hl 1 rfl) ?_
                  refine lv_iload_n hx hb dX0_missing_49 rfl (lv_at hl 2 rfl) ?_
                  refine lv_aload_n hx hb dX0_missing_50 rfl (lv_at hl 0 rfl) ?_
                  refine va_get (ci := 0) (v := .int nw) (C := RX0) (T := TX0) (N := 16) hx hb hts hin hown hK hP 0 rfl rfl 15 (by decide) (hts (.fieldLink RX0 101 "CurfewDesk" "now" "I") (by decide +kernel)) (fun _ h9 => h9) rfl dX0_missing_51 ?_
                  refine w_in_i (va_runV (As := [.int (nI i18), .int (nI p), .int q, .int nw]) (rest := []) ⟨hx, hb, hml, hown, hts⟩ (c_X0_bars l G cI cZ h a F nq no np sh nw H.size i18 p q nw (by omega) (by omega)) (cwV 4 hts gX0_missing_X0_bars rfl rfl rfl (by decide +kernel) ⟨(Nat.le_of_ble_eq_true rfl), (Nat.le_of_ble_eq_true rfl)⟩) ⟨wPre_blind, va_recv hK hP (ci := 0) (q0 := 0) rfl rfl, w_pre hK hP hD⟩ rfl rfl hl.1 rfl (lv_room (Nat.le_of_ble_eq_true rfl)) dX0_missing_54 ⟨(Nat.le_of_ble_eq_true rfl), (Nat.le_of_ble_eq_true rfl)⟩) hD hS hA (fun r54 u54 H locs hw54 hP hD hS => ?_)
                  have hP : va_P G vwCl (Dk cI cZ h a F nq no np sh nw) H := hP
                  have hD : va_D A (Dk cI cZ h a F nq no np sh nw) := hD
                  have hw54 : r54 = b2i (p_bars F sh i18 p q nw) := hw54
                  subst hw54
                  refine lv_if_eq (tgt := 63) hx hb dX0_missing_57 (by decide) (fun c57 => ?_) (fun c57 => ?_)
                  · have c57 := b2i_0.mp c57
                    refine lv_iinc (v := nI i18 + 1) (lv' := [(7, .int (nI i18 + 1)), (0, .ref h), (1, .int (nI p)), (2, .int q), (3, .int sp), (4, .int (p_sm (p_lack F sh no p q nw sp) i6)), (5, .int (nI i6)), (6, .int (nI (p_ct (p_need F sh p q nw sp i6) i18)))]) hx hb dX0_missing_63 hl (k := 7) rfl rfl (by decide) rfl (fun ls hl => ?_)
                    refine lv_goto (tgt := 18) hx hb dX0_missing_66 (by decide) ?_
                    exact ih18 (i18 + 1) (by omega) (by omega) (nI (p_ct (p_need F sh p q nw sp i6) i18)) (nI i18 + 1) (by first | exact nct_t (by simp only [p_need, decide_eq_false c30, decide_eq_true c42, c57, Bool.not_true, Bool.not_false, Bool.true_or, Bool.false_or, Bool.or_true, Bool.or_false, Bool.true_and, Bool.false_and, Bool.and_true, Bool.and_false, b2i_T, b2i_F]) | exact nct_f (by simp only [p_need, decide_eq_false c30, decide_eq_true c42, c57, Bool.not_true, Bool.not_false, Bool.true_or, Bool.false_or, Bool.or_true, Bool.or_false, Bool.true_and, Bool.false_and, Bool.and_true, Bool.and_false, b2i_T, b2i_F])) (by first | exact nI_1 _ | exact nct_t (by assumption) | exact nct_f (by assumption) | exact nct_b | rfl) _ _ hP hD hS _ (lv_sub hl [1, 2, 3, 4, 5, 6, 7, 0] rfl)
                  · have c57 := b2i_1.mp c57
                    refine lv_iinc (v := nI (p_ct (p_need F sh p q nw sp i6) i18) + 1) (lv' := [(6, .int (nI (p_ct (p_need F sh p q nw sp i6) i18) + 1)), (0, .ref h), (1, .int (nI p)), (2, .int q), (3, .int sp), (4, .int (p_sm (p_lack F sh no p q nw sp) i6)), (5, .int (nI i6)), (7, .int (nI i18))]) hx hb dX0_missing_60 hl (k := 6) rfl rfl (by decide) rfl (fun ls hl => ?_)
                    refine lv_iinc (v := nI i18 + 1) (lv' := [(7, .int (nI i18 + 1)), (6, .int (nI (p_ct (p_need F sh p q nw sp i6) i18) + 1)), (0, .ref h), (1, .int (nI p)), (2, .int q), (3, .int sp), (4, .int (p_sm (p_lack F sh no p q nw sp) i6)), (5, .int (nI i6))]) hx hb dX0_missing_63 hl (k := 7) rfl rfl (by decide) rfl (fun ls hl => ?_)
                    refine lv_goto (tgt := 18) hx hb dX0_missing_66 (by decide) ?_
                    exact ih18 (i18 + 1) (by omega) (by omega) (nI (p_ct (p_need F sh p q nw sp i6) i18) + 1) (nI i18 + 1) (by first | exact nct_t (by simp only [p_need, decide_eq_false c30, decide_eq_true c42, c57, Bool.not_true, Bool.not_false, Bool.true_or, Bool.false_or, Bool.or_true, Bool.or_false, Bool.true_and, Bool.false_and, Bool.and_true, Bool.and_false, b2i_T, b2i_F]) | exact nct_f (by simp only [p_need, decide_eq_false c30, decide_eq_true c42, c57, Bool.not_true, Bool.not_false, Bool.true_or, Bool.false_or, Bool.or_true, Bool.or_false, Bool.true_and, Bool.false_and, Bool.and_true, Bool.and_false, b2i_T, b2i_F])) (by first | exact nI_1 _ | exact nct_t (by assumption) | exact nct_f (by assumption) | exact nct_b | rfl) _ _ hP hD hS _ (lv_sub hl [2, 3, 4, 5, 6, 7, 1, 0] rfl)
        exact key18 (no + 1) 0 (by omega) (by omega) 0 0 (by first | rfl | simp [p_ct, p_sm, p_fl, p_fg, nI_0]) (by first | rfl | simp [p_ct, p_sm, p_fl, p_fg, nI_0]) _ _ hP hD hS _ (lv_sub hl [2, 3, 4, 5, 6, 7, 1, 0] rfl)
  exact key6 (4 + 1) 0 (by omega) (by omega) 0 0 (by first | rfl | simp [p_ct, p_sm, p_fl, p_fg, nI_0]) (by first | rfl | simp [p_ct, p_sm, p_fl, p_fg, nI_0]) _ _ hP hD hS _ (lv_sub hl [2, 3, 4, 5, 1, 0] rfl)
set_option maxHeartbeats 4000000 in
set_option maxRecDepth 100000 in
theorem c_X0_requireOrder (l : Launch) (G : va_G) (cI cZ : ClassId) (h : Nat) (a : Nat → Nat) (F : Nat → Nat → Int32) (nq no np : Nat) (sh nw : Int32) (sz : Nat) (x : Int32) (hno : no ≤ 10) (hx9 : p_in x no = true) : Met l yX0_requireOrder wsX0_requireOrder ({ frames := 0, cells := 0, slots := 0, locals := 0 } : Room) (va_Pc [.ref h, .int x] (wPre G (ty2 cI cZ) (Dk cI cZ h a F nq no np sh nw) sz)) (va_Qv (fun (_ : Unit) => True) (fun _ => wP G (ty2 cI cZ) (Dk cI cZ h a F nq no np sh nw) (va_A (Dk cI cZ h a F nq no np sh nw) sz)) (va_A (Dk cI cZ h a F nq no np sh nw) sz)) 0 0 (va_A (Dk cI cZ h a F nq no np sh nw) sz) := by
  refine w_met (cc := cX0_requireOrder) (maxL := 2) (ret := none) (by decide) rfl (Nat.le_of_ble_eq_true rfl) ?_
  intro pg e s m below meth cd hx hb hml hr hts hown hlocks hnm hK hsz hP hD hA hS ls hl
  have hown : s.vm.findClass RX0 = some m.cls := hown
  have hin : ∀ w ∈ wsX00, w ∈ wsX0_requireOrder := by decide +kernel
  have hl : lv_has ls 2 [(0, .ref h), (1, .int x)] := hl
  generalize hAe : va_A (Dk cI cZ h a F nq no np sh nw) sz = A at hD hA hS ⊢
  refine lv_iload_n hx hb dX0_requireOrder_0 rfl (lv_at hl 1 rfl) ?_
  refine lv_if_lt (tgt := 12) hx hb dX0_requireOrder_1 (by decide) (fun c1 => ?_) (fun c1 => ?_)
  · first | exact absurd hx9 (by rw [pin_ge (n := no) (by omega) c9]; decide) | exact absurd hx9 (by rw [pin_neg c1]; decide)
  · refine lv_iload_n hx hb dX0_requireOrder_4 rfl (lv_at hl 1 rfl) ?_
    refine lv_aload_n hx hb dX0_requireOrder_5 rfl (lv_at hl 0 rfl) ?_
    refine va_get (ci := 0) (v := .int (nI no)) (C := RX0) (T := TX0) (N := 16) hx hb hts hin hown hK hP 0 rfl rfl 12 (by decide) (hts (.fieldLink RX0 74 "CurfewDesk" "orderCount" "I") (by decide +kernel)) (fun _ h9 => h9) rfl dX0_requireOrder_6 ?_
    refine lv_icmp_lt (tgt := 22) hx hb dX0_requireOrder_9 (by decide) (fun c9 => ?_) (fun c9 => ?_)
    · exact w_vret () hx hb hr hlocks hK hP hD hS (Nat.le_of_ble_eq_true rfl) (Nat.le_of_ble_eq_true rfl) dX0_requireOrder_22 trivial
    · first | exact absurd hx9 (by rw [pin_ge (n := no) (by omega) c9]; decide) | exact absurd hx9 (by rw [pin_neg c1]; decide)
set_option maxHeartbeats 4000000 in
set_option maxRecDepth 100000 in
theorem c_X0_requirePerson (l : Launch) (G : va_G) (cI cZ : ClassId) (h : Nat) (a : Nat → Nat) (F : Nat → Nat → Int32) (nq no np : Nat) (sh nw : Int32) (sz : Nat) (x : Int32) (hnp : np ≤ 20) (hx9 : p_in x np = true) : Met l yX0_requirePerson wsX0_requirePerson ({ frames := 0, cells := 0, slots := 0, locals := 0 } : Room) (va_Pc [.ref h, .int x] (wPre G (ty2 cI cZ) (Dk cI cZ h a F nq no np sh nw) sz)) (va_Qv (fun (_ : Unit) => True) (fun _ => wP G (ty2 cI cZ) (Dk cI cZ h a F nq no np sh nw) (va_A (Dk cI cZ h a F nq no np sh nw) sz)) (va_A (Dk cI cZ h a F nq no np sh nw) sz)) 0 0 (va_A (Dk cI cZ h a F nq no np sh nw) sz) := by
  refine w_met (cc := cX0_requirePerson) (maxL := 2) (ret := none) (by decide) rfl (Nat.le_of_ble_eq_true rfl) ?_
  intro pg e s m below meth cd hx hb hml hr hts hown hlocks hnm hK hsz hP hD hA hS ls hl
  have hown : s.vm.findClass RX0 = some m.cls := hown
  have hin : ∀ w ∈ wsX00, w ∈ wsX0_requirePerson := by decide +kernel
  have hl : lv_has ls 2 [(0, .ref h), (1, .int x)] := hl
  generalize hAe : va_A (Dk cI cZ h a F nq no np sh nw) sz = A at hD hA hS ⊢
  refine lv_iload_n hx hb dX0_requirePerson_0 rfl (lv_at hl 1 rfl) ?_
  refine lv_if_lt (tgt := 12) hx hb dX0_requirePerson_1 (by decide) (fun c1 => ?_) (fun c1 => ?_)
  · first | exact absurd hx9 (by rw [pin_ge (n := np) (by omega) c9]; decide) | exact absurd hx9 (by rw [pin_neg c1]; decide)
  · refine lv_iload_n hx hb dX0_requirePerson_4 rfl (lv_at hl 1 rfl) ?_
    refine lv_aload_n hx hb dX0_requirePerson_5 rfl (lv_at hl 0 rfl) ?_
    refine va_get (ci := 0) (v := .int (nI np)) (C := RX0) (T := TX0) (N := 16) hx hb hts hin hown hK hP 0 rfl rfl 13 (by decide) (hts (.fieldLink RX0 59 "CurfewDesk" "personCount" "I") (by decide +kernel)) (fun _ h9 => h9) rfl dX0_requirePerson_6 ?_
    refine lv_icmp_lt (tgt := 22) hx hb dX0_requirePerson_9 (by decide) (fun c9 => ?_) (fun c9 => ?_)
    · exact w_vret () hx hb hr hlocks hK hP hD hS (Nat.le_of_ble_eq_true rfl) (Nat.le_of_ble_eq_true rfl) dX0_requirePerson_22 trivial
    · first | exact absurd hx9 (by rw [pin_ge (n := np) (by omega) c9]; decide) | exact absurd hx9 (by rw [pin_neg c1]; decide)
set_option maxHeartbeats 4000000 in
set_option maxRecDepth 100000 in
theorem c_X0_day (l : Launch) (G : va_G) (cI cZ : ClassId) (h : Nat) (a : Nat → Nat) (F : Nat → Nat → Int32) (nq no np : Nat) (sh nw : Int32) (sz : Nat) : Met l yX0_day wsX0_day ({ frames := 0, cells := 0, slots := 0, locals := 0 } : Room) (va_Pc [.ref h] (wPre G (ty2 cI cZ) (Dk cI cZ h a F nq no np sh nw) sz)) (va_Qi (fun (r : Int32) (_ : Unit) => r = nw / 48) (fun _ => wP G (ty2 cI cZ) (Dk cI cZ h a F nq no np sh nw) (va_A (Dk cI cZ h a F nq no np sh nw) sz)) (va_A (Dk cI cZ h a F nq no np sh nw) sz)) 0 0 (va_A (Dk cI cZ h a F nq no np sh nw) sz) := by
  refine w_met (cc := cX0_day) (maxL := 1) (ret := (some .int)) (by decide) rfl (Nat.le_of_ble_eq_true rfl) ?_
  intro pg e s m below meth cd hx hb hml hr hts hown hlocks hnm hK hsz hP hD hA hS ls hl
  have hown : s.vm.findClass RX0 = some m.cls := hown
  have hin : ∀ w ∈ wsX00, w ∈ wsX0_day := by decide +kernel
  have hl : lv_has ls 1 [(0, .ref h)] := hl
  generalize hAe : va_A (Dk cI cZ h a F nq no np sh nw) sz = A at hD hA hS ⊢
  refine lv_aload_n hx hb dX0_day_0 rfl (lv_at hl 0 rfl) ?_
  refine va_get (ci := 0) (v := .int nw) (C := RX0) (T := TX0) (N := 16) hx hb hts hin hown hK hP 0 rfl rfl 15 (by decide) (hts (.fieldLink RX0 101 "CurfewDesk" "now" "I") (by decide +kernel)) (fun _ h9 => h9) rfl dX0_day_1 ?_
  refine lv_bipush (v := 48) hx hb dX0_day_4 (by decide) ?_
  refine lv_idiv hx hb dX0_day_6 (by decide) ?_
  exact w_iret () hx hb hr hlocks hK hP hD hS (Nat.le_of_ble_eq_true rfl) (Nat.le_of_ble_eq_true rfl) dX0_day_7 (show (nw / 48) = nw / 48 from by rfl)
set_option maxHeartbeats 4000000 in
set_option maxRecDepth 100000 in
theorem c_X0_halfHour (l : Launch) (G : va_G) (cI cZ : ClassId) (h : Nat) (a : Nat → Nat) (F : Nat → Nat → Int32) (nq no np : Nat) (sh nw : Int32) (sz : Nat) : Met l yX0_halfHour wsX0_halfHour ({ frames := 0, cells := 0, slots := 0, locals := 0 } : Room) (va_Pc [.ref h] (wPre G (ty2 cI cZ) (Dk cI cZ h a F nq no np sh nw) sz)) (va_Qi (fun (r : Int32) (_ : Unit) => r = nw - nw / 48 * 48) (fun _ => wP G (ty2 cI cZ) (Dk cI cZ h a F nq no np sh nw) (va_A (Dk cI cZ h a F nq no np sh nw) sz)) (va_A (Dk cI cZ h a F nq no np sh nw) sz)) 0 0 (va_A (Dk cI cZ h a F nq no np sh nw) sz) := by
  refine w_met (cc := cX0_halfHour) (maxL := 1) (ret := (some .int)) (by decide) rfl (Nat.le_of_ble_eq_true rfl) ?_
  intro pg e s m below meth cd hx hb hml hr hts hown hlocks hnm hK hsz hP hD hA hS ls hl
  have hown : s.vm.findClass RX0 = some m.cls := hown
  have hin : ∀ w ∈ wsX00, w ∈ wsX0_halfHour := by decide +kernel
  have hl : lv_has ls 1 [(0, .ref h)] := hl
  generalize hAe : va_A (Dk cI cZ h a F nq no np sh nw) sz = A at hD hA hS ⊢
  refine lv_aload_n hx hb dX0_halfHour_0 rfl (lv_at hl 0 rfl) ?_
  refine va_get (ci := 0) (v := .int nw) (C := RX0) (T := TX0) (N := 16) hx hb hts hin hown hK hP 0 rfl rfl 15 (by decide) (hts (.fieldLink RX0 101 "CurfewDesk" "now" "I") (by decide +kernel)) (fun _ h9 => h9) rfl dX0_halfHour_1 ?_
  refine lv_bipush (v := 48) hx hb dX0_halfHour_4 (by decide) ?_
  refine lv_irem hx hb dX0_halfHour_6 (by decide) ?_
  exact w_iret () hx hb hr hlocks hK hP hD hS (Nat.le_of_ble_eq_true rfl) (Nat.le_of_ble_eq_true rfl) dX0_halfHour_7 (show (nw - nw / 48 * 48) = nw - nw / 48 * 48 from by rfl)
set_option maxHeartbeats 4000000 in
set_option maxRecDepth 100000 in
theorem c_X0_duskIn (l : Launch) (G : va_G) (cI cZ : ClassId) (h : Nat) (a : Nat → Nat) (F : Nat → Nat → Int32) (nq no np : Nat) (sh nw : Int32) (sz : Nat) (x : Int32) (hx9 : p_wi x 0 99 = true) : Met l yX0_duskIn wsX0_duskIn ({ frames := 2, cells := 0, slots := 0, locals := 42 } : Room) (va_Pc [.ref h, .int x] (wPre G (ty2 cI cZ) (Dk cI cZ h a F nq no np sh nw) sz)) (va_Qi (fun (r : Int32) (_ : Unit) => r = p_dusk (nw / 48 + x) sh) (fun _ => wP G (ty2 cI cZ) (Dk cI cZ h a F nq no np sh nw) (va_A (Dk cI cZ h a F nq no np sh nw) sz)) (va_A (Dk cI cZ h a F nq no np sh nw) sz)) 0 0 (va_A (Dk cI cZ h a F nq no np sh nw) sz) := by
  refine w_met (cc := cX0_duskIn) (maxL := 2) (ret := (some .int)) (by decide) rfl (Nat.le_of_ble_eq_true rfl) ?_
  intro pg e s m below meth cd hx hb hml hr hts hown hlocks hnm hK hsz hP hD hA hS ls hl
  have hown : s.vm.findClass RX0 = some m.cls := hown
  have hl : lv_has ls 2 [(0, .ref h), (1, .int x)] := hl
  generalize hAe : va_A (Dk cI cZ h a F nq no np sh nw) sz = A at hD hA hS ⊢
  refine lv_iload_n hx hb dX0_duskIn_0 rfl (lv_at hl 1 rfl) ?_
  refine lv_iconst (v := 0) hx hb dX0_duskIn_1 (by decide) ?_
  refine lv_bipush (v := 99) hx hb dX0_duskIn_2 (by decide) ?_
  refine w_st_v (va_runS (As := [.int x, .int 0, .int 99]) (rest := []) ⟨hx, hb, hml, hown, hts⟩ (c_X0_requireWithin l G s.heap.size x 0 99 (hx9)) (va_cwS 3 hts gX0_duskIn_X0_requireWithin rfl rfl rfl (by decide +kernel) ⟨(Nat.le_of_ble_eq_true rfl), (Nat.le_of_ble_eq_true rfl)⟩) ⟨wPre_blind, w_pre (hK.sub [] rfl) w_P0 (w_D0 (A := A))⟩ rfl rfl hl.1 rfl (lv_room (Nat.le_of_ble_eq_true rfl)) dX0_duskIn_4 ⟨(Nat.le_of_ble_eq_true rfl), (Nat.le_of_ble_eq_true rfl)⟩) hP hS hA (fun u4 H locs hw4 hP hS => ?_)
  refine lv_aload_n hx hb dX0_duskIn_7 rfl (lv_at hl 0 rfl) ?_
  refine lv_aload_n hx hb dX0_duskIn_8 rfl (lv_at hl 0 rfl) ?_
  refine w_in_i (va_runV (As := []) (rest := [.ref h]) ⟨hx, hb, hml, hown, hts⟩ (c_X0_day l G cI cZ h a F nq no np sh nw H.size ) (cwV 0 hts gX0_duskIn_X0_day rfl rfl rfl (by decide +kernel) ⟨(Nat.le_of_ble_eq_true rfl), (Nat.le_of_ble_eq_true rfl)⟩) ⟨wPre_blind, va_recv hK hP (ci := 0) (q0 := 0) rfl rfl, w_pre hK hP hD⟩ rfl rfl hl.1 rfl (lv_room (Nat.le_of_ble_eq_true rfl)) dX0_duskIn_9 ⟨(Nat.le_of_ble_eq_true rfl), (Nat.le_of_ble_eq_true rfl)⟩) hD hS hA (fun r9 u9 H locs hw9 hP hD hS => ?_)
  have hP : va_P G vwCl (Dk cI cZ h a F nq no np sh nw) H := hP
  have hD : va_D A (Dk cI cZ h a F nq no np sh nw) := hD
  have hw9 : r9 = nw / 48 := hw9
  subst hw9
  refine lv_iload_n hx hb dX0_duskIn_12 rfl (lv_at hl 1 rfl) ?_
  refine lv_iadd hx hb dX0_duskIn_13 ?_
  refine w_in_i (va_runV (As := [.int ((nw / 48) + x)]) (rest := []) ⟨hx, hb, hml, hown, hts⟩ (c_X0_duskOf l G cI cZ h a F nq no np sh nw H.size ((nw / 48) + x) ) (cwV 1 hts gX0_duskIn_X0_duskOf rfl rfl rfl (by decide +kernel) ⟨(Nat.le_of_ble_eq_true rfl), (Nat.le_of_ble_eq_true rfl)⟩) ⟨wPre_blind, va_recv hK hP (ci := 0) (q0 := 0) rfl rfl, w_pre hK hP hD⟩ rfl rfl hl.1 rfl (lv_room (Nat.le_of_ble_eq_true rfl)) dX0_duskIn_14 ⟨(Nat.le_of_ble_eq_true rfl), (Nat.le_of_ble_eq_true rfl)⟩) hD hS hA (fun r14 u14 H locs hw14 hP hD hS => ?_)
  have hP : va_P G vwCl (Dk cI cZ h a F nq no np sh nw) H := hP
  have hD : va_D A (Dk cI cZ h a F nq no np sh nw) := hD
  have hw14 : r14 = p_dusk ((nw / 48) + x) sh := hw14
  subst hw14
  exact w_iret () hx hb hr hlocks hK hP hD hS (Nat.le_of_ble_eq_true rfl) (Nat.le_of_ble_eq_true rfl) dX0_duskIn_17 (show (p_dusk ((nw / 48) + x) sh) = p_dusk (nw / 48 + x) sh from by first | exact ⟨by rw [hw4]; rfl, rfl⟩ | rfl)
set_option maxHeartbeats 4000000 in
set_option maxRecDepth 100000 in
theorem c_X0_dawnIn (l : Launch) (G : va_G) (cI cZ : ClassId) (h : Nat) (a : Nat → Nat) (F : Nat → Nat → Int32) (nq no np : Nat) (sh nw : Int32) (sz : Nat) (x : Int32) (hx9 : p_wi x 0 99 = true) : Met l yX0_dawnIn wsX0_dawnIn ({ frames := 2, cells := 0, slots := 0, locals := 41 } : Room) (va_Pc [.ref h, .int x] (wPre G (ty2 cI cZ) (Dk cI cZ h a F nq no np sh nw) sz)) (va_Qi (fun (r : Int32) (_ : Unit) => r = p_dawn (nw / 48 + x)) (fun _ => wP G (ty2 cI cZ) (Dk cI cZ h a F nq no np sh nw) (va_A (Dk cI cZ h a F nq no np sh nw) sz)) (va_A (Dk cI cZ h a F nq no np sh nw) sz)) 0 0 (va_A (Dk cI cZ h a F nq no np sh nw) sz) := by
  refine w_met (cc := cX0_dawnIn) (maxL := 2) (ret := (some .int)) (by decide) rfl (Nat.le_of_ble_eq_true rfl) ?_
  intro pg e s m below meth cd hx hb hml hr hts hown hlocks hnm hK hsz hP hD hA hS ls hl
  have hown : s.vm.findClass RX0 = some m.cls := hown
  have hl : lv_has ls 2 [(0, .ref h), (1, .int x)] := hl
  generalize hAe : va_A (Dk cI cZ h a F nq no np sh nw) sz = A at hD hA hS ⊢
  refine lv_iload_n hx hb dX0_dawnIn_0 rfl (lv_at hl 1 rfl) ?_
  refine lv_iconst (v := 0) hx hb dX0_dawnIn_1 (by decide) ?_
  refine lv_bipush (v := 99) hx hb dX0_dawnIn_2 (by decide) ?_
  refine w_st_v (va_runS (As := [.int x, .int 0, .int 99]) (rest := []) ⟨hx, hb, hml, hown, hts⟩ (c_X0_requireWithin l G s.heap.size x 0 99 (hx9)) (va_cwS 3 hts gX0_dawnIn_X0_requireWithin rfl rfl rfl (by decide +kernel) ⟨(Nat.le_of_ble_eq_true rfl), (Nat.le_of_ble_eq_true rfl)⟩) ⟨wPre_blind, w_pre (hK.sub [] rfl) w_P0 (w_D0 (A := A))⟩ rfl rfl hl.1 rfl (lv_room (Nat.le_of_ble_eq_true rfl)) dX0_dawnIn_4 ⟨(Nat.le_of_ble_eq_true rfl), (Nat.le_of_ble_eq_true rfl)⟩) hP hS hA (fun u4 H locs hw4 hP hS => ?_)
  refine lv_aload_n hx hb dX0_dawnIn_7 rfl (lv_at hl 0 rfl) ?_
  refine w_in_i (va_runV (As := []) (rest := []) ⟨hx, hb, hml, hown, hts⟩ (c_X0_day l G cI cZ h a F nq no np sh nw H.size ) (cwV 0 hts gX0_dawnIn_X0_day rfl rfl rfl (by decide +kernel) ⟨(Nat.le_of_ble_eq_true rfl), (Nat.le_of_ble_eq_true rfl)⟩) ⟨wPre_blind, va_recv hK hP (ci := 0) (q0 := 0) rfl rfl, w_pre hK hP hD⟩ rfl rfl hl.1 rfl (lv_room (Nat.le_of_ble_eq_true rfl)) dX0_dawnIn_8 ⟨(Nat.le_of_ble_eq_true rfl), (Nat.le_of_ble_eq_true rfl)⟩) hD hS hA (fun r8 u8 H locs hw8 hP hD hS => ?_)
  have hP : va_P G vwCl (Dk cI cZ h a F nq no np sh nw) H := hP
  have hD : va_D A (Dk cI cZ h a F nq no np sh nw) := hD
  have hw8 : r8 = nw / 48 := hw8
  subst hw8
  refine lv_iload_n hx hb dX0_dawnIn_11 rfl (lv_at hl 1 rfl) ?_
  refine lv_iadd hx hb dX0_dawnIn_12 ?_
  refine w_st_i (va_runS (As := [.int ((nw / 48) + x)]) (rest := []) ⟨hx, hb, hml, hown, hts⟩ (c_X0_dawnOf l G H.size ((nw / 48) + x) ) (va_cwS 1 hts gX0_dawnIn_X0_dawnOf rfl rfl rfl (by decide +kernel) ⟨(Nat.le_of_ble_eq_true rfl), (Nat.le_of_ble_eq_true rfl)⟩) ⟨wPre_blind, w_pre (hK.sub [] rfl) w_P0 (w_D0 (A := A))⟩ rfl rfl hl.1 rfl (lv_room (Nat.le_of_ble_eq_true rfl)) dX0_dawnIn_13 ⟨(Nat.le_of_ble_eq_true rfl), (Nat.le_of_ble_eq_true rfl)⟩) hP hS hA (fun r13 u13 H locs hw13 hP hS => ?_)
  have hw13 : r13 = p_dawn ((nw / 48) + x) := hw13
  subst hw13
  exact w_iret () hx hb hr hlocks hK hP hD hS (Nat.le_of_ble_eq_true rfl) (Nat.le_of_ble_eq_true rfl) dX0_dawnIn_16 (show (p_dawn ((nw / 48) + x)) = p_dawn (nw / 48 + x) from by first | exact ⟨by rw [hw4]; rfl, rfl⟩ | rfl)
set_option maxHeartbeats 4000000 in
set_option maxRecDepth 100000 in
theorem c_X0_quarters (l : Launch) (G : va_G) (cI cZ : ClassId) (h : Nat) (a : Nat → Nat) (F : Nat → Nat → Int32) (nq no np : Nat) (sh nw : Int32) (sz : Nat) : Met l yX0_quarters wsX0_quarters ({ frames := 0, cells := 0, slots := 0, locals := 0 } : Room) (va_Pc [.ref h] (wPre G (ty2 cI cZ) (Dk cI cZ h a F nq no np sh nw) sz)) (va_Qi (fun (r : Int32) (_ : Unit) => r = nI nq) (fun _ => wP G (ty2 cI cZ) (Dk cI cZ h a F nq no np sh nw) (va_A (Dk cI cZ h a F nq no np sh nw) sz)) (va_A (Dk cI cZ h a F nq no np sh nw) sz)) 0 0 (va_A (Dk cI cZ h a F nq no np sh nw) sz) := by
  refine w_met (cc := cX0_quarters) (maxL := 1) (ret := (some .int)) (by decide) rfl (Nat.le_of_ble_eq_true rfl) ?_
  intro pg e s m below meth cd hx hb hml hr hts hown hlocks hnm hK hsz hP hD hA hS ls hl
  have hown : s.vm.findClass RX0 = some m.cls := hown
  have hin : ∀ w ∈ wsX00, w ∈ wsX0_quarters := by decide +kernel
  have hl : lv_has ls 1 [(0, .ref h)] := hl
  generalize hAe : va_A (Dk cI cZ h a F nq no np sh nw) sz = A at hD hA hS ⊢
  refine lv_aload_n hx hb dX0_quarters_0 rfl (lv_at hl 0 rfl) ?_
  refine va_get (ci := 0) (v := .int (nI nq)) (C := RX0) (T := TX0) (N := 16) hx hb hts hin hown hK hP 0 rfl rfl 11 (by decide) (hts (.fieldLink RX0 44 "CurfewDesk" "quarterCount" "I") (by decide +kernel)) (fun _ h9 => h9) rfl dX0_quarters_1 ?_
  exact w_iret () hx hb hr hlocks hK hP hD hS (Nat.le_of_ble_eq_true rfl) (Nat.le_of_ble_eq_true rfl) dX0_quarters_4 (show (nI nq) = nI nq from by rfl)
set_option maxHeartbeats 4000000 in
set_option maxRecDepth 100000 in
theorem c_X0_orders (l : Launch) (G : va_G) (cI cZ : ClassId) (h : Nat) (a : Nat → Nat) (F : Nat → Nat → Int32) (nq no np : Nat) (sh nw : Int32) (sz : Nat) : Met l yX0_orders wsX0_orders ({ frames := 0, cells := 0, slots := 0, locals := 0 } : Room) (va_Pc [.ref h] (wPre G (ty2 cI cZ) (Dk cI cZ h a F nq no np sh nw) sz)) (va_Qi (fun (r : Int32) (_ : Unit) => r = nI no) (fun _ => wP G (ty2 cI cZ) (Dk cI cZ h a F nq no np sh nw) (va_A (Dk cI cZ h a F nq no np sh nw) sz)) (va_A (Dk cI cZ h a F nq no np sh nw) sz)) 0 0 (va_A (Dk cI cZ h a F nq no np sh nw) sz) := by
  refine w_met (cc := cX0_orders) (maxL := 1) (ret := (some .int)) (by decide) rfl (Nat.le_of_ble_eq_true rfl) ?_
  intro pg e s m below meth cd hx hb hml hr hts hown hlocks hnm hK hsz hP hD hA hS ls hl
  have hown : s.vm.findClass RX0 = some m.cls := hown
  have hin : ∀ w ∈ wsX00, w ∈ wsX0_orders := by decide +kernel
  have hl : lv_has ls 1 [(0, .ref h)] := hl
  generalize hAe : va_A (Dk cI cZ h a F nq no np sh nw) sz = A at hD hA hS ⊢
  refine lv_aload_n hx hb dX0_orders_0 rfl (lv_at hl 0 rfl) ?_
  refine va_get (ci := 0) (v := .int (nI no)) (C := RX0) (T := TX0) (N := 16) hx hb hts hin hown hK hP 0 rfl rfl 12 (by decide) (hts (.fieldLink RX0 74 "CurfewDesk" "orderCount" "I") (by decide +kernel)) (fun _ h9 => h9) rfl dX0_orders_1 ?_
  exact w_iret () hx hb hr hlocks hK hP hD hS (Nat.le_of_ble_eq_true rfl) (Nat.le_of_ble_eq_true rfl) dX0_orders_4 (show (nI no) = nI no from by rfl)
set_option maxHeartbeats 4000000 in
set_option maxRecDepth 100000 in
theorem c_X0_people (l : Launch) (G : va_G) (cI cZ : ClassId) (h : Nat) (a : Nat → Nat) (F : Nat → Nat → Int32) (nq no np : Nat) (sh nw : Int32) (sz : Nat) : Met l yX0_people wsX0_people ({ frames := 0, cells := 0, slots := 0, locals := 0 } : Room) (va_Pc [.ref h] (wPre G (ty2 cI cZ) (Dk cI cZ h a F nq no np sh nw) sz)) (va_Qi (fun (r : Int32) (_ : Unit) => r = nI np) (fun _ => wP G (ty2 cI cZ) (Dk cI cZ h a F nq no np sh nw) (va_A (Dk cI cZ h a F nq no np sh nw) sz)) (va_A (Dk cI cZ h a F nq no np sh nw) sz)) 0 0 (va_A (Dk cI cZ h a F nq no np sh nw) sz) := by
  refine w_met (cc := cX0_people) (maxL := 1) (ret := (some .int)) (by decide) rfl (Nat.le_of_ble_eq_true rfl) ?_
  intro pg e s m below meth cd hx hb hml hr hts hown hlocks hnm hK hsz hP hD hA hS ls hl
  have hown : s.vm.findClass RX0 = some m.cls := hown
  have hin : ∀ w ∈ wsX00, w ∈ wsX0_people := by decide +kernel
  have hl : lv_has ls 1 [(0, .ref h)] := hl
  generalize hAe : va_A (Dk cI cZ h a F nq no np sh nw) sz = A at hD hA hS ⊢
  refine lv_aload_n hx hb dX0_people_0 rfl (lv_at hl 0 rfl) ?_
  refine va_get (ci := 0) (v := .int (nI np)) (C := RX0) (T := TX0) (N := 16) hx hb hts hin hown hK hP 0 rfl rfl 13 (by decide) (hts (.fieldLink RX0 59 "CurfewDesk" "personCount" "I") (by decide +kernel)) (fun _ h9 => h9) rfl dX0_people_1 ?_
  exact w_iret () hx hb hr hlocks hK hP hD hS (Nat.le_of_ble_eq_true rfl) (Nat.le_of_ble_eq_true rfl) dX0_people_4 (show (nI np) = nI np from by rfl)
set_option maxHeartbeats 4000000 in
set_option maxRecDepth 100000 in
theorem c_X0_shift (l : Launch) (G : va_G) (cI cZ : ClassId) (h : Nat) (a : Nat → Nat) (F : Nat → Nat → Int32) (nq no np : Nat) (sh nw : Int32) (sz : Nat) : Met l yX0_shift wsX0_shift ({ frames := 0, cells := 0, slots := 0, locals := 0 } : Room) (va_Pc [.ref h] (wPre G (ty2 cI cZ) (Dk cI cZ h a F nq no np sh nw) sz)) (va_Qi (fun (r : Int32) (_ : Unit) => r = sh) (fun _ => wP G (ty2 cI cZ) (Dk cI cZ h a F nq no np sh nw) (va_A (Dk cI cZ h a F nq no np sh nw) sz)) (va_A (Dk cI cZ h a F nq no np sh nw) sz)) 0 0 (va_A (Dk cI cZ h a F nq no np sh nw) sz) := by
  refine w_met (cc := cX0_shift) (maxL := 1) (ret := (some .int)) (by decide) rfl (Nat.le_of_ble_eq_true rfl) ?_
  intro pg e s m below meth cd hx hb hml hr hts hown hlocks hnm hK hsz hP hD hA hS ls hl
  have hown : s.vm.findClass RX0 = some m.cls := hown
  have hin : ∀ w ∈ wsX00, w ∈ wsX0_shift := by decide +kernel
  have hl : lv_has ls 1 [(0, .ref h)] := hl
  generalize hAe : va_A (Dk cI cZ h a F nq no np sh nw) sz = A at hD hA hS ⊢
  refine lv_aload_n hx hb dX0_shift_0 rfl (lv_at hl 0 rfl) ?_
  refine va_get (ci := 0) (v := .int sh) (C := RX0) (T := TX0) (N := 16) hx hb hts hin hown hK hP 0 rfl rfl 14 (by decide) (hts (.fieldLink RX0 86 "CurfewDesk" "duskShift" "I") (by decide +kernel)) (fun _ h9 => h9) rfl dX0_shift_1 ?_
  exact w_iret () hx hb hr hlocks hK hP hD hS (Nat.le_of_ble_eq_true rfl) (Nat.le_of_ble_eq_true rfl) dX0_shift_4 (show sh = sh from by rfl)
set_option maxHeartbeats 4000000 in
set_option maxRecDepth 100000 in
theorem c_X0_ordersOn (l : Launch) (G : va_G) (cI cZ : ClassId) (h : Nat) (a : Nat → Nat) (F : Nat → Nat → Int32) (nq no np : Nat) (sh nw : Int32) (sz : Nat) (hno : no ≤ 10) : Met l yX0_ordersOn wsX0_ordersOn ({ frames := 4, cells := 0, slots := 0, locals := 88 } : Room) (va_Pc [.ref h] (wPre G (ty2 cI cZ) (Dk cI cZ h a F nq no np sh nw) sz)) (va_Qi (fun (r : Int32) (_ : Unit) => r = nI (p_mo F sh no nw)) (fun _ => wP G (ty2 cI cZ) (Dk cI cZ h a F nq no np sh nw) (va_A (Dk cI cZ h a F nq no np sh nw) sz)) (va_A (Dk cI cZ h a F nq no np sh nw) sz)) 0 0 (va_A (Dk cI cZ h a F nq no np sh nw) sz) := by
  refine w_met (cc := cX0_ordersOn) (maxL := 3) (ret := (some .int)) (by decide) rfl (Nat.le_of_ble_eq_true rfl) ?_
  intro pg e s m below meth cd hx hb hml hr hts hown hlocks hnm hK hsz hP hD hA hS ls hl
  have hown : s.vm.findClass RX0 = some m.cls := hown
  have hin : ∀ w ∈ wsX00, w ∈ wsX0_ordersOn := by decide +kernel
  have hl : lv_has ls 3 [(0, .ref h)] := hl
  generalize hAe : va_A (Dk cI cZ h a F nq no np sh nw) sz = A at hD hA hS ⊢
  refine lv_iconst (v := 0) hx hb dX0_ordersOn_0 (by decide) ?_
  refine lv_istore_n (lv' := [(1, .int 0), (0, .ref h)]) hx hb dX0_ordersOn_1 rfl hl (by decide) rfl (fun ls hl => ?_)
  refine lv_iconst (v := 0) hx hb dX0_ordersOn_2 (by decide) ?_
  refine lv_istore_n (lv' := [(2, .int 0), (1, .int 0), (0, .ref h)]) hx hb dX0_ordersOn_3 rfl hl (by decide) rfl (fun ls hl => ?_)
  have key4 : ∀ (n i4 : Nat), i4 ≤ no → no < i4 + n → ∀ (x1 : Int32) (x2 : Int32), x1 = nI (p_ct (fun o => p_on F sh o nw) i4) → x2 = nI i4 → ∀ (H : Heap) (locs : List Loc), va_P G vwCl (Dk cI cZ h a F nq no np sh nw) H → va_D A (Dk cI cZ h a F nq no np sh nw) → va_S A s.heap H locs → ∀ ls : Array Slot, lv_has ls 3 [(0, .ref h), (1, .int x1), (2, .int x2)] → W pg l e ({ frames := 4, cells := 0, slots := 0, locals := 88 } : Room) s m ([.ref h] : List Value).toArray below meth cd H locs (0) (0) (MQ below (va_Qi (fun (r : Int32) (_ : Unit) => r = nI (p_mo F sh no nw)) (fun _ => wP G (ty2 cI cZ) (Dk cI cZ h a F nq no np sh nw) A) A) ([.ref h] : List Value).toArray s 0 0 A) (F0 m 4 ls []) := by
    intro n
    induction n with
    | zero => intro i4 h1 h2; exact absurd h2 (by omega)
    | succ n ih4 =>
      intro i4 hi_i4 hn_i4 x1 x2 e1 e2 H locs hP hD hS ls hl
      subst e1 e2
      refine lv_iload_n hx hb dX0_ordersOn_4 rfl (lv_at hl 2 rfl) ?_
      refine lv_aload_n hx hb dX0_ordersOn_5 rfl (lv_at hl 0 rfl) ?_
      refine va_get (ci := 0) (v := .int (nI no)) (C := RX0) (T := TX0) (N := 16) hx hb hts hin hown hK hP 0 rfl rfl 12 (by decide) (hts (.fieldLink RX0 74 "CurfewDesk" "orderCount" "I") (by decide +kernel)) (fun _ h9 => h9) rfl dX0_ordersOn_6 ?_
      refine lv_icmp_ge (tgt := 33) hx hb dX0_ordersOn_9 (by decide) (fun c9 => ?_) (fun c9 => ?_)
      · have c9 := (nI_leI (a := no) (b := i4) (by omega) (by omega)).mp c9
        have ei : no = i4 := by omega
        subst ei
        refine lv_iload_n hx hb dX0_ordersOn_33 rfl (lv_at hl 1 rfl) ?_
        exact w_iret () hx hb hr hlocks hK hP hD hS (Nat.le_of_ble_eq_true rfl) (Nat.le_of_ble_eq_true rfl) dX0_ordersOn_34 (show (nI (p_ct (fun o => p_on F sh o nw) no)) = nI (p_mo F sh no nw) from by rfl)
      · have c9 := mt (nI_leI (a := no) (b := i4) (by omega) (by omega)).mpr c9
        have hlt_i4 : i4 < no := by omega
        refine lv_aload_n hx hb dX0_ordersOn_12 rfl (lv_at hl 0 rfl) ?_
        refine lv_iload_n hx hb dX0_ordersOn_13 rfl (lv_at hl 2 rfl) ?_
        refine lv_aload_n hx hb dX0_ordersOn_14 rfl (lv_at hl 0 rfl) ?_
        refine va_get (ci := 0) (v := .int nw) (C := RX0) (T := TX0) (N := 16) hx hb hts hin hown hK hP 0 rfl rfl 15 (by decide) (hts (.fieldLink RX0 101 "CurfewDesk" "now" "I") (by decide +kernel)) (fun _ h9 => h9) rfl dX0_ordersOn_15 ?_
        refine w_in_i (va_runV (As := [.int (nI i4), .int nw]) (rest := []) ⟨hx, hb, hml, hown, hts⟩ (c_X0_isOnAt l G cI cZ h a F nq no np sh nw H.size i4 nw (by omega)) (cwV 2 hts gX0_ordersOn_X0_isOnAt rfl rfl rfl (by decide +kernel) ⟨(Nat.le_of_ble_eq_true rfl), (Nat.le_of_ble_eq_true rfl)⟩) ⟨wPre_blind, va_recv hK hP (ci := 0) (q0 := 0) rfl rfl, w_pre hK hP hD⟩ rfl rfl hl.1 rfl (lv_room (Nat.le_of_ble_eq_true rfl)) dX0_ordersOn_18 ⟨(Nat.le_of_ble_eq_true rfl), (Nat.le_of_ble_eq_true rfl)⟩) hD hS hA (fun r18 u18 H locs hw18 hP hD hS => ?_)
        have hP : va_P G vwCl (Dk cI cZ h a F nq no np sh nw) H := hP
        have hD : va_D A (Dk cI cZ h a F nq no np sh nw) := hD
        have hw18 : r18 = b2i (p_on F sh i4 nw) := hw18
        subst hw18
        refine lv_if_eq (tgt := 27) hx hb dX0_ordersOn_21 (by decide) (fun c21 => ?_) (fun c21 => ?_)
        · have c21 := b2i_0.mp c21
          refine lv_iinc (v := nI i4 + 1) (lv' := [(2, .int (nI i4 + 1)), (0, .ref h), (1, .int (nI (p_ct (fun o => p_on F sh o nw) i4)))]) hx hb dX0_ordersOn_27 hl (k := 2) rfl rfl (by decide) rfl (fun ls hl => ?_)
          refine lv_goto (tgt := 4) hx hb dX0_ordersOn_30 (by decide) ?_
          exact ih4 (i4 + 1) (by omega) (by omega) (nI (p_ct (fun o => p_on F sh o nw) i4)) (nI i4 + 1) (by first | exact nI_1 _ | exact nct_t (by assumption) | exact nct_f (by assumption) | exact nct_b | rfl) (by first | exact nI_1 _ | exact nct_t (by assumption) | exact nct_f (by assumption) | exact nct_b | rfl) _ _ hP hD hS _ (lv_sub hl [1, 2, 0] rfl)
        · have c21 := b2i_1.mp c21
          refine lv_iinc (v := nI (p_ct (fun o => p_on F sh o nw) i4) + 1) (lv' := [(1, .int (nI (p_ct (fun o => p_on F sh o nw) i4) + 1)), (0, .ref h), (2, .int (nI i4))]) hx hb dX0_ordersOn_24 hl (k := 1) rfl rfl (by decide) rfl (fun ls hl => ?_)
          refine lv_iinc (v := nI i4 + 1) (lv' := [(2, .int (nI i4 + 1)), (1, .int (nI (p_ct (fun o => p_on F sh o nw) i4) + 1)), (0, .ref h)]) hx hb dX0_ordersOn_27 hl (k := 2) rfl rfl (by decide) rfl (fun ls hl => ?_)
          refine lv_goto (tgt := 4) hx hb dX0_ordersOn_30 (by decide) ?_
          exact ih4 (i4 + 1) (by omega) (by omega) (nI (p_ct (fun o => p_on F sh o nw) i4) + 1) (nI i4 + 1) (by first | exact nI_1 _ | exact nct_t (by assumption) | exact nct_f (by assumption) | exact nct_b | rfl) (by first | exact nI_1 _ | exact nct_t (by assumption) | exact nct_f (by assumption) | exact nct_b | rfl) _ _ hP hD hS _ (lv_sub hl [2, 1, 0] rfl)
  exact key4 (no + 1) 0 (by omega) (by omega) 0 0 (by first | rfl | simp [p_ct, p_sm, p_fl, p_fg, nI_0]) (by first | rfl | simp [p_ct, p_sm, p_fl, p_fg, nI_0]) _ _ hP hD hS _ (lv_sub hl [2, 1, 0] rfl)
set_option maxHeartbeats 4000000 in
set_option maxRecDepth 100000 in
theorem c_X0_allOwe (l : Launch) (G : va_G) (cI cZ : ClassId) (h : Nat) (a : Nat → Nat) (F : Nat → Nat → Int32) (nq no np : Nat) (sh nw : Int32) (sz : Nat) (hnp : np ≤ 20) : Met l yX0_allOwe wsX0_allOwe ({ frames := 0, cells := 0, slots := 0, locals := 0 } : Room) (va_Pc [.ref h] (wPre G (ty2 cI cZ) (Dk cI cZ h a F nq no np sh nw) sz)) (va_Qi (fun (r : Int32) (_ : Unit) => r = p_sm (F 8) np) (fun _ => wP G (ty2 cI cZ) (Dk cI cZ h a F nq no np sh nw) (va_A (Dk cI cZ h a F nq no np sh nw) sz)) (va_A (Dk cI cZ h a F nq no np sh nw) sz)) 0 0 (va_A (Dk cI cZ h a F nq no np sh nw) sz) := by
  refine w_met (cc := cX0_allOwe) (maxL := 3) (ret := (some .int)) (by decide) rfl (Nat.le_of_ble_eq_true rfl) ?_
  intro pg e s m below meth cd hx hb hml hr hts hown hlocks hnm hK hsz hP hD hA hS ls hl
  have hown : s.vm.findClass RX0 = some m.cls := hown
  have hin : ∀ w ∈ wsX00, w ∈ wsX0_allOwe := by decide +kernel
  have hl : lv_has ls 3 [(0, .ref h)] := hl
  generalize hAe : va_A (Dk cI cZ h a F nq no np sh nw) sz = A at hD hA hS ⊢
  refine lv_iconst (v := 0) hx hb dX0_allOwe_0 (by decide) ?_
  refine lv_istore_n (lv' := [(1, .int 0), (0, .ref h)]) hx hb dX0_allOwe_1 rfl hl (by decide) rfl (fun ls hl => ?_)
  refine lv_iconst (v := 0) hx hb dX0_allOwe_2 (by decide) ?_
  refine lv_istore_n (lv' := [(2, .int 0), (1, .int 0), (0, .ref h)]) hx hb dX0_allOwe_3 rfl hl (by decide) rfl (fun ls hl => ?_)
  have key4 : ∀ (n i4 : Nat), i4 ≤ np → np < i4 + n → ∀ (x1 : Int32) (x2 : Int32), x1 = p_sm (F 8) i4 → x2 = nI i4 → ∀ (H : Heap) (locs : List Loc), va_P G vwCl (Dk cI cZ h a F nq no np sh nw) H → va_D A (Dk cI cZ h a F nq no np sh nw) → va_S A s.heap H locs → ∀ ls : Array Slot, lv_has ls 3 [(0, .ref h), (1, .int x1), (2, .int x2)] → W pg l e ({ frames := 0, cells := 0, slots := 0, locals := 0 } : Room) s m ([.ref h] : List Value).toArray below meth cd H locs (0) (0) (MQ below (va_Qi (fun (r : Int32) (_ : Unit) => r = p_sm (F 8) np) (fun _ => wP G (ty2 cI cZ) (Dk cI cZ h a F nq no np sh nw) A) A) ([.ref h] : List Value).toArray s 0 0 A) (F0 m 4 ls []) := by
    intro n
    induction n with
    | zero => intro i4 h1 h2; exact absurd h2 (by omega)
    | succ n ih4 =>
      intro i4 hi_i4 hn_i4 x1 x2 e1 e2 H locs hP hD hS ls hl
      subst e1 e2
      refine lv_iload_n hx hb dX0_allOwe_4 rfl (lv_at hl 2 rfl) ?_
      refine lv_aload_n hx hb dX0_allOwe_5 rfl (lv_at hl 0 rfl) ?_
      refine va_get (ci := 0) (v := .int (nI np)) (C := RX0) (T := TX0) (N := 16) hx hb hts hin hown hK hP 0 rfl rfl 13 (by decide) (hts (.fieldLink RX0 59 "CurfewDesk" "personCount" "I") (by decide +kernel)) (fun _ h9 => h9) rfl dX0_allOwe_6 ?_
      refine lv_icmp_ge (tgt := 27) hx hb dX0_allOwe_9 (by decide) (fun c9 => ?_) (fun c9 => ?_)
      · have c9 := (nI_leI (a := np) (b := i4) (by omega) (by omega)).mp c9
        have ei : np = i4 := by omega
        subst ei
        refine lv_iload_n hx hb dX0_allOwe_27 rfl (lv_at hl 1 rfl) ?_
        exact w_iret () hx hb hr hlocks hK hP hD hS (Nat.le_of_ble_eq_true rfl) (Nat.le_of_ble_eq_true rfl) dX0_allOwe_28 (show (p_sm (F 8) np) = p_sm (F 8) np from by rfl)
      · have c9 := mt (nI_leI (a := np) (b := i4) (by omega) (by omega)).mpr c9
        have hlt_i4 : i4 < np := by omega
        refine lv_iload_n hx hb dX0_allOwe_12 rfl (lv_at hl 1 rfl) ?_
        refine lv_aload_n hx hb dX0_allOwe_13 rfl (lv_at hl 0 rfl) ?_
        refine va_get (ci := 0) (v := .ref (a 8)) (C := RX0) (T := TX0) (N := 16) hx hb hts hin hown hK hP 0 rfl rfl 8 (by decide) (hts (.fieldLink RX0 35 "CurfewDesk" "personOwes" "[I") (by decide +kernel)) (fun _ h9 => h9) rfl dX0_allOwe_14 ?_
        refine lv_iload_n hx hb dX0_allOwe_17 rfl (lv_at hl 2 rfl) ?_
        refine w_iald hx hb hK hP 9 0 rfl rfl (f := (F 8)) (j := i4) (by omega) (by omega) dX0_allOwe_18 ?_
        refine lv_iadd hx hb dX0_allOwe_19 ?_
        refine lv_istore_n (lv' := [(1, .int ((p_sm (F 8) i4) + ((F 8) i4))), (0, .ref h), (2, .int (nI i4))]) hx hb dX0_allOwe_20 rfl hl (by decide) rfl (fun ls hl => ?_)
        refine lv_iinc (v := nI i4 + 1) (lv' := [(2, .int (nI i4 + 1)), (1, .int ((p_sm (F 8) i4) + ((F 8) i4))), (0, .ref h)]) hx hb dX0_allOwe_21 hl (k := 2) rfl rfl (by decide) rfl (fun ls hl => ?_)
        refine lv_goto (tgt := 4) hx hb dX0_allOwe_24 (by decide) ?_
        exact ih4 (i4 + 1) (by omega) (by omega) ((p_sm (F 8) i4) + ((F 8) i4)) (nI i4 + 1) (by rfl) (by first | exact nI_1 _ | exact nct_t (by assumption) | exact nct_f (by assumption) | exact nct_b | rfl) _ _ hP hD hS _ (lv_sub hl [2, 1, 0] rfl)
  exact key4 (np + 1) 0 (by omega) (by omega) 0 0 (by first | rfl | simp [p_ct, p_sm, p_fl, p_fg, nI_0]) (by first | rfl | simp [p_ct, p_sm, p_fl, p_fg, nI_0]) _ _ hP hD hS _ (lv_sub hl [2, 1, 0] rfl)
set_option maxHeartbeats 4000000 in
set_option maxRecDepth 100000 in
theorem c_X0_barredBy (l : Launch) (G : va_G) (cI cZ : ClassId) (h : Nat) (a : Nat → Nat) (F : Nat → Nat → Int32) (nq no np : Nat) (sh nw : Int32) (sz : Nat) (x : Int32) (hno : no ≤ 10) (hnp : np ≤ 20) (hx9 : p_in x no = true) : Met l yX0_barredBy wsX0_barredBy ({ frames := 4, cells := 0, slots := 0, locals := 90 } : Room) (va_Pc [.ref h, .int x] (wPre G (ty2 cI cZ) (Dk cI cZ h a F nq no np sh nw) sz)) (va_Qi (fun (r : Int32) (_ : Unit) => r = nI (p_bd F sh np x.toNatClampNeg nw)) (fun _ => wP G (ty2 cI cZ) (Dk cI cZ h a F nq no np sh nw) (va_A (Dk cI cZ h a F nq no np sh nw) sz)) (va_A (Dk cI cZ h a F nq no np sh nw) sz)) 0 0 (va_A (Dk cI cZ h a F nq no np sh nw) sz) := by
  refine w_met (cc := cX0_barredBy) (maxL := 4) (ret := (some .int)) (by decide) rfl (Nat.le_of_ble_eq_true rfl) ?_
  intro pg e s m below meth cd hx hb hml hr hts hown hlocks hnm hK hsz hP hD hA hS ls hl
  have hown : s.vm.findClass RX0 = some m.cls := hown
  have hin : ∀ w ∈ wsX00, w ∈ wsX0_barredBy := by decide +kernel
  have hl : lv_has ls 4 [(0, .ref h), (1, .int x)] := hl
  generalize hAe : va_A (Dk cI cZ h a F nq no np sh nw) sz = A at hD hA hS ⊢
  refine lv_aload_n hx hb dX0_barredBy_0 rfl (lv_at hl 0 rfl) ?_
  refine lv_iload_n hx hb dX0_barredBy_1 rfl (lv_at hl 1 rfl) ?_
  refine w_in_v (va_runV (As := [.int x]) (rest := []) ⟨hx, hb, hml, hown, hts⟩ (c_X0_requireOrder l G cI cZ h a F nq no np sh nw s.heap.size x (by omega) (hx9)) (cwV 1 hts gX0_barredBy_X0_requireOrder rfl rfl rfl (by decide +kernel) ⟨(Nat.le_of_ble_eq_true rfl), (Nat.le_of_ble_eq_true rfl)⟩) ⟨wPre_blind, va_recv hK hP (ci := 0) (q0 := 0) rfl rfl, w_pre hK hP hD⟩ rfl rfl hl.1 rfl (lv_room (Nat.le_of_ble_eq_true rfl)) dX0_barredBy_2 ⟨(Nat.le_of_ble_eq_true rfl), (Nat.le_of_ble_eq_true rfl)⟩) hD hS hA (fun u2 H locs hw2 hP hD hS => ?_)
  have hP : va_P G vwCl (Dk cI cZ h a F nq no np sh nw) H := hP
  have hD : va_D A (Dk cI cZ h a F nq no np sh nw) := hD
  obtain ⟨j, hj, rfl⟩ := pin_of hx9
  refine lv_iconst (v := 0) hx hb dX0_barredBy_5 (by decide) ?_
  refine lv_istore_n (lv' := [(2, .int 0), (0, .ref h), (1, .int (nI j))]) hx hb dX0_barredBy_6 rfl hl (by decide) rfl (fun ls hl => ?_)
  refine lv_iconst (v := 0) hx hb dX0_barredBy_7 (by decide) ?_
  refine lv_istore_n (lv' := [(3, .int 0), (2, .int 0), (0, .ref h), (1, .int (nI j))]) hx hb dX0_barredBy_8 rfl hl (by decide) rfl (fun ls hl => ?_)
  have key9 : ∀ (n i9 : Nat), i9 ≤ np → np < i9 + n → ∀ (x2 : Int32) (x3 : Int32), x2 = nI (p_ct (fun p => p_bars F sh j p (F 0 j) nw) i9) → x3 = nI i9 → ∀ (H : Heap) (locs : List Loc), va_P G vwCl (Dk cI cZ h a F nq no np sh nw) H → va_D A (Dk cI cZ h a F nq no np sh nw) → va_S A s.heap H locs → ∀ ls : Array Slot, lv_has ls 4 [(0, .ref h), (1, .int (nI j)), (2, .int x2), (3, .int x3)] → W pg l e ({ frames := 4, cells := 0, slots := 0, locals := 90 } : Room) s m ([.ref h, .int (nI j)] : List Value).toArray below meth cd H locs (0 + 0) (0 + 0) (MQ below (va_Qi (fun (r : Int32) (_ : Unit) => r = nI (p_bd F sh np (nI j).toNatClampNeg nw)) (fun _ => wP G (ty2 cI cZ) (Dk cI cZ h a F nq no np sh nw) A) A) ([.ref h, .int (nI j)] : List Value).toArray s 0 0 A) (F0 m 9 ls []) := by
    intro n
    induction n with
    | zero => intro i9 h1 h2; exact absurd h2 (by omega)
    | succ n ih9 =>
      intro i9 hi_i9 hn_i9 x2 x3 e2 e3 H locs hP hD hS ls hl
      subst e2 e3
      refine lv_iload_n hx hb dX0_barredBy_9 rfl (lv_at hl 3 rfl) ?_
      refine lv_aload_n hx hb dX0_barredBy_10 rfl (lv_at hl 0 rfl) ?_
      refine va_get (ci := 0) (v := .int (nI np)) (C := RX0) (T := TX0) (N := 16) hx hb hts hin hown hK hP 0 rfl rfl 13 (by decide) (hts (.fieldLink RX0 59 "CurfewDesk" "personCount" "I") (by decide +kernel)) (fun _ h9 => h9) rfl dX0_barredBy_11 ?_
      refine lv_icmp_ge (tgt := 45) hx hb dX0_barredBy_14 (by decide) (fun c14 => ?_) (fun c14 => ?_)
      · have c14 := (nI_leI (a := np) (b := i9) (by omega) (by omega)).mp c14
        have ei : np = i9 := by omega
        subst ei
        refine lv_iload_n hx hb dX0_barredBy_45 rfl (lv_at hl 2 rfl) ?_
        exact w_iret () hx hb hr hlocks hK hP hD hS (Nat.le_of_ble_eq_true rfl) (Nat.le_of_ble_eq_true rfl) dX0_barredBy_46 (show (nI (p_ct (fun p => p_bars F sh j p (F 0 j) nw) np)) = nI (p_bd F sh np (nI j).toNatClampNeg nw) from by first | exact ⟨by rw [hw2]; rfl, by simp only [nI_clamp (show j < 2 ^ 31 by omega)]; rfl⟩ | (simp only [nI_clamp (show j < 2 ^ 31 by omega)]; rfl))
      · have c14 := mt (nI_leI (a := np) (b := i9) (by omega) (by omega)).mpr c14
        have hlt_i9 : i9 < np := by omega
        refine lv_aload_n hx hb dX0_barredBy_17 rfl (lv_at hl 0 rfl) ?_
        refine lv_iload_n hx hb dX0_barredBy_18 rfl (lv_at hl 1 rfl) ?_
        refine lv_iload_n hx hb dX0_barredBy_19 rfl (lv_at hl 3 rfl) ?_
        refine lv_aload_n hx hb dX0_barredBy_20 rfl (lv_at hl 0 rfl) ?_
        refine va_get (ci := 0) (v := .ref (a 0)) (C := RX0) (T := TX0) (N := 16) hx hb hts hin hown hK hP 0 rfl rfl 0 (by decide) (hts (.fieldLink RX0 9 "CurfewDesk" "orderQuarter" "[I") (by decide +kernel)) (fun _ h9 => h9) rfl dX0_barredBy_21 ?_
        refine lv_iload_n hx hb dX0_barredBy_24 rfl (lv_at hl 1 rfl) ?_
        refine w_iald hx hb hK hP 1 0 rfl rfl (f := (F 0)) (j := j) (by omega) (by omega) dX0_barredBy_25 ?_
        refine lv_aload_n hx hb dX0_barredBy_26 rfl (lv_at hl 0 rfl) ?_
        refine va_get (ci := 0) (v := .int nw) (C := RX0) (T := TX0) (N := 16) hx hb hts hin hown hK hP 0 rfl rfl 15 (by decide) (hts (.fieldLink RX0 101 "CurfewDesk" "now" "I") (by decide +kernel)) (fun _ h9 => h9) rfl dX0_barredBy_27 ?_
        refine w_in_i (va_runV (As := [.int (nI j), .int (nI i9), .int ((F 0) j), .int nw]) (rest := []) ⟨hx, hb, hml, hown, hts⟩ (c_X0_bars l G cI cZ h a F nq no np sh nw H.size j i9 ((F 0) j) nw (by omega) (by omega)) (cwV 4 hts gX0_barredBy_X0_bars rfl rfl rfl (by decide +kernel) ⟨(Nat.le_of_ble_eq_true rfl), (Nat.le_of_ble_eq_true rfl)⟩) ⟨wPre_blind, va_recv hK hP (ci := 0) (q0 := 0) rfl rfl, w_pre hK hP hD⟩ rfl rfl hl.1 rfl (lv_room (Nat.le_of_ble_eq_true rfl)) dX0_barredBy_30 ⟨(Nat.le_of_ble_eq_true rfl), (Nat.le_of_ble_eq_true rfl)⟩) hD hS hA (fun r30 u30 H locs hw30 hP hD hS => ?_)
        have hP : va_P G vwCl (Dk cI cZ h a F nq no np sh nw) H := hP
        have hD : va_D A (Dk cI cZ h a F nq no np sh nw) := hD
        have hw30 : r30 = b2i (p_bars F sh j i9 ((F 0) j) nw) := hw30
        subst hw30
        refine lv_if_eq (tgt := 39) hx hb dX0_barredBy_33 (by decide) (fun c33 => ?_) (fun c33 => ?_)
        · have c33 := b2i_0.mp c33
          refine lv_iinc (v := nI i9 + 1) (lv' := [(3, .int (nI i9 + 1)), (0, .ref h), (1, .int (nI j)), (2, .int (nI (p_ct (fun p => p_bars F sh j p (F 0 j) nw) i9)))]) hx hb dX0_barredBy_39 hl (k := 3) rfl rfl (by decide) rfl (fun ls hl => ?_)
          refine lv_goto (tgt := 9) hx hb dX0_barredBy_42 (by decide) ?_
          exact ih9 (i9 + 1) (by omega) (by omega) (nI (p_ct (fun p => p_bars F sh j p (F 0 j) nw) i9)) (nI i9 + 1) (by first | exact nI_1 _ | exact nct_t (by assumption) | exact nct_f (by assumption) | exact nct_b | rfl) (by first | exact nI_1 _ | exact nct_t (by assumption) | exact nct_f (by assumption) | exact nct_b | rfl) _ _ hP hD hS _ (lv_sub hl [1, 2, 3, 0] rfl)
        · have c33 := b2i_1.mp c33
          refine lv_iinc (v := nI (p_ct (fun p => p_bars F sh j p (F 0 j) nw) i9) + 1) (lv' := [(2, .int (nI (p_ct (fun p => p_bars F sh j p (F 0 j) nw) i9) + 1)), (0, .ref h), (1, .int (nI j)), (3, .int (nI i9))]) hx hb dX0_barredBy_36 hl (k := 2) rfl rfl (by decide) rfl (fun ls hl => ?_)
          refine lv_iinc (v := nI i9 + 1) (lv' := [(3, .int (nI i9 + 1)), (2, .int (nI (p_ct (fun p => p_bars F sh j p (F 0 j) nw) i9) + 1)), (0, .ref h), (1, .int (nI j))]) hx hb dX0_barredBy_39 hl (k := 3) rfl rfl (by decide) rfl (fun ls hl => ?_)
          refine lv_goto (tgt := 9) hx hb dX0_barredBy_42 (by decide) ?_
          exact ih9 (i9 + 1) (by omega) (by omega) (nI (p_ct (fun p => p_bars F sh j p (F 0 j) nw) i9) + 1) (nI i9 + 1) (by first | exact nI_1 _ | exact nct_t (by assumption) | exact nct_f (by assumption) | exact nct_b | rfl) (by first | exact nI_1 _ | exact nct_t (by assumption) | exact nct_f (by assumption) | exact nct_b | rfl) _ _ hP hD hS _ (lv_sub hl [2, 3, 1, 0] rfl)
  exact key9 (np + 1) 0 (by omega) (by omega) 0 0 (by first | rfl | simp [p_ct, p_sm, p_fl, p_fg, nI_0]) (by first | rfl | simp [p_ct, p_sm, p_fl, p_fg, nI_0]) _ _ hP hD hS _ (lv_sub hl [2, 3, 1, 0] rfl)
set_option maxHeartbeats 4000000 in
set_option maxRecDepth 100000 in
theorem c_X0_ordersAgainst (l : Launch) (G : va_G) (cI cZ : ClassId) (h : Nat) (a : Nat → Nat) (F : Nat → Nat → Int32) (nq no np : Nat) (sh nw : Int32) (sz : Nat) (x : Int32) (y : Int32) (hnq : nq ≤ 6) (hno : no ≤ 10) (hnp : np ≤ 20) (hx9 : p_in x np = true) (hy9 : p_in y nq = true) : Met l yX0_ordersAgainst wsX0_ordersAgainst ({ frames := 4, cells := 0, slots := 0, locals := 90 } : Room) (va_Pc [.ref h, .int x, .int y] (wPre G (ty2 cI cZ) (Dk cI cZ h a F nq no np sh nw) sz)) (va_Qi (fun (r : Int32) (_ : Unit) => r = nI (p_ag F sh no x.toNatClampNeg y nw)) (fun _ => wP G (ty2 cI cZ) (Dk cI cZ h a F nq no np sh nw) (va_A (Dk cI cZ h a F nq no np sh nw) sz)) (va_A (Dk cI cZ h a F nq no np sh nw) sz)) 0 0 (va_A (Dk cI cZ h a F nq no np sh nw) sz) := by
  refine w_met (cc := cX0_ordersAgainst) (maxL := 5) (ret := (some .int)) (by decide) rfl (Nat.le_of_ble_eq_true rfl) ?_
  intro pg e s m below meth cd hx hb hml hr hts hown hlocks hnm hK hsz hP hD hA hS ls hl
  have hown : s.vm.findClass RX0 = some m.cls := hown
  have hin : ∀ w ∈ wsX00, w ∈ wsX0_ordersAgainst := by decide +kernel
  have hl : lv_has ls 5 [(0, .ref h), (1, .int x), (2, .int y)] := hl
  generalize hAe : va_A (Dk cI cZ h a F nq no np sh nw) sz = A at hD hA hS ⊢
  refine lv_aload_n hx hb dX0_ordersAgainst_0 rfl (lv_at hl 0 rfl) ?_
  refine lv_iload_n hx hb dX0_ordersAgainst_1 rfl (lv_at hl 1 rfl) ?_
  refine w_in_v (va_runV (As := [.int x]) (rest := []) ⟨hx, hb, hml, hown, hts⟩ (c_X0_requirePerson l G cI cZ h a F nq no np sh nw s.heap.size x (by omega) (hx9)) (cwV 1 hts gX0_ordersAgainst_X0_requirePerson rfl rfl rfl (by decide +kernel) ⟨(Nat.le_of_ble_eq_true rfl), (Nat.le_of_ble_eq_true rfl)⟩) ⟨wPre_blind, va_recv hK hP (ci := 0) (q0 := 0) rfl rfl, w_pre hK hP hD⟩ rfl rfl hl.1 rfl (lv_room (Nat.le_of_ble_eq_true rfl)) dX0_ordersAgainst_2 ⟨(Nat.le_of_ble_eq_true rfl), (Nat.le_of_ble_eq_true rfl)⟩) hD hS hA (fun u2 H locs hw2 hP hD hS => ?_)
  have hP : va_P G vwCl (Dk cI cZ h a F nq no np sh nw) H := hP
  have hD : va_D A (Dk cI cZ h a F nq no np sh nw) := hD
  obtain ⟨j, hj, rfl⟩ := pin_of hx9
  refine lv_aload_n hx hb dX0_ordersAgainst_5 rfl (lv_at hl 0 rfl) ?_
  refine lv_iload_n hx hb dX0_ordersAgainst_6 rfl (lv_at hl 2 rfl) ?_
  refine w_in_v (va_runV (As := [.int y]) (rest := []) ⟨hx, hb, hml, hown, hts⟩ (c_X0_requireQuarter l G cI cZ h a F nq no np sh nw H.size y (by omega) (hy9)) (cwV 1 hts gX0_ordersAgainst_X0_requireQuarter rfl rfl rfl (by decide +kernel) ⟨(Nat.le_of_ble_eq_true rfl), (Nat.le_of_ble_eq_true rfl)⟩) ⟨wPre_blind, va_recv hK hP (ci := 0) (q0 := 0) rfl rfl, w_pre hK hP hD⟩ rfl rfl hl.1 rfl (lv_room (Nat.le_of_ble_eq_true rfl)) dX0_ordersAgainst_7 ⟨(Nat.le_of_ble_eq_true rfl), (Nat.le_of_ble_eq_true rfl)⟩) hD hS hA (fun u7 H locs hw7 hP hD hS => ?_)
  have hP : va_P G vwCl (Dk cI cZ h a F nq no np sh nw) H := hP
  have hD : va_D A (Dk cI cZ h a F nq no np sh nw) := hD
  refine lv_iconst (v := 0) hx hb dX0_ordersAgainst_10 (by decide) ?_
  refine lv_istore_n (lv' := [(3, .int 0), (0, .ref h), (1, .int (nI j)), (2, .int y)]) hx hb dX0_ordersAgainst_11 rfl hl (by decide) rfl (fun ls hl => ?_)
  refine lv_iconst (v := 0) hx hb dX0_ordersAgainst_12 (by decide) ?_
  refine lv_istore (lv' := [(4, .int 0), (3, .int 0), (0, .ref h), (1, .int (nI j)), (2, .int y)]) hx hb dX0_ordersAgainst_13 hl (by decide) rfl (fun ls hl => ?_)
  have key15 : ∀ (n i15 : Nat), i15 ≤ no → no < i15 + n → ∀ (x3 : Int32) (x4 : Int32), x3 = nI (p_ct (fun o => p_bars F sh o j y nw) i15) → x4 = nI i15 → ∀ (H : Heap) (locs : List Loc), va_P G vwCl (Dk cI cZ h a F nq no np sh nw) H → va_D A (Dk cI cZ h a F nq no np sh nw) → va_S A s.heap H locs → ∀ ls : Array Slot, lv_has ls 5 [(0, .ref h), (1, .int (nI j)), (2, .int y), (3, .int x3), (4, .int x4)] → W pg l e ({ frames := 4, cells := 0, slots := 0, locals := 90 } : Room) s m ([.ref h, .int (nI j), .int y] : List Value).toArray below meth cd H locs (0 + 0 + 0) (0 + 0 + 0) (MQ below (va_Qi (fun (r : Int32) (_ : Unit) => r = nI (p_ag F sh no (nI j).toNatClampNeg y nw)) (fun _ => wP G (ty2 cI cZ) (Dk cI cZ h a F nq no np sh nw) A) A) ([.ref h, .int (nI j), .int y] : List Value).toArray s 0 0 A) (F0 m 15 ls []) := by
    intro n
    induction n with
    | zero => intro i15 h1 h2; exact absurd h2 (by omega)
    | succ n ih15 =>
      intro i15 hi_i15 hn_i15 x3 x4 e3 e4 H locs hP hD hS ls hl
      subst e3 e4
      refine lv_iload hx hb dX0_ordersAgainst_15 (lv_at hl 4 rfl) ?_
      refine lv_aload_n hx hb dX0_ordersAgainst_17 rfl (lv_at hl 0 rfl) ?_
      refine va_get (ci := 0) (v := .int (nI no)) (C := RX0) (T := TX0) (N := 16) hx hb hts hin hown hK hP 0 rfl rfl 12 (by decide) (hts (.fieldLink RX0 74 "CurfewDesk" "orderCount" "I") (by decide +kernel)) (fun _ h9 => h9) rfl dX0_ordersAgainst_18 ?_
      refine lv_icmp_ge (tgt := 48) hx hb dX0_ordersAgainst_21 (by decide) (fun c21 => ?_) (fun c21 => ?_)
      · have c21 := (nI_leI (a := no) (b := i15) (by omega) (by omega)).mp c21
        have ei : no = i15 := by omega
        subst ei
        refine lv_iload_n hx hb dX0_ordersAgainst_48 rfl (lv_at hl 3 rfl) ?_
        exact w_iret () hx hb hr hlocks hK hP hD hS (Nat.le_of_ble_eq_true rfl) (Nat.le_of_ble_eq_true rfl) dX0_ordersAgainst_49 (show (nI (p_ct (fun o => p_bars F sh o j y nw) no)) = nI (p_ag F sh no (nI j).toNatClampNeg y nw) from by first | exact ⟨by rw [hw2, hw7]; rfl, by simp only [nI_clamp (show j < 2 ^ 31 by omega)]; rfl⟩ | (simp only [nI_clamp (show j < 2 ^ 31 by omega)]; rfl))
      · have c21 := mt (nI_leI (a := no) (b := i15) (by omega) (by omega)).mpr c21
        have hlt_i15 : i15 < no := by omega
        refine lv_aload_n hx hb dX0_ordersAgainst_24 rfl (lv_at hl 0 rfl) ?_
        refine lv_iload hx hb dX0_ordersAgainst_25 (lv_at hl 4 rfl) ?_
        refine lv_iload_n hx hb dX0_ordersAgainst_27 rfl (lv_at hl 1 rfl) ?_
        refine lv_iload_n hx hb dX0_ordersAgainst_28 rfl (lv_at hl 2 rfl) ?_
        refine lv_aload_n hx hb dX0_ordersAgainst_29 rfl (lv_at hl 0 rfl) ?_
        refine va_get (ci := 0) (v := .int nw) (C := RX0) (T := TX0) (N := 16) hx hb hts hin hown hK hP 0 rfl rfl 15 (by decide) (hts (.fieldLink RX0 101 "CurfewDesk" "now" "I") (by decide +kernel)) (fun _ h9 => h9) rfl dX0_ordersAgainst_30 ?_
        refine w_in_i (va_runV (As := [.int (nI i15), .int (nI j), .int y, .int nw]) (rest := []) ⟨hx, hb, hml, hown, hts⟩ (c_X0_bars l G cI cZ h a F nq no np sh nw H.size i15 j y nw (by omega) (by omega)) (cwV 4 hts gX0_ordersAgainst_X0_bars rfl rfl rfl (by decide +kernel) ⟨(Nat.le_of_ble_eq_true rfl), (Nat.le_of_ble_eq_true rfl)⟩) ⟨wPre_blind, va_recv hK hP (ci := 0) (q0 := 0) rfl rfl, w_pre hK hP hD⟩ rfl rfl hl.1 rfl (lv_room (Nat.le_of_ble_eq_true rfl)) dX0_ordersAgainst_33 ⟨(Nat.le_of_ble_eq_true rfl), (Nat.le_of_ble_eq_true rfl)⟩) hD hS hA (fun r33 u33 H locs hw33 hP hD hS => ?_)
        have hP : va_P G vwCl (Dk cI cZ h a F nq no np sh nw) H := hP
        have hD : va_D A (Dk cI cZ h a F nq no np sh nw) := hD
        have hw33 : r33 = b2i (p_bars F sh i15 j y nw) := hw33
        subst hw33
        refine lv_if_eq (tgt := 42) hx hb dX0_ordersAgainst_36 (by decide) (fun c36 => ?_) (fun c36 => ?_)
        · have c36 := b2i_0.mp c36
          refine lv_iinc (v := nI i15 + 1) (lv' := [(4, .int (nI i15 + 1)), (0, .ref h), (1, .int (nI j)), (2, .int y), (3, .int (nI (p_ct (fun o => p_bars F sh o j y nw) i15)))]) hx hb dX0_ordersAgainst_42 hl (k := 4) rfl rfl (by decide) rfl (fun ls hl => ?_)
          refine lv_goto (tgt := 15) hx hb dX0_ordersAgainst_45 (by decide) ?_
          exact ih15 (i15 + 1) (by omega) (by omega) (nI (p_ct (fun o => p_bars F sh o j y nw) i15)) (nI i15 + 1) (by first | exact nI_1 _ | exact nct_t (by assumption) | exact nct_f (by assumption) | exact nct_b | rfl) (by first | exact nI_1 _ | exact nct_t (by assumption) | exact nct_f (by assumption) | exact nct_b | rfl) _ _ hP hD hS _ (lv_sub hl [1, 2, 3, 4, 0] rfl)
        · have c36 := b2i_1.mp c36
          refine lv_iinc (v := nI (p_ct (fun o => p_bars F sh o j y nw) i15) + 1) (lv' := [(3, .int (nI (p_ct (fun o => p_bars F sh o j y nw) i15) + 1)), (0, .ref h), (1, .int (nI j)), (2, .int y), (4, .int (nI i15))]) hx hb dX0_ordersAgainst_39 hl (k := 3) rfl rfl (by decide) rfl (fun ls hl => ?_)
          refine lv_iinc (v := nI i15 + 1) (lv' := [(4, .int (nI i15 + 1)), (3, .int (nI (p_ct (fun o => p_bars F sh o j y nw) i15) + 1)), (0, .ref h), (1, .int (nI j)), (2, .int y)]) hx hb dX0_ordersAgainst_42 hl (k := 4) rfl rfl (by decide) rfl (fun ls hl => ?_)
          refine lv_goto (tgt := 15) hx hb dX0_ordersAgainst_45 (by decide) ?_
          exact ih15 (i15 + 1) (by omega) (by omega) (nI (p_ct (fun o => p_bars F sh o j y nw) i15) + 1) (nI i15 + 1) (by first | exact nI_1 _ | exact nct_t (by assumption) | exact nct_f (by assumption) | exact nct_b | rfl) (by first | exact nI_1 _ | exact nct_t (by assumption) | exact nct_f (by assumption) | exact nct_b | rfl) _ _ hP hD hS _ (lv_sub hl [2, 3, 4, 1, 0] rfl)
  exact key15 (no + 1) 0 (by omega) (by omega) 0 0 (by first | rfl | simp [p_ct, p_sm, p_fl, p_fg, nI_0]) (by first | rfl | simp [p_ct, p_sm, p_fl, p_fg, nI_0]) _ _ hP hD hS _ (lv_sub hl [2, 3, 4, 1, 0] rfl)
set_option maxHeartbeats 4000000 in
set_option maxRecDepth 100000 in
theorem c_X0_isOn (l : Launch) (G : va_G) (cI cZ : ClassId) (h : Nat) (a : Nat → Nat) (F : Nat → Nat → Int32) (nq no np : Nat) (sh nw : Int32) (sz : Nat) (x : Int32) (hno : no ≤ 10) (hx9 : p_in x no = true) : Met l yX0_isOn wsX0_isOn ({ frames := 4, cells := 0, slots := 0, locals := 88 } : Room) (va_Pc [.ref h, .int x] (wPre G (ty2 cI cZ) (Dk cI cZ h a F nq no np sh nw) sz)) (va_Qi (fun (r : Int32) (_ : Unit) => r = b2i (p_on F sh x.toNatClampNeg nw)) (fun _ => wP G (ty2 cI cZ) (Dk cI cZ h a F nq no np sh nw) (va_A (Dk cI cZ h a F nq no np sh nw) sz)) (va_A (Dk cI cZ h a F nq no np sh nw) sz)) 0 0 (va_A (Dk cI cZ h a F nq no np sh nw) sz) := by
  refine w_met (cc := cX0_isOn) (maxL := 2) (ret := (some .boolean)) (by decide) rfl (Nat.le_of_ble_eq_true rfl) ?_
  intro pg e s m below meth cd hx hb hml hr hts hown hlocks hnm hK hsz hP hD hA hS ls hl
  have hown : s.vm.findClass RX0 = some m.cls := hown
  have hin : ∀ w ∈ wsX00, w ∈ wsX0_isOn := by decide +kernel
  have hl : lv_has ls 2 [(0, .ref h), (1, .int x)] := hl
  generalize hAe : va_A (Dk cI cZ h a F nq no np sh nw) sz = A at hD hA hS ⊢
  refine lv_aload_n hx hb dX0_isOn_0 rfl (lv_at hl 0 rfl) ?_
  refine lv_iload_n hx hb dX0_isOn_1 rfl (lv_at hl 1 rfl) ?_
  refine w_in_v (va_runV (As := [.int x]) (rest := []) ⟨hx, hb, hml, hown, hts⟩ (c_X0_requireOrder l G cI cZ h a F nq no np sh nw s.heap.size x (by omega) (hx9)) (cwV 1 hts gX0_isOn_X0_requireOrder rfl rfl rfl (by decide +kernel) ⟨(Nat.le_of_ble_eq_true rfl), (Nat.le_of_ble_eq_true rfl)⟩) ⟨wPre_blind, va_recv hK hP (ci := 0) (q0 := 0) rfl rfl, w_pre hK hP hD⟩ rfl rfl hl.1 rfl (lv_room (Nat.le_of_ble_eq_true rfl)) dX0_isOn_2 ⟨(Nat.le_of_ble_eq_true rfl), (Nat.le_of_ble_eq_true rfl)⟩) hD hS hA (fun u2 H locs hw2 hP hD hS => ?_)
  have hP : va_P G vwCl (Dk cI cZ h a F nq no np sh nw) H := hP
  have hD : va_D A (Dk cI cZ h a F nq no np sh nw) := hD
  obtain ⟨j, hj, rfl⟩ := pin_of hx9
  refine lv_aload_n hx hb dX0_isOn_5 rfl (lv_at hl 0 rfl) ?_
  refine lv_iload_n hx hb dX0_isOn_6 rfl (lv_at hl 1 rfl) ?_
  refine lv_aload_n hx hb dX0_isOn_7 rfl (lv_at hl 0 rfl) ?_
  refine va_get (ci := 0) (v := .int nw) (C := RX0) (T := TX0) (N := 16) hx hb hts hin hown hK hP 0 rfl rfl 15 (by decide) (hts (.fieldLink RX0 101 "CurfewDesk" "now" "I") (by decide +kernel)) (fun _ h9 => h9) rfl dX0_isOn_8 ?_
  refine w_in_i (va_runV (As := [.int (nI j), .int nw]) (rest := []) ⟨hx, hb, hml, hown, hts⟩ (c_X0_isOnAt l G cI cZ h a F nq no np sh nw H.size j nw (by omega)) (cwV 2 hts gX0_isOn_X0_isOnAt rfl rfl rfl (by decide +kernel) ⟨(Nat.le_of_ble_eq_true rfl), (Nat.le_of_ble_eq_true rfl)⟩) ⟨wPre_blind, va_recv hK hP (ci := 0) (q0 := 0) rfl rfl, w_pre hK hP hD⟩ rfl rfl hl.1 rfl (lv_room (Nat.le_of_ble_eq_true rfl)) dX0_isOn_11 ⟨(Nat.le_of_ble_eq_true rfl), (Nat.le_of_ble_eq_true rfl)⟩) hD hS hA (fun r11 u11 H locs hw11 hP hD hS => ?_)
  have hP : va_P G vwCl (Dk cI cZ h a F nq no np sh nw) H := hP
  have hD : va_D A (Dk cI cZ h a F nq no np sh nw) := hD
  have hw11 : r11 = b2i (p_on F sh j nw) := hw11
  subst hw11
  exact w_zret () hx hb hr hlocks hK hP hD hS (Nat.le_of_ble_eq_true rfl) (Nat.le_of_ble_eq_true rfl) dX0_isOn_14 (b2i_n _) (show (b2i (p_on F sh j nw)) = b2i (p_on F sh (nI j).toNatClampNeg nw) from by simp only [nI_clamp (show j < 2 ^ 31 by omega)])
set_option maxHeartbeats 4000000 in
set_option maxRecDepth 100000 in
theorem c_X0_halfHoursOn (l : Launch) (G : va_G) (cI cZ : ClassId) (h : Nat) (a : Nat → Nat) (F : Nat → Nat → Int32) (nq no np : Nat) (sh nw : Int32) (sz : Nat) (x : Int32) (hno : no ≤ 10) (hx9 : p_in x no = true) : Met l yX0_halfHoursOn wsX0_halfHoursOn ({ frames := 3, cells := 0, slots := 0, locals := 66 } : Room) (va_Pc [.ref h, .int x] (wPre G (ty2 cI cZ) (Dk cI cZ h a F nq no np sh nw) sz)) (va_Qi (fun (r : Int32) (_ : Unit) => r = nI (p_ct (p_hB F sh nw x.toNatClampNeg) 48)) (fun _ => wP G (ty2 cI cZ) (Dk cI cZ h a F nq no np sh nw) (va_A (Dk cI cZ h a F nq no np sh nw) sz)) (va_A (Dk cI cZ h a F nq no np sh nw) sz)) 0 0 (va_A (Dk cI cZ h a F nq no np sh nw) sz) := by
  refine w_met (cc := cX0_halfHoursOn) (maxL := 4) (ret := (some .int)) (by decide) rfl (Nat.le_of_ble_eq_true rfl) ?_
  intro pg e s m below meth cd hx hb hml hr hts hown hlocks hnm hK hsz hP hD hA hS ls hl
  have hown : s.vm.findClass RX0 = some m.cls := hown
  have hin : ∀ w ∈ wsX00, w ∈ wsX0_halfHoursOn := by decide +kernel
  have hl : lv_has ls 4 [(0, .ref h), (1, .int x)] := hl
  generalize hAe : va_A (Dk cI cZ h a F nq no np sh nw) sz = A at hD hA hS ⊢
  refine lv_aload_n hx hb dX0_halfHoursOn_0 rfl (lv_at hl 0 rfl) ?_
  refine lv_iload_n hx hb dX0_halfHoursOn_1 rfl (lv_at hl 1 rfl) ?_
  refine w_in_v (va_runV (As := [.int x]) (rest := []) ⟨hx, hb, hml, hown, hts⟩ (c_X0_requireOrder l G cI cZ h a F nq no np sh nw s.heap.size x (by omega) (hx9)) (cwV 1 hts gX0_halfHoursOn_X0_requireOrder rfl rfl rfl (by decide +kernel) ⟨(Nat.le_of_ble_eq_true rfl), (Nat.le_of_ble_eq_true rfl)⟩) ⟨wPre_blind, va_recv hK hP (ci := 0) (q0 := 0) rfl rfl, w_pre hK hP hD⟩ rfl rfl hl.1 rfl (lv_room (Nat.le_of_ble_eq_true rfl)) dX0_halfHoursOn_2 ⟨(Nat.le_of_ble_eq_true rfl), (Nat.le_of_ble_eq_true rfl)⟩) hD hS hA (fun u2 H locs hw2 hP hD hS => ?_)
  have hP : va_P G vwCl (Dk cI cZ h a F nq no np sh nw) H := hP
  have hD : va_D A (Dk cI cZ h a F nq no np sh nw) := hD
  obtain ⟨j, hj, rfl⟩ := pin_of hx9
  refine lv_iconst (v := 0) hx hb dX0_halfHoursOn_5 (by decide) ?_
  refine lv_istore_n (lv' := [(2, .int 0), (0, .ref h), (1, .int (nI j))]) hx hb dX0_halfHoursOn_6 rfl hl (by decide) rfl (fun ls hl => ?_)
  refine lv_iconst (v := 0) hx hb dX0_halfHoursOn_7 (by decide) ?_
  refine lv_istore_n (lv' := [(3, .int 0), (2, .int 0), (0, .ref h), (1, .int (nI j))]) hx hb dX0_halfHoursOn_8 rfl hl (by decide) rfl (fun ls hl => ?_)
  have key9 : ∀ (n i9 : Nat), i9 ≤ 48 → 48 < i9 + n → ∀ (x2 : Int32) (x3 : Int32), x2 = nI (p_ct (p_hB F sh nw j) i9) → x3 = nI i9 → ∀ (H : Heap) (locs : List Loc), va_P G vwCl (Dk cI cZ h a F nq no np sh nw) H → va_D A (Dk cI cZ h a F nq no np sh nw) → va_S A s.heap H locs → ∀ ls : Array Slot, lv_has ls 4 [(0, .ref h), (1, .int (nI j)), (2, .int x2), (3, .int x3)] → W pg l e ({ frames := 3, cells := 0, slots := 0, locals := 66 } : Room) s m ([.ref h, .int (nI j)] : List Value).toArray below meth cd H locs (0 + 0) (0 + 0) (MQ below (va_Qi (fun (r : Int32) (_ : Unit) => r = nI (p_ct (p_hB F sh nw (nI j).toNatClampNeg) 48)) (fun _ => wP G (ty2 cI cZ) (Dk cI cZ h a F nq no np sh nw) A) A) ([.ref h, .int (nI j)] : List Value).toArray s 0 0 A) (F0 m 9 ls []) := by
    intro n
    induction n with
    | zero => intro i9 h1 h2; exact absurd h2 (by omega)
    | succ n ih9 =>
      intro i9 hi_i9 hn_i9 x2 x3 e2 e3 H locs hP hD hS ls hl
      subst e2 e3
      refine lv_iload_n hx hb dX0_halfHoursOn_9 rfl (lv_at hl 3 rfl) ?_
      refine lv_bipush (v := 48) hx hb dX0_halfHoursOn_10 (by decide) ?_
      refine lv_icmp_ge (tgt := 38) hx hb dX0_halfHoursOn_12 (by decide) (fun c12 => ?_) (fun c12 => ?_)
      · have c12 := (nI_leI (a := 48) (b := i9) (by omega) (by omega)).mp c12
        have ei : 48 = i9 := by omega
        subst ei
        refine lv_iload_n hx hb dX0_halfHoursOn_38 rfl (lv_at hl 2 rfl) ?_
        exact w_iret () hx hb hr hlocks hK hP hD hS (Nat.le_of_ble_eq_true rfl) (Nat.le_of_ble_eq_true rfl) dX0_halfHoursOn_39 (show (nI (p_ct (p_hB F sh nw j) 48)) = nI (p_ct (p_hB F sh nw (nI j).toNatClampNeg) 48) from by simp only [nI_clamp (show j < 2 ^ 31 by omega)])
      · have c12 := mt (nI_leI (a := 48) (b := i9) (by omega) (by omega)).mpr c12
        have hlt_i9 : i9 < 48 := by omega
        refine lv_aload_n hx hb dX0_halfHoursOn_15 rfl (lv_at hl 0 rfl) ?_
        refine lv_iload_n hx hb dX0_halfHoursOn_16 rfl (lv_at hl 1 rfl) ?_
        refine lv_aload_n hx hb dX0_halfHoursOn_17 rfl (lv_at hl 0 rfl) ?_
        refine va_get (ci := 0) (v := .int nw) (C := RX0) (T := TX0) (N := 16) hx hb hts hin hown hK hP 0 rfl rfl 15 (by decide) (hts (.fieldLink RX0 101 "CurfewDesk" "now" "I") (by decide +kernel)) (fun _ h9 => h9) rfl dX0_halfHoursOn_18 ?_
        refine lv_iload_n hx hb dX0_halfHoursOn_21 rfl (lv_at hl 3 rfl) ?_
        refine lv_iadd hx hb dX0_halfHoursOn_22 ?_
        refine w_in_i (va_runV (As := [.int (nI j), .int (nw + (nI i9))]) (rest := []) ⟨hx, hb, hml, hown, hts⟩ (c_X0_isInHours l G cI cZ h a F nq no np sh nw H.size j (nw + (nI i9)) (by omega)) (cwV 2 hts gX0_halfHoursOn_X0_isInHours rfl rfl rfl (by decide +kernel) ⟨(Nat.le_of_ble_eq_true rfl), (Nat.le_of_ble_eq_true rfl)⟩) ⟨wPre_blind, va_recv hK hP (ci := 0) (q0 := 0) rfl rfl, w_pre hK hP hD⟩ rfl rfl hl.1 rfl (lv_room (Nat.le_of_ble_eq_true rfl)) dX0_halfHoursOn_23 ⟨(Nat.le_of_ble_eq_true rfl), (Nat.le_of_ble_eq_true rfl)⟩) hD hS hA (fun r23 u23 H locs hw23 hP hD hS => ?_)
        have hP : va_P G vwCl (Dk cI cZ h a F nq no np sh nw) H := hP
        have hD : va_D A (Dk cI cZ h a F nq no np sh nw) := hD
        have hw23 : r23 = b2i (p_at F sh j (nw + (nI i9))) := hw23
        subst hw23
        refine lv_if_eq (tgt := 32) hx hb dX0_halfHoursOn_26 (by decide) (fun c26 => ?_) (fun c26 => ?_)
        · have c26 := b2i_0.mp c26
          refine lv_iinc (v := nI i9 + 1) (lv' := [(3, .int (nI i9 + 1)), (0, .ref h), (1, .int (nI j)), (2, .int (nI (p_ct (p_hB F sh nw j) i9)))]) hx hb dX0_halfHoursOn_32 hl (k := 3) rfl rfl (by decide) rfl (fun ls hl => ?_)
          refine lv_goto (tgt := 9) hx hb dX0_halfHoursOn_35 (by decide) ?_
          exact ih9 (i9 + 1) (by omega) (by omega) (nI (p_ct (p_hB F sh nw j) i9)) (nI i9 + 1) (by first | exact nI_1 _ | exact nct_t (by assumption) | exact nct_f (by assumption) | exact nct_b | rfl) (by first | exact nI_1 _ | exact nct_t (by assumption) | exact nct_f (by assumption) | exact nct_b | rfl) _ _ hP hD hS _ (lv_sub hl [1, 2, 3, 0] rfl)
        · have c26 := b2i_1.mp c26
          refine lv_iinc (v := nI (p_ct (p_hB F sh nw j) i9) + 1) (lv' := [(2, .int (nI (p_ct (p_hB F sh nw j) i9) + 1)), (0, .ref h), (1, .int (nI j)), (3, .int (nI i9))]) hx hb dX0_halfHoursOn_29 hl (k := 2) rfl rfl (by decide) rfl (fun ls hl => ?_)
          refine lv_iinc (v := nI i9 + 1) (lv' := [(3, .int (nI i9 + 1)), (2, .int (nI (p_ct (p_hB F sh nw j) i9) + 1)), (0, .ref h), (1, .int (nI j))]) hx hb dX0_halfHoursOn_32 hl (k := 3) rfl rfl (by decide) rfl (fun ls hl => ?_)
          refine lv_goto (tgt := 9) hx hb dX0_halfHoursOn_35 (by decide) ?_
          exact ih9 (i9 + 1) (by omega) (by omega) (nI (p_ct (p_hB F sh nw j) i9) + 1) (nI i9 + 1) (by first | exact nI_1 _ | exact nct_t (by assumption) | exact nct_f (by assumption) | exact nct_b | rfl) (by first | exact nI_1 _ | exact nct_t (by assumption) | exact nct_f (by assumption) | exact nct_b | rfl) _ _ hP hD hS _ (lv_sub hl [2, 3, 1, 0] rfl)
  exact key9 (48 + 1) 0 (by omega) (by omega) 0 0 (by first | rfl | simp [p_ct, p_sm, p_fl, p_fg, nI_0]) (by first | rfl | simp [p_ct, p_sm, p_fl, p_fg, nI_0]) _ _ hP hD hS _ (lv_sub hl [2, 3, 1, 0] rfl)
set_option maxHeartbeats 4000000 in
set_option maxRecDepth 100000 in
theorem c_X0_isInForce (l : Launch) (G : va_G) (cI cZ : ClassId) (h : Nat) (a : Nat → Nat) (F : Nat → Nat → Int32) (nq no np : Nat) (sh nw : Int32) (sz : Nat) (x : Int32) (hno : no ≤ 10) (H4 : ∀ j, F 4 j = 0 ∨ F 4 j = 1) (hx9 : p_in x no = true) : Met l yX0_isInForce wsX0_isInForce ({ frames := 1, cells := 0, slots := 0, locals := 21 } : Room) (va_Pc [.ref h, .int x] (wPre G (ty2 cI cZ) (Dk cI cZ h a F nq no np sh nw) sz)) (va_Qi (fun (r : Int32) (_ : Unit) => r = F 4 x.toNatClampNeg) (fun _ => wP G (ty2 cI cZ) (Dk cI cZ h a F nq no np sh nw) (va_A (Dk cI cZ h a F nq no np sh nw) sz)) (va_A (Dk cI cZ h a F nq no np sh nw) sz)) 0 0 (va_A (Dk cI cZ h a F nq no np sh nw) sz) := by
  refine w_met (cc := cX0_isInForce) (maxL := 2) (ret := (some .boolean)) (by decide) rfl (Nat.le_of_ble_eq_true rfl) ?_
  intro pg e s m below meth cd hx hb hml hr hts hown hlocks hnm hK hsz hP hD hA hS ls hl
  have hown : s.vm.findClass RX0 = some m.cls := hown
  have hin : ∀ w ∈ wsX00, w ∈ wsX0_isInForce := by decide +kernel
  have hl : lv_has ls 2 [(0, .ref h), (1, .int x)] := hl
  generalize hAe : va_A (Dk cI cZ h a F nq no np sh nw) sz = A at hD hA hS ⊢
  refine lv_aload_n hx hb dX0_isInForce_0 rfl (lv_at hl 0 rfl) ?_
  refine lv_iload_n hx hb dX0_isInForce_1 rfl (lv_at hl 1 rfl) ?_
  refine w_in_v (va_runV (As := [.int x]) (rest := []) ⟨hx, hb, hml, hown, hts⟩ (c_X0_requireOrder l G cI cZ h a F nq no np sh nw s.heap.size x (by omega) (hx9)) (cwV 1 hts gX0_isInForce_X0_requireOrder rfl rfl rfl (by decide +kernel) ⟨(Nat.le_of_ble_eq_true rfl), (Nat.le_of_ble_eq_true rfl)⟩) ⟨wPre_blind, va_recv hK hP (ci := 0) (q0 := 0) rfl rfl, w_pre hK hP hD⟩ rfl rfl hl.1 rfl (lv_room (Nat.le_of_ble_eq_true rfl)) dX0_isInForce_2 ⟨(Nat.le_of_ble_eq_true rfl), (Nat.le_of_ble_eq_true rfl)⟩) hD hS hA (fun u2 H locs hw2 hP hD hS => ?_)
  have hP : va_P G vwCl (Dk cI cZ h a F nq no np sh nw) H := hP
  have hD : va_D A (Dk cI cZ h a F nq no np sh nw) := hD
  obtain ⟨j, hj, rfl⟩ := pin_of hx9
  refine lv_aload_n hx hb dX0_isInForce_5 rfl (lv_at hl 0 rfl) ?_
  refine va_get (ci := 0) (v := .ref (a 4)) (C := RX0) (T := TX0) (N := 16) hx hb hts hin hown hK hP 0 rfl rfl 4 (by decide) (hts (.fieldLink RX0 22 "CurfewDesk" "orderInForce" "[Z") (by decide +kernel)) (fun _ h9 => h9) rfl dX0_isInForce_6 ?_
  refine lv_iload_n hx hb dX0_isInForce_9 rfl (lv_at hl 1 rfl) ?_
  refine w_zald hx hb hK hP 5 1 rfl rfl (f := (F 4)) (j := j) (by omega) (by omega) dX0_isInForce_10 ?_
  exact w_zret () hx hb hr hlocks hK hP hD hS (Nat.le_of_ble_eq_true rfl) (Nat.le_of_ble_eq_true rfl) dX0_isInForce_11 (by rcases H4 j with h | h <;> rw [h] <;> rfl) (show ((F 4) j) = F 4 (nI j).toNatClampNeg from by simp only [nI_clamp (show j < 2 ^ 31 by omega)])
set_option maxHeartbeats 4000000 in
set_option maxRecDepth 100000 in
theorem c_X0_isExempt (l : Launch) (G : va_G) (cI cZ : ClassId) (h : Nat) (a : Nat → Nat) (F : Nat → Nat → Int32) (nq no np : Nat) (sh nw : Int32) (sz : Nat) (x : Int32) (t : Int32) (hno : no ≤ 10) (hx9 : p_in x no = true) (ht9 : p_in t 8 = true) : Met l yX0_isExempt wsX0_isExempt ({ frames := 1, cells := 0, slots := 0, locals := 22 } : Room) (va_Pc [.ref h, .int x, .int t] (wPre G (ty2 cI cZ) (Dk cI cZ h a F nq no np sh nw) sz)) (va_Qi (fun (r : Int32) (_ : Unit) => r = b2i (p_ex F x.toNatClampNeg t)) (fun _ => wP G (ty2 cI cZ) (Dk cI cZ h a F nq no np sh nw) (va_A (Dk cI cZ h a F nq no np sh nw) sz)) (va_A (Dk cI cZ h a F nq no np sh nw) sz)) 0 0 (va_A (Dk cI cZ h a F nq no np sh nw) sz) := by
  refine w_met (cc := cX0_isExempt) (maxL := 3) (ret := (some .boolean)) (by decide) rfl (Nat.le_of_ble_eq_true rfl) ?_
  intro pg e s m below meth cd hx hb hml hr hts hown hlocks hnm hK hsz hP hD hA hS ls hl
  have hown : s.vm.findClass RX0 = some m.cls := hown
  have hl : lv_has ls 3 [(0, .ref h), (1, .int x), (2, .int t)] := hl
  generalize hAe : va_A (Dk cI cZ h a F nq no np sh nw) sz = A at hD hA hS ⊢
  refine lv_aload_n hx hb dX0_isExempt_0 rfl (lv_at hl 0 rfl) ?_
  refine lv_iload_n hx hb dX0_isExempt_1 rfl (lv_at hl 1 rfl) ?_
  refine w_in_v (va_runV (As := [.int x]) (rest := []) ⟨hx, hb, hml, hown, hts⟩ (c_X0_requireOrder l G cI cZ h a F nq no np sh nw s.heap.size x (by omega) (hx9)) (cwV 1 hts gX0_isExempt_X0_requireOrder rfl rfl rfl (by decide +kernel) ⟨(Nat.le_of_ble_eq_true rfl), (Nat.le_of_ble_eq_true rfl)⟩) ⟨wPre_blind, va_recv hK hP (ci := 0) (q0 := 0) rfl rfl, w_pre hK hP hD⟩ rfl rfl hl.1 rfl (lv_room (Nat.le_of_ble_eq_true rfl)) dX0_isExempt_2 ⟨(Nat.le_of_ble_eq_true rfl), (Nat.le_of_ble_eq_true rfl)⟩) hD hS hA (fun u2 H locs hw2 hP hD hS => ?_)
  have hP : va_P G vwCl (Dk cI cZ h a F nq no np sh nw) H := hP
  have hD : va_D A (Dk cI cZ h a F nq no np sh nw) := hD
  obtain ⟨j, hj, rfl⟩ := pin_of hx9
  refine lv_iload_n hx hb dX0_isExempt_5 rfl (lv_at hl 2 rfl) ?_
  refine w_st_v (va_runS (As := [.int t]) (rest := []) ⟨hx, hb, hml, hown, hts⟩ (c_X0_requireTrade l G H.size t (ht9)) (va_cwS 1 hts gX0_isExempt_X0_requireTrade rfl rfl rfl (by decide +kernel) ⟨(Nat.le_of_ble_eq_true rfl), (Nat.le_of_ble_eq_true rfl)⟩) ⟨wPre_blind, w_pre (hK.sub [] rfl) w_P0 (w_D0 (A := A))⟩ rfl rfl hl.1 rfl (lv_room (Nat.le_of_ble_eq_true rfl)) dX0_isExempt_6 ⟨(Nat.le_of_ble_eq_true rfl), (Nat.le_of_ble_eq_true rfl)⟩) hP hS hA (fun u6 H locs hw6 hP hS => ?_)
  refine lv_aload_n hx hb dX0_isExempt_9 rfl (lv_at hl 0 rfl) ?_
  refine lv_iload_n hx hb dX0_isExempt_10 rfl (lv_at hl 1 rfl) ?_
  refine lv_iload_n hx hb dX0_isExempt_11 rfl (lv_at hl 2 rfl) ?_
  refine w_in_i (va_runV (As := [.int (nI j), .int t]) (rest := []) ⟨hx, hb, hml, hown, hts⟩ (c_X0_exempts l G cI cZ h a F nq no np sh nw H.size j t (by omega)) (cwV 2 hts gX0_isExempt_X0_exempts rfl rfl rfl (by decide +kernel) ⟨(Nat.le_of_ble_eq_true rfl), (Nat.le_of_ble_eq_true rfl)⟩) ⟨wPre_blind, va_recv hK hP (ci := 0) (q0 := 0) rfl rfl, w_pre hK hP hD⟩ rfl rfl hl.1 rfl (lv_room (Nat.le_of_ble_eq_true rfl)) dX0_isExempt_12 ⟨(Nat.le_of_ble_eq_true rfl), (Nat.le_of_ble_eq_true rfl)⟩) hD hS hA (fun r12 u12 H locs hw12 hP hD hS => ?_)
  have hP : va_P G vwCl (Dk cI cZ h a F nq no np sh nw) H := hP
  have hD : va_D A (Dk cI cZ h a F nq no np sh nw) := hD
  have hw12 : r12 = b2i (p_ex F j t) := hw12
  subst hw12
  exact w_zret () hx hb hr hlocks hK hP hD hS (Nat.le_of_ble_eq_true rfl) (Nat.le_of_ble_eq_true rfl) dX0_isExempt_15 (b2i_n _) (show (b2i (p_ex F j t)) = b2i (p_ex F (nI j).toNatClampNeg t) from by simp only [nI_clamp (show j < 2 ^ 31 by omega)])
set_option maxHeartbeats 4000000 in
set_option maxRecDepth 100000 in
theorem c_X0_tradeOf (l : Launch) (G : va_G) (cI cZ : ClassId) (h : Nat) (a : Nat → Nat) (F : Nat → Nat → Int32) (nq no np : Nat) (sh nw : Int32) (sz : Nat) (x : Int32) (hnp : np ≤ 20) (hx9 : p_in x np = true) : Met l yX0_tradeOf wsX0_tradeOf ({ frames := 1, cells := 0, slots := 0, locals := 21 } : Room) (va_Pc [.ref h, .int x] (wPre G (ty2 cI cZ) (Dk cI cZ h a F nq no np sh nw) sz)) (va_Qi (fun (r : Int32) (_ : Unit) => r = F 6 x.toNatClampNeg) (fun _ => wP G (ty2 cI cZ) (Dk cI cZ h a F nq no np sh nw) (va_A (Dk cI cZ h a F nq no np sh nw) sz)) (va_A (Dk cI cZ h a F nq no np sh nw) sz)) 0 0 (va_A (Dk cI cZ h a F nq no np sh nw) sz) := by
  refine w_met (cc := cX0_tradeOf) (maxL := 2) (ret := (some .int)) (by decide) rfl (Nat.le_of_ble_eq_true rfl) ?_
  intro pg e s m below meth cd hx hb hml hr hts hown hlocks hnm hK hsz hP hD hA hS ls hl
  have hown : s.vm.findClass RX0 = some m.cls := hown
  have hin : ∀ w ∈ wsX00, w ∈ wsX0_tradeOf := by decide +kernel
  have hl : lv_has ls 2 [(0, .ref h), (1, .int x)] := hl
  generalize hAe : va_A (Dk cI cZ h a F nq no np sh nw) sz = A at hD hA hS ⊢
  refine lv_aload_n hx hb dX0_tradeOf_0 rfl (lv_at hl 0 rfl) ?_
  refine lv_iload_n hx hb dX0_tradeOf_1 rfl (lv_at hl 1 rfl) ?_
  refine w_in_v (va_runV (As := [.int x]) (rest := []) ⟨hx, hb, hml, hown, hts⟩ (c_X0_requirePerson l G cI cZ h a F nq no np sh nw s.heap.size x (by omega) (hx9)) (cwV 1 hts gX0_tradeOf_X0_requirePerson rfl rfl rfl (by decide +kernel) ⟨(Nat.le_of_ble_eq_true rfl), (Nat.le_of_ble_eq_true rfl)⟩) ⟨wPre_blind, va_recv hK hP (ci := 0) (q0 := 0) rfl rfl, w_pre hK hP hD⟩ rfl rfl hl.1 rfl (lv_room (Nat.le_of_ble_eq_true rfl)) dX0_tradeOf_2 ⟨(Nat.le_of_ble_eq_true rfl), (Nat.le_of_ble_eq_true rfl)⟩) hD hS hA (fun u2 H locs hw2 hP hD hS => ?_)
  have hP : va_P G vwCl (Dk cI cZ h a F nq no np sh nw) H := hP
  have hD : va_D A (Dk cI cZ h a F nq no np sh nw) := hD
  obtain ⟨j, hj, rfl⟩ := pin_of hx9
  refine lv_aload_n hx hb dX0_tradeOf_5 rfl (lv_at hl 0 rfl) ?_
  refine va_get (ci := 0) (v := .ref (a 6)) (C := RX0) (T := TX0) (N := 16) hx hb hts hin hown hK hP 0 rfl rfl 6 (by decide) (hts (.fieldLink RX0 29 "CurfewDesk" "personTrade" "[I") (by decide +kernel)) (fun _ h9 => h9) rfl dX0_tradeOf_6 ?_
  refine lv_iload_n hx hb dX0_tradeOf_9 rfl (lv_at hl 1 rfl) ?_
  refine w_iald hx hb hK hP 7 0 rfl rfl (f := (F 6)) (j := j) (by omega) (by omega) dX0_tradeOf_10 ?_
  exact w_iret () hx hb hr hlocks hK hP hD hS (Nat.le_of_ble_eq_true rfl) (Nat.le_of_ble_eq_true rfl) dX0_tradeOf_11 (show ((F 6) j) = F 6 (nI j).toNatClampNeg from by simp only [nI_clamp (show j < 2 ^ 31 by omega)])
set_option maxHeartbeats 4000000 in
set_option maxRecDepth 100000 in
theorem c_X0_owes (l : Launch) (G : va_G) (cI cZ : ClassId) (h : Nat) (a : Nat → Nat) (F : Nat → Nat → Int32) (nq no np : Nat) (sh nw : Int32) (sz : Nat) (x : Int32) (hnp : np ≤ 20) (hx9 : p_in x np = true) : Met l yX0_owes wsX0_owes ({ frames := 1, cells := 0, slots := 0, locals := 21 } : Room) (va_Pc [.ref h, .int x] (wPre G (ty2 cI cZ) (Dk cI cZ h a F nq no np sh nw) sz)) (va_Qi (fun (r : Int32) (_ : Unit) => r = F 8 x.toNatClampNeg) (fun _ => wP G (ty2 cI cZ) (Dk cI cZ h a F nq no np sh nw) (va_A (Dk cI cZ h a F nq no np sh nw) sz)) (va_A (Dk cI cZ h a F nq no np sh nw) sz)) 0 0 (va_A (Dk cI cZ h a F nq no np sh nw) sz) := by
  refine w_met (cc := cX0_owes) (maxL := 2) (ret := (some .int)) (by decide) rfl (Nat.le_of_ble_eq_true rfl) ?_
  intro pg e s m below meth cd hx hb hml hr hts hown hlocks hnm hK hsz hP hD hA hS ls hl
  have hown : s.vm.findClass RX0 = some m.cls := hown
  have hin : ∀ w ∈ wsX00, w ∈ wsX0_owes := by decide +kernel
  have hl : lv_has ls 2 [(0, .ref h), (1, .int x)] := hl
  generalize hAe : va_A (Dk cI cZ h a F nq no np sh nw) sz = A at hD hA hS ⊢
  refine lv_aload_n hx hb dX0_owes_0 rfl (lv_at hl 0 rfl) ?_
  refine lv_iload_n hx hb dX0_owes_1 rfl (lv_at hl 1 rfl) ?_
  refine w_in_v (va_runV (As := [.int x]) (rest := []) ⟨hx, hb, hml, hown, hts⟩ (c_X0_requirePerson l G cI cZ h a F nq no np sh nw s.heap.size x (by omega) (hx9)) (cwV 1 hts gX0_owes_X0_requirePerson rfl rfl rfl (by decide +kernel) ⟨(Nat.le_of_ble_eq_true rfl), (Nat.le_of_ble_eq_true rfl)⟩) ⟨wPre_blind, va_recv hK hP (ci := 0) (q0 := 0) rfl rfl, w_pre hK hP hD⟩ rfl rfl hl.1 rfl (lv_room (Nat.le_of_ble_eq_true rfl)) dX0_owes_2 ⟨(Nat.le_of_ble_eq_true rfl), (Nat.le_of_ble_eq_true rfl)⟩) hD hS hA (fun u2 H locs hw2 hP hD hS => ?_)
  have hP : va_P G vwCl (Dk cI cZ h a F nq no np sh nw) H := hP
  have hD : va_D A (Dk cI cZ h a F nq no np sh nw) := hD
  obtain ⟨j, hj, rfl⟩ := pin_of hx9
  refine lv_aload_n hx hb dX0_owes_5 rfl (lv_at hl 0 rfl) ?_
  refine va_get (ci := 0) (v := .ref (a 8)) (C := RX0) (T := TX0) (N := 16) hx hb hts hin hown hK hP 0 rfl rfl 8 (by decide) (hts (.fieldLink RX0 35 "CurfewDesk" "personOwes" "[I") (by decide +kernel)) (fun _ h9 => h9) rfl dX0_owes_6 ?_
  refine lv_iload_n hx hb dX0_owes_9 rfl (lv_at hl 1 rfl) ?_
  refine w_iald hx hb hK hP 9 0 rfl rfl (f := (F 8)) (j := j) (by omega) (by omega) dX0_owes_10 ?_
  exact w_iret () hx hb hr hlocks hK hP hD hS (Nat.le_of_ble_eq_true rfl) (Nat.le_of_ble_eq_true rfl) dX0_owes_11 (show ((F 8) j) = F 8 (nI j).toNatClampNeg from by simp only [nI_clamp (show j < 2 ^ 31 by omega)])
set_option maxHeartbeats 4000000 in
set_option maxRecDepth 100000 in
theorem c_X0_timesFined (l : Launch) (G : va_G) (cI cZ : ClassId) (h : Nat) (a : Nat → Nat) (F : Nat → Nat → Int32) (nq no np : Nat) (sh nw : Int32) (sz : Nat) (x : Int32) (hnp : np ≤ 20) (hx9 : p_in x np = true) : Met l yX0_timesFined wsX0_timesFined ({ frames := 1, cells := 0, slots := 0, locals := 21 } : Room) (va_Pc [.ref h, .int x] (wPre G (ty2 cI cZ) (Dk cI cZ h a F nq no np sh nw) sz)) (va_Qi (fun (r : Int32) (_ : Unit) => r = F 7 x.toNatClampNeg) (fun _ => wP G (ty2 cI cZ) (Dk cI cZ h a F nq no np sh nw) (va_A (Dk cI cZ h a F nq no np sh nw) sz)) (va_A (Dk cI cZ h a F nq no np sh nw) sz)) 0 0 (va_A (Dk cI cZ h a F nq no np sh nw) sz) := by
  refine w_met (cc := cX0_timesFined) (maxL := 2) (ret := (some .int)) (by decide) rfl (Nat.le_of_ble_eq_true rfl) ?_
  intro pg e s m below meth cd hx hb hml hr hts hown hlocks hnm hK hsz hP hD hA hS ls hl
  have hown : s.vm.findClass RX0 = some m.cls := hown
  have hin : ∀ w ∈ wsX00, w ∈ wsX0_timesFined := by decide +kernel
  have hl : lv_has ls 2 [(0, .ref h), (1, .int x)] := hl
  generalize hAe : va_A (Dk cI cZ h a F nq no np sh nw) sz = A at hD hA hS ⊢
  refine lv_aload_n hx hb dX0_timesFined_0 rfl (lv_at hl 0 rfl) ?_
  refine lv_iload_n hx hb dX0_timesFined_1 rfl (lv_at hl 1 rfl) ?_
  refine w_in_v (va_runV (As := [.int x]) (rest := []) ⟨hx, hb, hml, hown, hts⟩ (c_X0_requirePerson l G cI cZ h a F nq no np sh nw s.heap.size x (by omega) (hx9)) (cwV 1 hts gX0_timesFined_X0_requirePerson rfl rfl rfl (by decide +kernel) ⟨(Nat.le_of_ble_eq_true rfl), (Nat.le_of_ble_eq_true rfl)⟩) ⟨wPre_blind, va_recv hK hP (ci := 0) (q0 := 0) rfl rfl, w_pre hK hP hD⟩ rfl rfl hl.1 rfl (lv_room (Nat.le_of_ble_eq_true rfl)) dX0_timesFined_2 ⟨(Nat.le_of_ble_eq_true rfl), (Nat.le_of_ble_eq_true rfl)⟩) hD hS hA (fun u2 H locs hw2 hP hD hS => ?_)
  have hP : va_P G vwCl (Dk cI cZ h a F nq no np sh nw) H := hP
  have hD : va_D A (Dk cI cZ h a F nq no np sh nw) := hD
  obtain ⟨j, hj, rfl⟩ := pin_of hx9
  refine lv_aload_n hx hb dX0_timesFined_5 rfl (lv_at hl 0 rfl) ?_
  refine va_get (ci := 0) (v := .ref (a 7)) (C := RX0) (T := TX0) (N := 16) hx hb hts hin hown hK hP 0 rfl rfl 7 (by decide) (hts (.fieldLink RX0 32 "CurfewDesk" "personFined" "[I") (by decide +kernel)) (fun _ h9 => h9) rfl dX0_timesFined_6 ?_
  refine lv_iload_n hx hb dX0_timesFined_9 rfl (lv_at hl 1 rfl) ?_
  refine w_iald hx hb hK hP 8 0 rfl rfl (f := (F 7)) (j := j) (by omega) (by omega) dX0_timesFined_10 ?_
  exact w_iret () hx hb hr hlocks hK hP hD hS (Nat.le_of_ble_eq_true rfl) (Nat.le_of_ble_eq_true rfl) dX0_timesFined_11 (show ((F 7) j) = F 7 (nI j).toNatClampNeg from by simp only [nI_clamp (show j < 2 ^ 31 by omega)])
set_option maxHeartbeats 4000000 in
set_option maxRecDepth 100000 in
theorem c_X0_stampsOf (l : Launch) (G : va_G) (cI cZ : ClassId) (h : Nat) (a : Nat → Nat) (F : Nat → Nat → Int32) (nq no np : Nat) (sh nw : Int32) (sz : Nat) (x : Int32) (y : Int32) (hnp : np ≤ 20) (hx9 : p_in x np = true) (hy9 : p_in y 4 = true) : Met l yX0_stampsOf wsX0_stampsOf ({ frames := 1, cells := 0, slots := 0, locals := 21 } : Room) (va_Pc [.ref h, .int x, .int y] (wPre G (ty2 cI cZ) (Dk cI cZ h a F nq no np sh nw) sz)) (va_Qi (fun (r : Int32) (_ : Unit) => r = F 9 (p_pl x y)) (fun _ => wP G (ty2 cI cZ) (Dk cI cZ h a F nq no np sh nw) (va_A (Dk cI cZ h a F nq no np sh nw) sz)) (va_A (Dk cI cZ h a F nq no np sh nw) sz)) 0 0 (va_A (Dk cI cZ h a F nq no np sh nw) sz) := by
  refine w_met (cc := cX0_stampsOf) (maxL := 3) (ret := (some .int)) (by decide) rfl (Nat.le_of_ble_eq_true rfl) ?_
  intro pg e s m below meth cd hx hb hml hr hts hown hlocks hnm hK hsz hP hD hA hS ls hl
  have hown : s.vm.findClass RX0 = some m.cls := hown
  have hin : ∀ w ∈ wsX00, w ∈ wsX0_stampsOf := by decide +kernel
  have hl : lv_has ls 3 [(0, .ref h), (1, .int x), (2, .int y)] := hl
  generalize hAe : va_A (Dk cI cZ h a F nq no np sh nw) sz = A at hD hA hS ⊢
  refine lv_aload_n hx hb dX0_stampsOf_0 rfl (lv_at hl 0 rfl) ?_
  refine lv_iload_n hx hb dX0_stampsOf_1 rfl (lv_at hl 1 rfl) ?_
  refine w_in_v (va_runV (As := [.int x]) (rest := []) ⟨hx, hb, hml, hown, hts⟩ (c_X0_requirePerson l G cI cZ h a F nq no np sh nw s.heap.size x (by omega) (hx9)) (cwV 1 hts gX0_stampsOf_X0_requirePerson rfl rfl rfl (by decide +kernel) ⟨(Nat.le_of_ble_eq_true rfl), (Nat.le_of_ble_eq_true rfl)⟩) ⟨wPre_blind, va_recv hK hP (ci := 0) (q0 := 0) rfl rfl, w_pre hK hP hD⟩ rfl rfl hl.1 rfl (lv_room (Nat.le_of_ble_eq_true rfl)) dX0_stampsOf_2 ⟨(Nat.le_of_ble_eq_true rfl), (Nat.le_of_ble_eq_true rfl)⟩) hD hS hA (fun u2 H locs hw2 hP hD hS => ?_)
  have hP : va_P G vwCl (Dk cI cZ h a F nq no np sh nw) H := hP
  have hD : va_D A (Dk cI cZ h a F nq no np sh nw) := hD
  obtain ⟨j, hj, rfl⟩ := pin_of hx9
  refine lv_iload_n hx hb dX0_stampsOf_5 rfl (lv_at hl 2 rfl) ?_
  refine w_st_v (va_runS (As := [.int y]) (rest := []) ⟨hx, hb, hml, hown, hts⟩ (c_X0_requireColour l G H.size y (hy9)) (va_cwS 1 hts gX0_stampsOf_X0_requireColour rfl rfl rfl (by decide +kernel) ⟨(Nat.le_of_ble_eq_true rfl), (Nat.le_of_ble_eq_true rfl)⟩) ⟨wPre_blind, w_pre (hK.sub [] rfl) w_P0 (w_D0 (A := A))⟩ rfl rfl hl.1 rfl (lv_room (Nat.le_of_ble_eq_true rfl)) dX0_stampsOf_6 ⟨(Nat.le_of_ble_eq_true rfl), (Nat.le_of_ble_eq_true rfl)⟩) hP hS hA (fun u6 H locs hw6 hP hS => ?_)
  obtain ⟨c, hc, rfl⟩ := pin_of hy9
  refine lv_aload_n hx hb dX0_stampsOf_9 rfl (lv_at hl 0 rfl) ?_
  refine va_get (ci := 0) (v := .ref (a 9)) (C := RX0) (T := TX0) (N := 16) hx hb hts hin hown hK hP 0 rfl rfl 9 (by decide) (hts (.fieldLink RX0 38 "CurfewDesk" "personStamps" "[I") (by decide +kernel)) (fun _ h9 => h9) rfl dX0_stampsOf_10 ?_
  refine lv_iload_n hx hb dX0_stampsOf_13 rfl (lv_at hl 1 rfl) ?_
  refine lv_iload_n hx hb dX0_stampsOf_14 rfl (lv_at hl 2 rfl) ?_
  refine w_st_i (va_runS (As := [.int (nI j), .int (nI c)]) (rest := [.ref (a 9)]) ⟨hx, hb, hml, hown, hts⟩ (c_X0_stampPlace l G H.size j c ) (va_cwS 2 hts gX0_stampsOf_X0_stampPlace rfl rfl rfl (by decide +kernel) ⟨(Nat.le_of_ble_eq_true rfl), (Nat.le_of_ble_eq_true rfl)⟩) ⟨wPre_blind, w_pre (hK.sub [] rfl) w_P0 (w_D0 (A := A))⟩ rfl rfl hl.1 rfl (lv_room (Nat.le_of_ble_eq_true rfl)) dX0_stampsOf_15 ⟨(Nat.le_of_ble_eq_true rfl), (Nat.le_of_ble_eq_true rfl)⟩) hP hS hA (fun r15 u15 H locs hw15 hP hS => ?_)
  have hw15 : r15 = nI (j * 4 + c) := hw15
  subst hw15
  refine w_iald hx hb hK hP 10 0 rfl rfl (f := (F 9)) (j := (j * 4 + c)) (by omega) (by omega) dX0_stampsOf_18 ?_
  exact w_iret () hx hb hr hlocks hK hP hD hS (Nat.le_of_ble_eq_true rfl) (Nat.le_of_ble_eq_true rfl) dX0_stampsOf_19 (show ((F 9) (j * 4 + c)) = F 9 (p_pl (nI j) (nI c)) from by simp only [p_pl, nI_clamp (show j < 2 ^ 31 by omega), nI_clamp (show c < 2 ^ 31 by omega)])
set_option maxHeartbeats 4000000 in
set_option maxRecDepth 100000 in
theorem c_X0_mayGo (l : Launch) (G : va_G) (cI cZ : ClassId) (h : Nat) (a : Nat → Nat) (F : Nat → Nat → Int32) (nq no np : Nat) (sh nw : Int32) (sz : Nat) (x : Int32) (y : Int32) (hnq : nq ≤ 6) (hno : no ≤ 10) (hnp : np ≤ 20) (hx9 : p_in x np = true) (hy9 : p_in y nq = true) : Met l yX0_mayGo wsX0_mayGo ({ frames := 5, cells := 0, slots := 0, locals := 117 } : Room) (va_Pc [.ref h, .int x, .int y] (wPre G (ty2 cI cZ) (Dk cI cZ h a F nq no np sh nw) sz)) (va_Qi (fun (r : Int32) (_ : Unit) => r = b2i (decide (p_miss F sh no x.toNatClampNeg y nw (-1) = 0))) (fun _ => wP G (ty2 cI cZ) (Dk cI cZ h a F nq no np sh nw) (va_A (Dk cI cZ h a F nq no np sh nw) sz)) (va_A (Dk cI cZ h a F nq no np sh nw) sz)) 0 0 (va_A (Dk cI cZ h a F nq no np sh nw) sz) := by
  refine w_met (cc := cX0_mayGo) (maxL := 3) (ret := (some .boolean)) (by decide) rfl (Nat.le_of_ble_eq_true rfl) ?_
  intro pg e s m below meth cd hx hb hml hr hts hown hlocks hnm hK hsz hP hD hA hS ls hl
  have hown : s.vm.findClass RX0 = some m.cls := hown
  have hl : lv_has ls 3 [(0, .ref h), (1, .int x), (2, .int y)] := hl
  generalize hAe : va_A (Dk cI cZ h a F nq no np sh nw) sz = A at hD hA hS ⊢
  refine lv_aload_n hx hb dX0_mayGo_0 rfl (lv_at hl 0 rfl) ?_
  refine lv_iload_n hx hb dX0_mayGo_1 rfl (lv_at hl 1 rfl) ?_
  refine w_in_v (va_runV (As := [.int x]) (rest := []) ⟨hx, hb, hml, hown, hts⟩ (c_X0_requirePerson l G cI cZ h a F nq no np sh nw s.heap.size x (by omega) (hx9)) (cwV 1 hts gX0_mayGo_X0_requirePerson rfl rfl rfl (by decide +kernel) ⟨(Nat.le_of_ble_eq_true rfl), (Nat.le_of_ble_eq_true rfl)⟩) ⟨wPre_blind, va_recv hK hP (ci := 0) (q0 := 0) rfl rfl, w_pre hK hP hD⟩ rfl rfl hl.1 rfl (lv_room (Nat.le_of_ble_eq_true rfl)) dX0_mayGo_2 ⟨(Nat.le_of_ble_eq_true rfl), (Nat.le_of_ble_eq_true rfl)⟩) hD hS hA (fun u2 H locs hw2 hP hD hS => ?_)
  have hP : va_P G vwCl (Dk cI cZ h a F nq no np sh nw) H := hP
  have hD : va_D A (Dk cI cZ h a F nq no np sh nw) := hD
  obtain ⟨j, hj, rfl⟩ := pin_of hx9
  refine lv_aload_n hx hb dX0_mayGo_5 rfl (lv_at hl 0 rfl) ?_
  refine lv_iload_n hx hb dX0_mayGo_6 rfl (lv_at hl 2 rfl) ?_
  refine w_in_v (va_runV (As := [.int y]) (rest := []) ⟨hx, hb, hml, hown, hts⟩ (c_X0_requireQuarter l G cI cZ h a F nq no np sh nw H.size y (by omega) (hy9)) (cwV 1 hts gX0_mayGo_X0_requireQuarter rfl rfl rfl (by decide +kernel) ⟨(Nat.le_of_ble_eq_true rfl), (Nat.le_of_ble_eq_true rfl)⟩) ⟨wPre_blind, va_recv hK hP (ci := 0) (q0 := 0) rfl rfl, w_pre hK hP hD⟩ rfl rfl hl.1 rfl (lv_room (Nat.le_of_ble_eq_true rfl)) dX0_mayGo_7 ⟨(Nat.le_of_ble_eq_true rfl), (Nat.le_of_ble_eq_true rfl)⟩) hD hS hA (fun u7 H locs hw7 hP hD hS => ?_)
  have hP : va_P G vwCl (Dk cI cZ h a F nq no np sh nw) H := hP
  have hD : va_D A (Dk cI cZ h a F nq no np sh nw) := hD
  refine lv_aload_n hx hb dX0_mayGo_10 rfl (lv_at hl 0 rfl) ?_
  refine lv_iload_n hx hb dX0_mayGo_11 rfl (lv_at hl 1 rfl) ?_
  refine lv_iload_n hx hb dX0_mayGo_12 rfl (lv_at hl 2 rfl) ?_
  refine lv_iconst (v := (-1)) hx hb dX0_mayGo_13 (by decide) ?_
  refine w_in_i (va_runV (As := [.int (nI j), .int y, .int (-1)]) (rest := []) ⟨hx, hb, hml, hown, hts⟩ (c_X0_missing l G cI cZ h a F nq no np sh nw H.size j y (-1) (by omega) (by omega)) (cwV 3 hts gX0_mayGo_X0_missing rfl rfl rfl (by decide +kernel) ⟨(Nat.le_of_ble_eq_true rfl), (Nat.le_of_ble_eq_true rfl)⟩) ⟨wPre_blind, va_recv hK hP (ci := 0) (q0 := 0) rfl rfl, w_pre hK hP hD⟩ rfl rfl hl.1 rfl (lv_room (Nat.le_of_ble_eq_true rfl)) dX0_mayGo_14 ⟨(Nat.le_of_ble_eq_true rfl), (Nat.le_of_ble_eq_true rfl)⟩) hD hS hA (fun r14 u14 H locs hw14 hP hD hS => ?_)
  have hP : va_P G vwCl (Dk cI cZ h a F nq no np sh nw) H := hP
  have hD : va_D A (Dk cI cZ h a F nq no np sh nw) := hD
  have hw14 : r14 = p_miss F sh no j y nw (-1) := hw14
  subst hw14
  refine w_selN (v1 := 1) (v2 := 0) hx hb dX0_mayGo_17 (by decide) dX0_mayGo_20 (by decide) dX0_mayGo_21 (by decide) dX0_mayGo_24 (by decide) ?_
  rw [b2i_nz]
  exact w_zret () hx hb hr hlocks hK hP hD hS (Nat.le_of_ble_eq_true rfl) (Nat.le_of_ble_eq_true rfl) dX0_mayGo_25 (b2i_n _) (show (b2i (decide (p_miss F sh no j y nw (-1) = 0))) = b2i (decide (p_miss F sh no (nI j).toNatClampNeg y nw (-1) = 0)) from by simp only [nI_clamp (show j < 2 ^ 31 by omega)])
set_option maxHeartbeats 4000000 in
set_option maxRecDepth 100000 in
theorem c_X0_stampsMissing (l : Launch) (G : va_G) (cI cZ : ClassId) (h : Nat) (a : Nat → Nat) (F : Nat → Nat → Int32) (nq no np : Nat) (sh nw : Int32) (sz : Nat) (x : Int32) (y : Int32) (hnq : nq ≤ 6) (hno : no ≤ 10) (hnp : np ≤ 20) (hx9 : p_in x np = true) (hy9 : p_in y nq = true) : Met l yX0_stampsMissing wsX0_stampsMissing ({ frames := 5, cells := 0, slots := 0, locals := 117 } : Room) (va_Pc [.ref h, .int x, .int y] (wPre G (ty2 cI cZ) (Dk cI cZ h a F nq no np sh nw) sz)) (va_Qi (fun (r : Int32) (_ : Unit) => r = p_miss F sh no x.toNatClampNeg y nw (-1)) (fun _ => wP G (ty2 cI cZ) (Dk cI cZ h a F nq no np sh nw) (va_A (Dk cI cZ h a F nq no np sh nw) sz)) (va_A (Dk cI cZ h a F nq no np sh nw) sz)) 0 0 (va_A (Dk cI cZ h a F nq no np sh nw) sz) := by
  refine w_met (cc := cX0_stampsMissing) (maxL := 3) (ret := (some .int)) (by decide) rfl (Nat.le_of_ble_eq_true rfl) ?_
  intro pg e s m below meth cd hx hb hml hr hts hown hlocks hnm hK hsz hP hD hA hS ls hl
  have hown : s.vm.findClass RX0 = some m.cls := hown
  have hl : lv_has ls 3 [(0, .ref h), (1, .int x), (2, .int y)] := hl
  generalize hAe : va_A (Dk cI cZ h a F nq no np sh nw) sz = A at hD hA hS ⊢
  refine lv_aload_n hx hb dX0_stampsMissing_0 rfl (lv_at hl 0 rfl) ?_
  refine lv_iload_n hx hb dX0_stampsMissing_1 rfl (lv_at hl 1 rfl) ?_
  refine w_in_v (va_runV (As := [.int x]) (rest := []) ⟨hx, hb, hml, hown, hts⟩ (c_X0_requirePerson l G cI cZ h a F nq no np sh nw s.heap.size x (by omega) (hx9)) (cwV 1 hts gX0_stampsMissing_X0_requirePerson rfl rfl rfl (by decide +kernel) ⟨(Nat.le_of_ble_eq_true rfl), (Nat.le_of_ble_eq_true rfl)⟩) ⟨wPre_blind, va_recv hK hP (ci := 0) (q0 := 0) rfl rfl, w_pre hK hP hD⟩ rfl rfl hl.1 rfl (lv_room (Nat.le_of_ble_eq_true rfl)) dX0_stampsMissing_2 ⟨(Nat.le_of_ble_eq_true rfl), (Nat.le_of_ble_eq_true rfl)⟩) hD hS hA (fun u2 H locs hw2 hP hD hS => ?_)
  have hP : va_P G vwCl (Dk cI cZ h a F nq no np sh nw) H := hP
  have hD : va_D A (Dk cI cZ h a F nq no np sh nw) := hD
  obtain ⟨j, hj, rfl⟩ := pin_of hx9
  refine lv_aload_n hx hb dX0_stampsMissing_5 rfl (lv_at hl 0 rfl) ?_
  refine lv_iload_n hx hb dX0_stampsMissing_6 rfl (lv_at hl 2 rfl) ?_
  refine w_in_v (va_runV (As := [.int y]) (rest := []) ⟨hx, hb, hml, hown, hts⟩ (c_X0_requireQuarter l G cI cZ h a F nq no np sh nw H.size y (by omega) (hy9)) (cwV 1 hts gX0_stampsMissing_X0_requireQuarter rfl rfl rfl (by decide +kernel) ⟨(Nat.le_of_ble_eq_true rfl), (Nat.le_of_ble_eq_true rfl)⟩) ⟨wPre_blind, va_recv hK hP (ci := 0) (q0 := 0) rfl rfl, w_pre hK hP hD⟩ rfl rfl hl.1 rfl (lv_room (Nat.le_of_ble_eq_true rfl)) dX0_stampsMissing_7 ⟨(Nat.le_of_ble_eq_true rfl), (Nat.le_of_ble_eq_true rfl)⟩) hD hS hA (fun u7 H locs hw7 hP hD hS => ?_)
  have hP : va_P G vwCl (Dk cI cZ h a F nq no np sh nw) H := hP
  have hD : va_D A (Dk cI cZ h a F nq no np sh nw) := hD
  refine lv_aload_n hx hb dX0_stampsMissing_10 rfl (lv_at hl 0 rfl) ?_
  refine lv_iload_n hx hb dX0_stampsMissing_11 rfl (lv_at hl 1 rfl) ?_
  refine lv_iload_n hx hb dX0_stampsMissing_12 rfl (lv_at hl 2 rfl) ?_
  refine lv_iconst (v := (-1)) hx hb dX0_stampsMissing_13 (by decide) ?_
  refine w_in_i (va_runV (As := [.int (nI j), .int y, .int (-1)]) (rest := []) ⟨hx, hb, hml, hown, hts⟩ (c_X0_missing l G cI cZ h a F nq no np sh nw H.size j y (-1) (by omega) (by omega)) (cwV 3 hts gX0_stampsMissing_X0_missing rfl rfl rfl (by decide +kernel) ⟨(Nat.le_of_ble_eq_true rfl), (Nat.le_of_ble_eq_true rfl)⟩) ⟨wPre_blind, va_recv hK hP (ci := 0) (q0 := 0) rfl rfl, w_pre hK hP hD⟩ rfl rfl hl.1 rfl (lv_room (Nat.le_of_ble_eq_true rfl)) dX0_stampsMissing_14 ⟨(Nat.le_of_ble_eq_true rfl), (Nat.le_of_ble_eq_true rfl)⟩) hD hS hA (fun r14 u14 H locs hw14 hP hD hS => ?_)
  have hP : va_P G vwCl (Dk cI cZ h a F nq no np sh nw) H := hP
  have hD : va_D A (Dk cI cZ h a F nq no np sh nw) := hD
  have hw14 : r14 = p_miss F sh no j y nw (-1) := hw14
  subst hw14
  exact w_iret () hx hb hr hlocks hK hP hD hS (Nat.le_of_ble_eq_true rfl) (Nat.le_of_ble_eq_true rfl) dX0_stampsMissing_17 (show (p_miss F sh no j y nw (-1)) = p_miss F sh no (nI j).toNatClampNeg y nw (-1) from by simp only [nI_clamp (show j < 2 ^ 31 by omega)])
set_option maxHeartbeats 4000000 in
set_option maxRecDepth 100000 in
theorem c_X0_halfHoursUntilFree (l : Launch) (G : va_G) (cI cZ : ClassId) (h : Nat) (a : Nat → Nat) (F : Nat → Nat → Int32) (nq no np : Nat) (sh nw : Int32) (sz : Nat) (x : Int32) (y : Int32) (hnq : nq ≤ 6) (hno : no ≤ 10) (hnp : np ≤ 20) (hx9 : p_in x np = true) (hy9 : p_in y nq = true) : Met l yX0_halfHoursUntilFree wsX0_halfHoursUntilFree ({ frames := 5, cells := 0, slots := 0, locals := 114 } : Room) (va_Pc [.ref h, .int x, .int y] (wPre G (ty2 cI cZ) (Dk cI cZ h a F nq no np sh nw) sz)) (va_Qi (fun (r : Int32) (_ : Unit) => r = a_hu F sh nw no x.toNatClampNeg y) (fun _ => wP G (ty2 cI cZ) (Dk cI cZ h a F nq no np sh nw) (va_A (Dk cI cZ h a F nq no np sh nw) sz)) (va_A (Dk cI cZ h a F nq no np sh nw) sz)) 0 0 (va_A (Dk cI cZ h a F nq no np sh nw) sz) := by
  refine w_met (cc := cX0_halfHoursUntilFree) (maxL := 4) (ret := (some .int)) (by decide) rfl (Nat.le_of_ble_eq_true rfl) ?_
  intro pg e s m below meth cd hx hb hml hr hts hown hlocks hnm hK hsz hP hD hA hS ls hl
  have hown : s.vm.findClass RX0 = some m.cls := hown
  have hin : ∀ w ∈ wsX00, w ∈ wsX0_halfHoursUntilFree := by decide +kernel
  have hl : lv_has ls 4 [(0, .ref h), (1, .int x), (2, .int y)] := hl
  generalize hAe : va_A (Dk cI cZ h a F nq no np sh nw) sz = A at hD hA hS ⊢
  refine lv_aload_n hx hb dX0_halfHoursUntilFree_0 rfl (lv_at hl 0 rfl) ?_
  refine lv_iload_n hx hb dX0_halfHoursUntilFree_1 rfl (lv_at hl 1 rfl) ?_
  refine w_in_v (va_runV (As := [.int x]) (rest := []) ⟨hx, hb, hml, hown, hts⟩ (c_X0_requirePerson l G cI cZ h a F nq no np sh nw s.heap.size x (by omega) (hx9)) (cwV 1 hts gX0_halfHoursUntilFree_X0_requirePerson rfl rfl rfl (by decide +kernel) ⟨(Nat.le_of_ble_eq_true rfl), (Nat.le_of_ble_eq_true rfl)⟩) ⟨wPre_blind, va_recv hK hP (ci := 0) (q0 := 0) rfl rfl, w_pre hK hP hD⟩ rfl rfl hl.1 rfl (lv_room (Nat.le_of_ble_eq_true rfl)) dX0_halfHoursUntilFree_2 ⟨(Nat.le_of_ble_eq_true rfl), (Nat.le_of_ble_eq_true rfl)⟩) hD hS hA (fun u2 H locs hw2 hP hD hS => ?_)
  have hP : va_P G vwCl (Dk cI cZ h a F nq no np sh nw) H := hP
  have hD : va_D A (Dk cI cZ h a F nq no np sh nw) := hD
  obtain ⟨j, hj, rfl⟩ := pin_of hx9
  refine lv_aload_n hx hb dX0_halfHoursUntilFree_5 rfl (lv_at hl 0 rfl) ?_
  refine lv_iload_n hx hb dX0_halfHoursUntilFree_6 rfl (lv_at hl 2 rfl) ?_
  refine w_in_v (va_runV (As := [.int y]) (rest := []) ⟨hx, hb, hml, hown, hts⟩ (c_X0_requireQuarter l G cI cZ h a F nq no np sh nw H.size y (by omega) (hy9)) (cwV 1 hts gX0_halfHoursUntilFree_X0_requireQuarter rfl rfl rfl (by decide +kernel) ⟨(Nat.le_of_ble_eq_true rfl), (Nat.le_of_ble_eq_true rfl)⟩) ⟨wPre_blind, va_recv hK hP (ci := 0) (q0 := 0) rfl rfl, w_pre hK hP hD⟩ rfl rfl hl.1 rfl (lv_room (Nat.le_of_ble_eq_true rfl)) dX0_halfHoursUntilFree_7 ⟨(Nat.le_of_ble_eq_true rfl), (Nat.le_of_ble_eq_true rfl)⟩) hD hS hA (fun u7 H locs hw7 hP hD hS => ?_)
  have hP : va_P G vwCl (Dk cI cZ h a F nq no np sh nw) H := hP
  have hD : va_D A (Dk cI cZ h a F nq no np sh nw) := hD
  refine lv_iconst (v := 0) hx hb dX0_halfHoursUntilFree_10 (by decide) ?_
  refine lv_istore_n (lv' := [(3, .int 0), (0, .ref h), (1, .int (nI j)), (2, .int y)]) hx hb dX0_halfHoursUntilFree_11 rfl hl (by decide) rfl (fun ls hl => ?_)
  have key12 : ∀ (n i12 : Nat), i12 ≤ 49 → 49 < i12 + n → (p_ff (p_hP F sh nw no j y) 0 49 = p_ff (p_hP F sh nw no j y) i12 (49 - i12)) → ∀ (x3 : Int32), x3 = nI i12 → ∀ (H : Heap) (locs : List Loc), va_P G vwCl (Dk cI cZ h a F nq no np sh nw) H → va_D A (Dk cI cZ h a F nq no np sh nw) → va_S A s.heap H locs → ∀ ls : Array Slot, lv_has ls 4 [(0, .ref h), (1, .int (nI j)), (2, .int y), (3, .int x3)] → W pg l e ({ frames := 5, cells := 0, slots := 0, locals := 114 } : Room) s m ([.ref h, .int (nI j), .int y] : List Value).toArray below meth cd H locs (0 + 0 + 0) (0 + 0 + 0) (MQ below (va_Qi (fun (r : Int32) (_ : Unit) => r = a_hu F sh nw no (nI j).toNatClampNeg y) (fun _ => wP G (ty2 cI cZ) (Dk cI cZ h a F nq no np sh nw) A) A) ([.ref h, .int (nI j), .int y] : List Value).toArray s 0 0 A) (F0 m 12 ls []) := by
    intro n
    induction n with
    | zero => intro i12 h1 h2; exact absurd h2 (by omega)
    | succ n ih12 =>
      intro i12 hi_i12 hn_i12 hv x3 e3 H locs hP hD hS ls hl
      subst e3
      refine lv_iload_n hx hb dX0_halfHoursUntilFree_12 rfl (lv_at hl 3 rfl) ?_
      refine lv_bipush (v := 48) hx hb dX0_halfHoursUntilFree_13 (by decide) ?_
      refine lv_icmp_gt (tgt := 41) hx hb dX0_halfHoursUntilFree_15 (by decide) (fun c15 => ?_) (fun c15 => ?_)
      · have c15 := (nI_ltI (a := 48) (b := i12) (by omega) (by omega)).mp c15
        have ei : 49 = i12 := by omega
        subst ei
        refine lv_iconst (v := (-1)) hx hb dX0_halfHoursUntilFree_41 (by decide) ?_
        exact w_iret () hx hb hr hlocks hK hP hD hS (Nat.le_of_ble_eq_true rfl) (Nat.le_of_ble_eq_true rfl) dX0_halfHoursUntilFree_42 (show (-1) = a_hu F sh nw no (nI j).toNatClampNeg y from by rw [a_hu, nI_clamp (show j < 2 ^ 31 by omega), hv]; rfl)
      · have c15 := mt (nI_ltI (a := 48) (b := i12) (by omega) (by omega)).mpr c15
        have hlt_i12 : i12 < 49 := by omega
        refine lv_aload_n hx hb dX0_halfHoursUntilFree_18 rfl (lv_at hl 0 rfl) ?_
        refine lv_iload_n hx hb dX0_halfHoursUntilFree_19 rfl (lv_at hl 1 rfl) ?_
        refine lv_iload_n hx hb dX0_halfHoursUntilFree_20 rfl (lv_at hl 2 rfl) ?_
        refine lv_aload_n hx hb dX0_halfHoursUntilFree_21 rfl (lv_at hl 0 rfl) ?_
        refine va_get (ci := 0) (v := .int nw) (C := RX0) (T := TX0) (N := 16) hx hb hts hin hown hK hP 0 rfl rfl 15 (by decide) (hts (.fieldLink RX0 101 "CurfewDesk" "now" "I") (by decide +kernel)) (fun _ h9 => h9) rfl dX0_halfHoursUntilFree_22 ?_
        refine lv_iload_n hx hb dX0_halfHoursUntilFree_25 rfl (lv_at hl 3 rfl) ?_
        refine lv_iadd hx hb dX0_halfHoursUntilFree_26 ?_
        refine w_in_i (va_runV (As := [.int (nI j), .int y, .int (nw + (nI i12))]) (rest := []) ⟨hx, hb, hml, hown, hts⟩ (c_X0_isFreeAt l G cI cZ h a F nq no np sh nw H.size j y (nw + (nI i12)) (by omega) (by omega)) (cwV 3 hts gX0_halfHoursUntilFree_X0_isFreeAt rfl rfl rfl (by decide +kernel) ⟨(Nat.le_of_ble_eq_true rfl), (Nat.le_of_ble_eq_true rfl)⟩) ⟨wPre_blind, va_recv hK hP (ci := 0) (q0 := 0) rfl rfl, w_pre hK hP hD⟩ rfl rfl hl.1 rfl (lv_room (Nat.le_of_ble_eq_true rfl)) dX0_halfHoursUntilFree_27 ⟨(Nat.le_of_ble_eq_true rfl), (Nat.le_of_ble_eq_true rfl)⟩) hD hS hA (fun r27 u27 H locs hw27 hP hD hS => ?_)
        have hP : va_P G vwCl (Dk cI cZ h a F nq no np sh nw) H := hP
        have hD : va_D A (Dk cI cZ h a F nq no np sh nw) := hD
        have hw27 : r27 = b2i (decide (p_ag F sh no j y (nw + (nI i12)) = 0)) := hw27
        subst hw27
        refine lv_if_eq (tgt := 35) hx hb dX0_halfHoursUntilFree_30 (by decide) (fun c30 => ?_) (fun c30 => ?_)
        · have c30 := b2i_0.mp c30
          refine lv_iinc (v := nI i12 + 1) (lv' := [(3, .int (nI i12 + 1)), (0, .ref h), (1, .int (nI j)), (2, .int y)]) hx hb dX0_halfHoursUntilFree_35 hl (k := 3) rfl rfl (by decide) rfl (fun ls hl => ?_)
          refine lv_goto (tgt := 12) hx hb dX0_halfHoursUntilFree_38 (by decide) ?_
          exact ih12 (i12 + 1) (by omega) (by omega) (by rw [hv]; exact ff_f hlt_i12 c30) (nI i12 + 1) (by first | exact nI_1 _ | exact nct_t (by assumption) | exact nct_f (by assumption) | exact nct_b | rfl) _ _ hP hD hS _ (lv_sub hl [1, 2, 3, 0] rfl)
        · have c30 := b2i_1.mp c30
          refine lv_iload_n hx hb dX0_halfHoursUntilFree_33 rfl (lv_at hl 3 rfl) ?_
          exact w_iret () hx hb hr hlocks hK hP hD hS (Nat.le_of_ble_eq_true rfl) (Nat.le_of_ble_eq_true rfl) dX0_halfHoursUntilFree_34 (show (nI i12) = a_hu F sh nw no (nI j).toNatClampNeg y from by rw [a_hu, nI_clamp (show j < 2 ^ 31 by omega), hv]; exact (ff_t hlt_i12 c30).symm)
  exact key12 (49 + 1) 0 (by omega) (by omega) (by rfl) 0 (by first | rfl | simp [p_ct, p_sm, p_fl, p_fg, nI_0]) _ _ hP hD hS _ (lv_sub hl [1, 2, 3, 0] rfl)
end
section
section LAW
/-- a room that holds the whole run -/
def RR : Room := { frames := 12, cells := 1000000, slots := 19000000, locals := 462 }
def oA (s : State) : Nat → Prop := fun q => s.heap.size ≤ q
/-- what the walk comes to: the law has answered 0, or it is under way and has made more than the claim allows -/
def LQ (below : List Frame) (s : State) : State → Prop := fun t => (t.status = .running ∧ Ended t below (.returned (some (.int 0)))) ∨ (Within t below ∧ s.slotsUsed + 7301314 < t.slotsUsed)
section LA1
variable {p : Program} {l : Launch} {e : Env} {R : Room} {s : State} {m : MethodId} {args : Array Value} {below : List Frame} {meth : Method} {c : Code} {H : Heap} {locs : List Loc} {cells slots : Nat} {Q : State → Prop}
variable {cc : ByteArray} {pc : Nat} {ls : Array Slot} {rest st0 : List Value} {G : va_G} {A : Nat → Prop} {H0 : Heap} {aa : Array Value} {K : Nat}
theorem o_ret0 (hx : p.tables.exec = Jvm.exec) (hb : c.code = cc) (hr : meth.sig.returnType = some .boolean) (hlocks : meth.locks = false) (hS : va_S A s.heap H locs) (hdg : decode cc pc = .ok (.ireturn, 1)) : W p l e R s m args below meth c H locs cells slots (LQ below s) (F0 m pc ls [.int 0]) := by
  intro T hT X
  obtain ⟨t, st, o, h1, h2, h3, -⟩ := W.zret (Qc := fun _ _ o _ => o = .returned (some (.int 0))) (free := A) hx hb hr rfl (fun t ht hW => rfl) hS.2.2 hdg hlocks T hT X
  subst h3
  exact ⟨t, st, Or.inl ⟨h1, h2⟩⟩
theorem o_win {g : JFrame} (hs : s.slotsTrue = true) (hM : slotSum s.heap + 7301315 ≤ slotSum H) : W p l e R s m args below meth c H locs cells slots (LQ below s) g := by
  intro T hT X
  refine ⟨T.setTop g, Steps.refl _, Or.inr ⟨X.here.within g, ?_⟩⟩
  have h1 := o_book X
  have h2 : s.slotsUsed = slotSum s.heap := (State.slotsTrue_iff s).mp hs
  show s.slotsUsed + 7301314 < T.slotsUsed
  rw [h1, h2, hT]
  omega
theorem o_rd {cI cZ : ClassId} {hc : Nat} {a : Nat → Nat} {w : BW} {T q o p9 : Nat} {S : Type} {post : Int32 → S → Prop} (hM : K ≤ slotSum H) (hP : va_P G vwCl (WB cI cZ hc a w T q o p9) H) (hD : va_D A (WB cI cZ hc a w T q o p9)) (hS : va_S A H0 H locs) (hA : ∀ x : Nat, H0.size ≤ x → A x)
    (hr : va_Run p l e R s m args below meth c H locs cells slots 0 0 (F0 m pc ls st0) rest (va_Qi post (fun _ => wP G (ty2 cI cZ) (Dk cI cZ hc a w.2.2.2.1 q o p9 0 w.2.2.2.2.1) (va_A (Dk cI cZ hc a w.2.2.2.1 q o p9 0 w.2.2.2.2.1) H.size)) (va_A (Dk cI cZ hc a w.2.2.2.1 q o p9 0 w.2.2.2.2.1) H.size) aa) (va_A (Dk cI cZ hc a w.2.2.2.1 q o p9 0 w.2.2.2.2.1) H.size))
    (kk : ∀ (r : Int32) (H : Heap) (locs : List Loc), (∃ u, post r u) → va_P G vwCl (WB cI cZ hc a w T q o p9) H → va_D A (WB cI cZ hc a w T q o p9) → va_S A H0 H locs → K ≤ slotSum H → W p l e R s m args below meth c H locs cells slots Q (F0 m (pc + 3) ls (.int r :: rest))) : W p l e R s m args below meth c H locs cells slots Q (F0 m pc ls st0) :=
  o_plw (X := WBx cI cZ hc a w T q o p9) (pl := va_pl w.2.1.2.2 w.2.2.2.2.2) (wr := [OA w.2.2.1 w.1.2.1 w.2.1.1, PA w.2.2.1 w.1.2.2.1 w.2.1.2.1, SM w.1.1 w.1.2.1 w.1.2.2.1 w.1.2.2.2 (nI (T / 48)) (nI (T % 48)) q o p9]) hr hM hP hD hS hA [3, 4, 5, 6, 7, 8, 9, 10, 11, 12, 13, 14] [0, 1, 2] rfl rfl rfl (by decide) (by decide) (fun r u H locs hw hP hD hS hM => kk r H locs ⟨u, hw⟩ hP hD hS hM)
end LA1
def LCx (pg : Program) (s : State) (m : MethodId) (b : Nat) (meth : Method) (cd : Code) (G : va_G) (cI cZ : ClassId) : Prop :=
  pg.tables.exec = Jvm.exec ∧ cd.code = cL_law ∧ cd.maxLocals = 17 ∧ meth.sig.returnType = some .boolean ∧ (∀ w ∈ wsL_law, w.before #[Value.ref b] s = true) ∧ s.vm.findClass RL = some m.cls ∧ meth.locks = false ∧ va_K G vwCl (ty2 cI cZ) s
def LBx (w : BW) (qn on pn C0 S0 : Nat) : Prop := qn ≤ 6 ∧ on ≤ 10 ∧ pn ≤ 20 ∧ CI w.2.2.2.1 pn ∧ C0 ≤ 1000000 ∧ S0 ≤ 19000000
def LK (pg : Program) (l : Launch) (e : Env) (s : State) (m : MethodId) (b : Nat) (below : List Frame) (meth : Method) (cd : Code) (G : va_G) (WW : va_W) (K C0 S0 pc : Nat) (loc : List (Nat × Value)) (st : List Value) : Prop :=
  ∀ (H : Heap) (locs : List Loc) (ls : Array Slot) (cells slots : Nat), cells ≤ C0 → slots ≤ S0 → va_P G vwCl WW H → va_D (oA s) WW → va_S (oA s) s.heap H locs → K ≤ slotSum H → lv_has ls 17 loc → W pg l e RR s m #[Value.ref b] below meth cd H locs cells slots (LQ below s) (F0 m pc ls st)
end LAW
end
section
section CHK
set_option maxHeartbeats 16000000 in
set_option maxRecDepth 100000 in
theorem lb_652 (pg : Program) (l : Launch) (e : Env) (s : State) (m : MethodId) (b : Nat) (below : List Frame) (meth : Method) (cd : Code) (G : va_G) (cI cZ : ClassId) (hc : Nat) (a : Nat → Nat) (w : BW) (T qn on pn K C0 S0 : Nat) (t : Nat) (hC : LCx pg s m b meth cd G cI cZ) (hB : LBx w qn on pn C0 S0) (h679 : LK pg l e s m b below meth cd G (WB cI cZ hc a w T qn on pn) K C0 S0 679 [(0, .ref b), (1, .ref hc), (2, .ref w.1.1), (3, .int (nI t))] []) : ∀ (x7 x8 x9 x10 : Int32), LK pg l e s m b below meth cd G (WB cI cZ hc a w T qn on pn) K C0 S0 652 [(0, .ref b), (1, .ref hc), (2, .ref w.1.1), (3, .int (nI t)), (7, .int x7), (8, .int x8), (9, .int x9), (10, .int x10)] [] := by
  have hC0 := hC
  have hB0 := hB
  obtain ⟨hx, hb, hml, hr, hts, hown, hlocks, hK⟩ := hC
  obtain ⟨hqn, hon, hpn, hF, hC1, hS1⟩ := hB
  have hA : ∀ q : Nat, s.heap.size ≤ q → oA s q := fun _ h => h
  intro x7 x8 x9 x10
  intro H locs ls cells slots hc9 hs9 hP hD hS hM hl
  refine lv_iload hx hb dL_law_652 (lv_at hl 4 rfl) ?_
  refine lv_aload_n hx hb dL_law_654 rfl (lv_at hl 1 rfl) ?_
  refine o_rd hM hP hD hS hA (va_runV (As := []) (rest := [.int x7]) ⟨hx, hb, hml, hown, hts⟩ (c_X0_ordersOn l G cI cZ hc a w.2.2.2.1 qn on pn 0 w.2.2.2.2.1 H.size hon) (cwV 0 hts gL_law_X0_ordersOn rfl rfl rfl (by decide +kernel) ⟨(Nat.le_of_ble_eq_true rfl), (Nat.le_of_ble_eq_true rfl)⟩) ⟨wPre_blind, va_recv hK hP (ci := 0) (q0 := 3) rfl rfl, w_preP hK hP hD [3, 4, 5, 6, 7, 8, 9, 10, 11, 12, 13, 14] (by decide) rfl rfl⟩ rfl rfl hl.1 rfl (lv_room (Nat.le_of_ble_eq_true rfl)) dL_law_655 ⟨Nat.le_trans hc9 hC1, Nat.le_trans hs9 hS1⟩) (fun r655 H locs hw hP hD hS hM => ?_)
  clear hw
  refine lv_icmp_ne (tgt := 677) hx hb dL_law_658 (by decide) (fun c658 => ?_) (fun c658 => ?_)
  · refine lv_iconst (v := 0) hx hb dL_law_677 (by decide) ?_
    exact o_ret0 hx hb hr hlocks hS dL_law_678
  · refine lv_iload hx hb dL_law_661 (lv_at hl 6 rfl) ?_
    refine lv_iload hx hb dL_law_663 (lv_at hl 5 rfl) ?_
    refine lv_icmp_ne (tgt := 677) hx hb dL_law_665 (by decide) (fun c665 => ?_) (fun c665 => ?_)
    · refine lv_iconst (v := 0) hx hb dL_law_677 (by decide) ?_
      exact o_ret0 hx hb hr hlocks hS dL_law_678
    · refine lv_iload hx hb dL_law_668 (lv_at hl 7 rfl) ?_
      refine lv_aload_n hx hb dL_law_670 rfl (lv_at hl 1 rfl) ?_
      refine o_rd hM hP hD hS hA (va_runV (As := []) (rest := [.int x10]) ⟨hx, hb, hml, hown, hts⟩ (c_X0_allOwe l G cI cZ hc a w.2.2.2.1 qn on pn 0 w.2.2.2.2.1 H.size hpn) (cwV 0 hts gL_law_X0_allOwe rfl rfl rfl (by decide +kernel) ⟨(Nat.le_of_ble_eq_true rfl), (Nat.le_of_ble_eq_true rfl)⟩) ⟨wPre_blind, va_recv hK hP (ci := 0) (q0 := 3) rfl rfl, w_preP hK hP hD [3, 4, 5, 6, 7, 8, 9, 10, 11, 12, 13, 14] (by decide) rfl rfl⟩ rfl rfl hl.1 rfl (lv_room (Nat.le_of_ble_eq_true rfl)) dL_law_671 ⟨Nat.le_trans hc9 hC1, Nat.le_trans hs9 hS1⟩) (fun r671 H locs hw hP hD hS hM => ?_)
      clear hw
      refine lv_icmp_eq (tgt := 679) hx hb dL_law_674 (by decide) (fun c674 => ?_) (fun c674 => ?_)
      · exact h679  _ _ _ _ _ hc9 hs9 hP hD hS hM (lv_sub hl [0, 1, 2, 3] rfl)
      · refine lv_iconst (v := 0) hx hb dL_law_677 (by decide) ?_
        exact o_ret0 hx hb hr hlocks hS dL_law_678
set_option maxHeartbeats 16000000 in
set_option maxRecDepth 100000 in
theorem lb_530 (pg : Program) (l : Launch) (e : Env) (s : State) (m : MethodId) (b : Nat) (below : List Frame) (meth : Method) (cd : Code) (G : va_G) (cI cZ : ClassId) (hc : Nat) (a : Nat → Nat) (w : BW) (T qn on pn K C0 S0 : Nat) (t : Nat)  (i11 : Nat) (hlt_i11 : i11 < pn)(hC : LCx pg s m b meth cd G cI cZ) (hB : LBx w qn on pn C0 S0) (h646 : ∀ (x7 x8 x9 x10 : Int32), LK pg l e s m b below meth cd G (WB cI cZ hc a w T qn on pn) K C0 S0 646 [(0, .ref b), (1, .ref hc), (2, .ref w.1.1), (3, .int (nI t)), (7, .int x7), (8, .int x8), (9, .int x9), (10, .int x10), (11, .int (nI i11))] []) : ∀ (n i14 : Nat), i14 ≤ qn → qn < i14 + n → ∀ (x7 x8 x9 x10 x13 : Int32), LK pg l e s m b below meth cd G (WB cI cZ hc a w T qn on pn) K C0 S0 530 [(0, .ref b), (1, .ref hc), (2, .ref w.1.1), (3, .int (nI t)), (7, .int x7), (8, .int x8), (9, .int x9), (10, .int x10), (11, .int (nI i11)), (13, .int x13), (14, .int (nI i14))] [] := by
  have hC0 := hC
  have hB0 := hB
  obtain ⟨hx, hb, hml, hr, hts, hown, hlocks, hK⟩ := hC
  obtain ⟨hqn, hon, hpn, hF, hC1, hS1⟩ := hB
  have hA : ∀ q : Nat, s.heap.size ≤ q → oA s q := fun _ h => h
  intro n
  induction n with
  | zero => intro i14 h1 h2; exact absurd h2 (by omega)
  | succ n ih =>
    intro i14 hi_i14 hn_i14
    intro x7 x8 x9 x10 x13
    intro H locs ls cells slots hc9 hs9 hP hD hS hM hl
    refine lv_iload hx hb dL_law_530 (lv_at hl 10 rfl) ?_
    refine lv_aload_n hx hb dL_law_532 rfl (lv_at hl 1 rfl) ?_
    refine o_rd hM hP hD hS hA (va_runV (As := []) (rest := [.int (nI i14)]) ⟨hx, hb, hml, hown, hts⟩ (c_X0_quarters l G cI cZ hc a w.2.2.2.1 qn on pn 0 w.2.2.2.2.1 H.size ) (cwV 0 hts gL_law_X0_quarters rfl rfl rfl (by decide +kernel) ⟨(Nat.le_of_ble_eq_true rfl), (Nat.le_of_ble_eq_true rfl)⟩) ⟨wPre_blind, va_recv hK hP (ci := 0) (q0 := 3) rfl rfl, w_preP hK hP hD [3, 4, 5, 6, 7, 8, 9, 10, 11, 12, 13, 14] (by decide) rfl rfl⟩ rfl rfl hl.1 rfl (lv_room (Nat.le_of_ble_eq_true rfl)) dL_law_533 ⟨Nat.le_trans hc9 hC1, Nat.le_trans hs9 hS1⟩) (fun r533 H locs hw hP hD hS hM => ?_)
    obtain ⟨-, hw⟩ := hw
    subst hw
    refine lv_icmp_ge (tgt := 646) hx hb dL_law_536 (by decide) (fun c536 => ?_) (fun c536 => ?_)
    · have h9 : qn ≤ i14 := (nI_leI (by omega) (by omega)).mp c536
      exact h646 x7 x8 x9 x10 _ _ _ _ _ hc9 hs9 hP hD hS hM (lv_sub hl [0, 1, 2, 3, 4, 5, 6, 7, 8] rfl)
    · have hlt_i14 : i14 < qn := o_ge c536 (by omega) (by omega)
      refine lv_aload_n hx hb dL_law_539 rfl (lv_at hl 1 rfl) ?_
      refine lv_iload hx hb dL_law_540 (lv_at hl 8 rfl) ?_
      refine lv_iload hx hb dL_law_542 (lv_at hl 10 rfl) ?_
      refine o_rd hM hP hD hS hA (va_runV (As := [.int (nI i11), .int (nI i14)]) (rest := []) ⟨hx, hb, hml, hown, hts⟩ (c_X0_ordersAgainst l G cI cZ hc a w.2.2.2.1 qn on pn 0 w.2.2.2.2.1 H.size (nI i11) (nI i14) hqn hon hpn (pin_nI hlt_i11 (by omega)) (pin_nI hlt_i14 (by omega))) (cwV 2 hts gL_law_X0_ordersAgainst rfl rfl rfl (by decide +kernel) ⟨(Nat.le_of_ble_eq_true rfl), (Nat.le_of_ble_eq_true rfl)⟩) ⟨wPre_blind, va_recv hK hP (ci := 0) (q0 := 3) rfl rfl, w_preP hK hP hD [3, 4, 5, 6, 7, 8, 9, 10, 11, 12, 13, 14] (by decide) rfl rfl⟩ rfl rfl hl.1 rfl (lv_room (Nat.le_of_ble_eq_true rfl)) dL_law_544 ⟨Nat.le_trans hc9 hC1, Nat.le_trans hs9 hS1⟩) (fun r544 H locs hw hP hD hS hM => ?_)
      clear hw
      refine lv_istore (lv' := [(15, .int r544), (0, .ref b), (1, .ref hc), (2, .ref w.1.1), (3, .int (nI t)), (7, .int x7), (8, .int x8), (9, .int x9), (10, .int x10), (11, .int (nI i11)), (13, .int x13), (14, .int (nI i14))]) hx hb dL_law_547 hl (by decide) rfl (fun ls hl => ?_)
      refine lv_aload_n hx hb dL_law_549 rfl (lv_at hl 2 rfl) ?_
      refine lv_iload hx hb dL_law_550 (lv_at hl 9 rfl) ?_
      refine lv_iload hx hb dL_law_552 (lv_at hl 11 rfl) ?_
      refine o_rd hM hP hD hS hA (va_runV (As := [.int (nI i11), .int (nI i14)]) (rest := []) ⟨hx, hb, hml, hown, hts⟩ (c_X0_stampsMissing l G cI cZ hc a w.2.2.2.1 qn on pn 0 w.2.2.2.2.1 H.size (nI i11) (nI i14) hqn hon hpn (pin_nI hlt_i11 (by omega)) (pin_nI hlt_i14 (by omega))) (cwV 2 hts gL_law_X0_stampsMissing rfl rfl rfl (by decide +kernel) ⟨(Nat.le_of_ble_eq_true rfl), (Nat.le_of_ble_eq_true rfl)⟩) ⟨wPre_blind, va_recv hK hP (ci := 0) (q0 := 3) rfl rfl, w_preP hK hP hD [3, 4, 5, 6, 7, 8, 9, 10, 11, 12, 13, 14] (by decide) rfl rfl⟩ rfl rfl hl.1 rfl (lv_room (Nat.le_of_ble_eq_true rfl)) dL_law_554 ⟨Nat.le_trans hc9 hC1, Nat.le_trans hs9 hS1⟩) (fun r554 H locs hw hP hD hS hM => ?_)
      clear hw
      refine lv_istore (lv' := [(16, .int r554), (15, .int r544), (0, .ref b), (1, .ref hc), (2, .ref w.1.1), (3, .int (nI t)), (7, .int x7), (8, .int x8), (9, .int x9), (10, .int x10), (11, .int (nI i11)), (13, .int x13), (14, .int (nI i14))]) hx hb dL_law_557 hl (by decide) rfl (fun ls hl => ?_)
      refine lv_iload hx hb dL_law_559 (lv_at hl 8 rfl) ?_
      refine lv_iload hx hb dL_law_561 (lv_at hl 1 rfl) ?_
      refine lv_iadd hx hb dL_law_563 ?_
      refine lv_istore (lv' := [(9, .int (x9 + r544)), (16, .int r554), (15, .int r544), (0, .ref b), (1, .ref hc), (2, .ref w.1.1), (3, .int (nI t)), (7, .int x7), (8, .int x8), (10, .int x10), (11, .int (nI i11)), (13, .int x13), (14, .int (nI i14))]) hx hb dL_law_564 hl (by decide) rfl (fun ls hl => ?_)
      refine lv_iload hx hb dL_law_566 (lv_at hl 1 rfl) ?_
      refine lv_if_lt (tgt := 638) hx hb dL_law_568 (by decide) (fun c568 => ?_) (fun c568 => ?_)
      · refine lv_iconst (v := 0) hx hb dL_law_638 (by decide) ?_
        exact o_ret0 hx hb hr hlocks hS dL_law_639
      · refine lv_iload hx hb dL_law_571 (lv_at hl 1 rfl) ?_
        refine lv_iload hx hb dL_law_573 (lv_at hl 2 rfl) ?_
        refine lv_icmp_gt (tgt := 638) hx hb dL_law_575 (by decide) (fun c575 => ?_) (fun c575 => ?_)
        · refine lv_iconst (v := 0) hx hb dL_law_638 (by decide) ?_
          exact o_ret0 hx hb hr hlocks hS dL_law_639
        · refine lv_iload hx hb dL_law_578 (lv_at hl 1 rfl) ?_
          refine lv_iload hx hb dL_law_580 (lv_at hl 2 rfl) ?_
          refine lv_iload hx hb dL_law_582 (lv_at hl 11 rfl) ?_
          refine lv_isub hx hb dL_law_584 ?_
          refine lv_icmp_lt (tgt := 638) hx hb dL_law_585 (by decide) (fun c585 => ?_) (fun c585 => ?_)
          · refine lv_iconst (v := 0) hx hb dL_law_638 (by decide) ?_
            exact o_ret0 hx hb hr hlocks hS dL_law_639
          · refine lv_aload_n hx hb dL_law_588 rfl (lv_at hl 4 rfl) ?_
            refine lv_iload hx hb dL_law_589 (lv_at hl 10 rfl) ?_
            refine lv_iload hx hb dL_law_591 (lv_at hl 12 rfl) ?_
            refine o_rd hM hP hD hS hA (va_runV (As := [.int (nI i11), .int (nI i14)]) (rest := []) ⟨hx, hb, hml, hown, hts⟩ (c_X0_mayGo l G cI cZ hc a w.2.2.2.1 qn on pn 0 w.2.2.2.2.1 H.size (nI i11) (nI i14) hqn hon hpn (pin_nI hlt_i11 (by omega)) (pin_nI hlt_i14 (by omega))) (cwV 2 hts gL_law_X0_mayGo rfl rfl rfl (by decide +kernel) ⟨(Nat.le_of_ble_eq_true rfl), (Nat.le_of_ble_eq_true rfl)⟩) ⟨wPre_blind, va_recv hK hP (ci := 0) (q0 := 3) rfl rfl, w_preP hK hP hD [3, 4, 5, 6, 7, 8, 9, 10, 11, 12, 13, 14] (by decide) rfl rfl⟩ rfl rfl hl.1 rfl (lv_room (Nat.le_of_ble_eq_true rfl)) dL_law_593 ⟨Nat.le_trans hc9 hC1, Nat.le_trans hs9 hS1⟩) (fun r593 H locs hw hP hD hS hM => ?_)
            clear hw
            refine lv_iload hx hb dL_law_596 (lv_at hl 1 rfl) ?_
            refine w_selN (v1 := 1) (v2 := 0) hx hb dL_law_598 (by decide) dL_law_601 (by decide) dL_law_602 (by decide) dL_law_605 (by decide) ?_
            generalize hv598 : (if r554 = 0 then (1 : Int32) else 0 : Int32) = v598
            clear hv598
            refine lv_icmp_ne (tgt := 638) hx hb dL_law_606 (by decide) (fun c606 => ?_) (fun c606 => ?_)
            · refine lv_iconst (v := 0) hx hb dL_law_638 (by decide) ?_
              exact o_ret0 hx hb hr hlocks hS dL_law_639
            · refine lv_iload hx hb dL_law_609 (lv_at hl 2 rfl) ?_
              refine w_selN (v1 := 1) (v2 := 0) hx hb dL_law_611 (by decide) dL_law_614 (by decide) dL_law_615 (by decide) dL_law_618 (by decide) ?_
              generalize hv611 : (if r544 = 0 then (1 : Int32) else 0 : Int32) = v611
              clear hv611
              refine lv_aload_n hx hb dL_law_619 rfl (lv_at hl 4 rfl) ?_
              refine lv_iload hx hb dL_law_620 (lv_at hl 10 rfl) ?_
              refine lv_iload hx hb dL_law_622 (lv_at hl 12 rfl) ?_
              refine o_rd hM hP hD hS hA (va_runV (As := [.int (nI i11), .int (nI i14)]) (rest := [.int v611]) ⟨hx, hb, hml, hown, hts⟩ (c_X0_halfHoursUntilFree l G cI cZ hc a w.2.2.2.1 qn on pn 0 w.2.2.2.2.1 H.size (nI i11) (nI i14) hqn hon hpn (pin_nI hlt_i11 (by omega)) (pin_nI hlt_i14 (by omega))) (cwV 2 hts gL_law_X0_halfHoursUntilFree rfl rfl rfl (by decide +kernel) ⟨(Nat.le_of_ble_eq_true rfl), (Nat.le_of_ble_eq_true rfl)⟩) ⟨wPre_blind, va_recv hK hP (ci := 0) (q0 := 3) rfl rfl, w_preP hK hP hD [3, 4, 5, 6, 7, 8, 9, 10, 11, 12, 13, 14] (by decide) rfl rfl⟩ rfl rfl hl.1 rfl (lv_room (Nat.le_of_ble_eq_true rfl)) dL_law_624 ⟨Nat.le_trans hc9 hC1, Nat.le_trans hs9 hS1⟩) (fun r624 H locs hw hP hD hS hM => ?_)
              clear hw
              refine w_selN (v1 := 1) (v2 := 0) hx hb dL_law_627 (by decide) dL_law_630 (by decide) dL_law_631 (by decide) dL_law_634 (by decide) ?_
              generalize hv627 : (if r624 = 0 then (1 : Int32) else 0 : Int32) = v627
              clear hv627
              refine lv_icmp_eq (tgt := 640) hx hb dL_law_635 (by decide) (fun c635 => ?_) (fun c635 => ?_)
              · refine lv_iinc (v := nI i14 + 1) (lv' := [(14, .int (nI i14 + 1)), (9, .int (x9 + r544)), (16, .int r554), (15, .int r544), (0, .ref b), (1, .ref hc), (2, .ref w.1.1), (3, .int (nI t)), (7, .int x7), (8, .int x8), (10, .int x10), (11, .int (nI i11)), (13, .int x13)]) hx hb dL_law_640 hl (k := 12) rfl rfl (by decide) rfl (fun ls hl => ?_)
                rw [nI_1] at hl
                refine lv_goto (tgt := 530) hx hb dL_law_643 (by decide) ?_
                exact ih (i14 + 1) (by omega) (by omega) x7 x8 (x9 + r544) x10 x13 _ _ _ _ _ hc9 hs9 hP hD hS hM (lv_sub hl [4, 5, 6, 7, 8, 9, 1, 10, 11, 12, 0] rfl)
              · refine lv_iconst (v := 0) hx hb dL_law_638 (by decide) ?_
                exact o_ret0 hx hb hr hlocks hS dL_law_639
set_option maxHeartbeats 16000000 in
set_option maxRecDepth 100000 in
theorem lb_484 (pg : Program) (l : Launch) (e : Env) (s : State) (m : MethodId) (b : Nat) (below : List Frame) (meth : Method) (cd : Code) (G : va_G) (cI cZ : ClassId) (hc : Nat) (a : Nat → Nat) (w : BW) (T qn on pn K C0 S0 : Nat) (t : Nat)  (i11 : Nat) (hlt_i11 : i11 < pn)(hC : LCx pg s m b meth cd G cI cZ) (hB : LBx w qn on pn C0 S0) (h527 : ∀ (x7 x8 x9 x10 x13 : Int32), LK pg l e s m b below meth cd G (WB cI cZ hc a w T qn on pn) K C0 S0 527 [(0, .ref b), (1, .ref hc), (2, .ref w.1.1), (3, .int (nI t)), (7, .int x7), (8, .int x8), (9, .int x9), (10, .int x10), (11, .int (nI i11)), (13, .int x13)] []) : ∀ (n i14 : Nat), i14 ≤ 4 → 4 < i14 + n → ∀ (x7 x8 x9 x10 x13 : Int32), LK pg l e s m b below meth cd G (WB cI cZ hc a w T qn on pn) K C0 S0 484 [(0, .ref b), (1, .ref hc), (2, .ref w.1.1), (3, .int (nI t)), (7, .int x7), (8, .int x8), (9, .int x9), (10, .int x10), (11, .int (nI i11)), (13, .int x13), (14, .int (nI i14))] [] := by
  have hC0 := hC
  have hB0 := hB
  obtain ⟨hx, hb, hml, hr, hts, hown, hlocks, hK⟩ := hC
  obtain ⟨hqn, hon, hpn, hF, hC1, hS1⟩ := hB
  have hA : ∀ q : Nat, s.heap.size ≤ q → oA s q := fun _ h => h
  intro n
  induction n with
  | zero => intro i14 h1 h2; exact absurd h2 (by omega)
  | succ n ih =>
    intro i14 hi_i14 hn_i14
    intro x7 x8 x9 x10 x13
    intro H locs ls cells slots hc9 hs9 hP hD hS hM hl
    refine lv_iload hx hb dL_law_484 (lv_at hl 10 rfl) ?_
    refine lv_iconst (v := nI 4) hx hb dL_law_486 (by decide) ?_
    refine lv_icmp_ge (tgt := 527) hx hb dL_law_487 (by decide) (fun c487 => ?_) (fun c487 => ?_)
    · have h9 : 4 ≤ i14 := (nI_leI (by omega) (by omega)).mp c487
      exact h527 x7 x8 x9 x10 x13 _ _ _ _ _ hc9 hs9 hP hD hS hM (lv_sub hl [0, 1, 2, 3, 4, 5, 6, 7, 8, 9] rfl)
    · have hlt_i14 : i14 < 4 := o_ge c487 (by omega) (by omega)
      refine lv_aload_n hx hb dL_law_490 rfl (lv_at hl 1 rfl) ?_
      refine lv_iload hx hb dL_law_491 (lv_at hl 8 rfl) ?_
      refine lv_iload hx hb dL_law_493 (lv_at hl 10 rfl) ?_
      refine o_rd hM hP hD hS hA (va_runV (As := [.int (nI i11), .int (nI i14)]) (rest := []) ⟨hx, hb, hml, hown, hts⟩ (c_X0_stampsOf l G cI cZ hc a w.2.2.2.1 qn on pn 0 w.2.2.2.2.1 H.size (nI i11) (nI i14) hpn (pin_nI hlt_i11 (by omega)) (pin_nI hlt_i14 (by omega))) (cwV 2 hts gL_law_X0_stampsOf rfl rfl rfl (by decide +kernel) ⟨(Nat.le_of_ble_eq_true rfl), (Nat.le_of_ble_eq_true rfl)⟩) ⟨wPre_blind, va_recv hK hP (ci := 0) (q0 := 3) rfl rfl, w_preP hK hP hD [3, 4, 5, 6, 7, 8, 9, 10, 11, 12, 13, 14] (by decide) rfl rfl⟩ rfl rfl hl.1 rfl (lv_room (Nat.le_of_ble_eq_true rfl)) dL_law_495 ⟨Nat.le_trans hc9 hC1, Nat.le_trans hs9 hS1⟩) (fun r495 H locs hw hP hD hS hM => ?_)
      clear hw
      refine lv_istore (lv' := [(15, .int r495), (0, .ref b), (1, .ref hc), (2, .ref w.1.1), (3, .int (nI t)), (7, .int x7), (8, .int x8), (9, .int x9), (10, .int x10), (11, .int (nI i11)), (13, .int x13), (14, .int (nI i14))]) hx hb dL_law_498 hl (by decide) rfl (fun ls hl => ?_)
      refine lv_iload hx hb dL_law_500 (lv_at hl 0 rfl) ?_
      refine lv_if_lt (tgt := 512) hx hb dL_law_502 (by decide) (fun c502 => ?_) (fun c502 => ?_)
      · refine lv_iconst (v := 0) hx hb dL_law_512 (by decide) ?_
        exact o_ret0 hx hb hr hlocks hS dL_law_513
      · refine lv_iload hx hb dL_law_505 (lv_at hl 0 rfl) ?_
        refine lv_bipush (v := 9) hx hb dL_law_507 (by decide) ?_
        refine lv_icmp_le (tgt := 514) hx hb dL_law_509 (by decide) (fun c509 => ?_) (fun c509 => ?_)
        · refine lv_iload hx hb dL_law_514 (lv_at hl 10 rfl) ?_
          refine lv_iload hx hb dL_law_516 (lv_at hl 0 rfl) ?_
          refine lv_iadd hx hb dL_law_518 ?_
          refine lv_istore (lv' := [(13, .int (x13 + r495)), (15, .int r495), (0, .ref b), (1, .ref hc), (2, .ref w.1.1), (3, .int (nI t)), (7, .int x7), (8, .int x8), (9, .int x9), (10, .int x10), (11, .int (nI i11)), (14, .int (nI i14))]) hx hb dL_law_519 hl (by decide) rfl (fun ls hl => ?_)
          refine lv_iinc (v := nI i14 + 1) (lv' := [(14, .int (nI i14 + 1)), (13, .int (x13 + r495)), (15, .int r495), (0, .ref b), (1, .ref hc), (2, .ref w.1.1), (3, .int (nI t)), (7, .int x7), (8, .int x8), (9, .int x9), (10, .int x10), (11, .int (nI i11))]) hx hb dL_law_521 hl (k := 11) rfl rfl (by decide) rfl (fun ls hl => ?_)
          rw [nI_1] at hl
          refine lv_goto (tgt := 484) hx hb dL_law_524 (by decide) ?_
          exact ih (i14 + 1) (by omega) (by omega) x7 x8 x9 x10 (x13 + r495) _ _ _ _ _ hc9 hs9 hP hD hS hM (lv_sub hl [3, 4, 5, 6, 7, 8, 9, 10, 11, 1, 0] rfl)
        · refine lv_iconst (v := 0) hx hb dL_law_512 (by decide) ?_
          exact o_ret0 hx hb hr hlocks hS dL_law_513
set_option maxHeartbeats 16000000 in
set_option maxRecDepth 100000 in
theorem lb_430 (pg : Program) (l : Launch) (e : Env) (s : State) (m : MethodId) (b : Nat) (below : List Frame) (meth : Method) (cd : Code) (G : va_G) (cI cZ : ClassId) (hc : Nat) (a : Nat → Nat) (w : BW) (T qn on pn K C0 S0 : Nat) (t : Nat) (hC : LCx pg s m b meth cd G cI cZ) (hB : LBx w qn on pn C0 S0) (h652 : ∀ (x7 x8 x9 x10 : Int32), LK pg l e s m b below meth cd G (WB cI cZ hc a w T qn on pn) K C0 S0 652 [(0, .ref b), (1, .ref hc), (2, .ref w.1.1), (3, .int (nI t)), (7, .int x7), (8, .int x8), (9, .int x9), (10, .int x10)] []) : ∀ (n i11 : Nat), i11 ≤ pn → pn < i11 + n → ∀ (x7 x8 x9 x10 : Int32), LK pg l e s m b below meth cd G (WB cI cZ hc a w T qn on pn) K C0 S0 430 [(0, .ref b), (1, .ref hc), (2, .ref w.1.1), (3, .int (nI t)), (7, .int x7), (8, .int x8), (9, .int x9), (10, .int x10), (11, .int (nI i11))] [] := by
  have hC0 := hC
  have hB0 := hB
  obtain ⟨hx, hb, hml, hr, hts, hown, hlocks, hK⟩ := hC
  obtain ⟨hqn, hon, hpn, hF, hC1, hS1⟩ := hB
  have hA : ∀ q : Nat, s.heap.size ≤ q → oA s q := fun _ h => h
  intro n
  induction n with
  | zero => intro i11 h1 h2; exact absurd h2 (by omega)
  | succ n ih =>
    intro i11 hi_i11 hn_i11
    have h646 : i11 < pn → ∀ (x7 x8 x9 x10 : Int32), LK pg l e s m b below meth cd G (WB cI cZ hc a w T qn on pn) K C0 S0 646 [(0, .ref b), (1, .ref hc), (2, .ref w.1.1), (3, .int (nI t)), (7, .int x7), (8, .int x8), (9, .int x9), (10, .int x10), (11, .int (nI i11))] [] := by
      intro hlt_i11
      intro x7 x8 x9 x10
      intro H locs ls cells slots hc9 hs9 hP hD hS hM hl
      refine lv_iinc (v := nI i11 + 1) (lv' := [(11, .int (nI i11 + 1)), (0, .ref b), (1, .ref hc), (2, .ref w.1.1), (3, .int (nI t)), (7, .int x7), (8, .int x8), (9, .int x9), (10, .int x10)]) hx hb dL_law_646 hl (k := 8) rfl rfl (by decide) rfl (fun ls hl => ?_)
      rw [nI_1] at hl
      refine lv_goto (tgt := 430) hx hb dL_law_649 (by decide) ?_
      exact ih (i11 + 1) (by omega) (by omega) x7 x8 x9 x10 _ _ _ _ _ hc9 hs9 hP hD hS hM (lv_sub hl [1, 2, 3, 4, 5, 6, 7, 8, 0] rfl)
    have h527 : i11 < pn → ∀ (x7 x8 x9 x10 x13 : Int32), LK pg l e s m b below meth cd G (WB cI cZ hc a w T qn on pn) K C0 S0 527 [(0, .ref b), (1, .ref hc), (2, .ref w.1.1), (3, .int (nI t)), (7, .int x7), (8, .int x8), (9, .int x9), (10, .int x10), (11, .int (nI i11)), (13, .int x13)] [] := by
      intro hlt_i11
      intro x7 x8 x9 x10 x13
      intro H locs ls cells slots hc9 hs9 hP hD hS hM hl
      refine lv_iconst (v := 0) hx hb dL_law_527 (by decide) ?_
      refine lv_istore (lv' := [(14, .int 0), (0, .ref b), (1, .ref hc), (2, .ref w.1.1), (3, .int (nI t)), (7, .int x7), (8, .int x8), (9, .int x9), (10, .int x10), (11, .int (nI i11)), (13, .int x13)]) hx hb dL_law_528 hl (by decide) rfl (fun ls hl => ?_)
      exact (fun x7 x8 x9 x10 x13 => lb_530 pg l e s m b below meth cd G cI cZ hc a w T qn on pn K C0 S0 t i11 hlt_i11 hC0 hB0 (h646 hlt_i11) (qn + 1) 0 (by omega) (by omega) x7 x8 x9 x10 x13) x7 x8 x9 x10 x13 _ _ _ _ _ hc9 hs9 hP hD hS hM (lv_sub hl [1, 2, 3, 4, 5, 6, 7, 8, 9, 10, 0] rfl)
    intro x7 x8 x9 x10
    intro H locs ls cells slots hc9 hs9 hP hD hS hM hl
    refine lv_iload hx hb dL_law_430 (lv_at hl 8 rfl) ?_
    refine lv_aload_n hx hb dL_law_432 rfl (lv_at hl 1 rfl) ?_
    refine o_rd hM hP hD hS hA (va_runV (As := []) (rest := [.int (nI i11)]) ⟨hx, hb, hml, hown, hts⟩ (c_X0_people l G cI cZ hc a w.2.2.2.1 qn on pn 0 w.2.2.2.2.1 H.size ) (cwV 0 hts gL_law_X0_people rfl rfl rfl (by decide +kernel) ⟨(Nat.le_of_ble_eq_true rfl), (Nat.le_of_ble_eq_true rfl)⟩) ⟨wPre_blind, va_recv hK hP (ci := 0) (q0 := 3) rfl rfl, w_preP hK hP hD [3, 4, 5, 6, 7, 8, 9, 10, 11, 12, 13, 14] (by decide) rfl rfl⟩ rfl rfl hl.1 rfl (lv_room (Nat.le_of_ble_eq_true rfl)) dL_law_433 ⟨Nat.le_trans hc9 hC1, Nat.le_trans hs9 hS1⟩) (fun r433 H locs hw hP hD hS hM => ?_)
    obtain ⟨-, hw⟩ := hw
    subst hw
    refine lv_icmp_ge (tgt := 652) hx hb dL_law_436 (by decide) (fun c436 => ?_) (fun c436 => ?_)
    · have h9 : pn ≤ i11 := (nI_leI (by omega) (by omega)).mp c436
      exact h652 x7 x8 x9 x10 _ _ _ _ _ hc9 hs9 hP hD hS hM (lv_sub hl [0, 1, 2, 3, 4, 5, 6, 7] rfl)
    · have hlt_i11 : i11 < pn := o_ge c436 (by omega) (by omega)
      refine lv_aload_n hx hb dL_law_439 rfl (lv_at hl 1 rfl) ?_
      refine lv_iload hx hb dL_law_440 (lv_at hl 8 rfl) ?_
      refine o_rd hM hP hD hS hA (va_runV (As := [.int (nI i11)]) (rest := []) ⟨hx, hb, hml, hown, hts⟩ (c_X0_timesFined l G cI cZ hc a w.2.2.2.1 qn on pn 0 w.2.2.2.2.1 H.size (nI i11) hpn (pin_nI hlt_i11 (by omega))) (cwV 1 hts gL_law_X0_timesFined rfl rfl rfl (by decide +kernel) ⟨(Nat.le_of_ble_eq_true rfl), (Nat.le_of_ble_eq_true rfl)⟩) ⟨wPre_blind, va_recv hK hP (ci := 0) (q0 := 3) rfl rfl, w_preP hK hP hD [3, 4, 5, 6, 7, 8, 9, 10, 11, 12, 13, 14] (by decide) rfl rfl⟩ rfl rfl hl.1 rfl (lv_room (Nat.le_of_ble_eq_true rfl)) dL_law_442 ⟨Nat.le_trans hc9 hC1, Nat.le_trans hs9 hS1⟩) (fun r442 H locs hw hP hD hS hM => ?_)
      clear hw
      refine lv_istore (lv' := [(12, .int r442), (0, .ref b), (1, .ref hc), (2, .ref w.1.1), (3, .int (nI t)), (7, .int x7), (8, .int x8), (9, .int x9), (10, .int x10), (11, .int (nI i11))]) hx hb dL_law_445 hl (by decide) rfl (fun ls hl => ?_)
      refine lv_aload_n hx hb dL_law_447 rfl (lv_at hl 2 rfl) ?_
      refine lv_iload hx hb dL_law_448 (lv_at hl 9 rfl) ?_
      refine o_rd hM hP hD hS hA (va_runV (As := [.int (nI i11)]) (rest := []) ⟨hx, hb, hml, hown, hts⟩ (c_X0_owes l G cI cZ hc a w.2.2.2.1 qn on pn 0 w.2.2.2.2.1 H.size (nI i11) hpn (pin_nI hlt_i11 (by omega))) (cwV 1 hts gL_law_X0_owes rfl rfl rfl (by decide +kernel) ⟨(Nat.le_of_ble_eq_true rfl), (Nat.le_of_ble_eq_true rfl)⟩) ⟨wPre_blind, va_recv hK hP (ci := 0) (q0 := 3) rfl rfl, w_preP hK hP hD [3, 4, 5, 6, 7, 8, 9, 10, 11, 12, 13, 14] (by decide) rfl rfl⟩ rfl rfl hl.1 rfl (lv_room (Nat.le_of_ble_eq_true rfl)) dL_law_450 ⟨Nat.le_trans hc9 hC1, Nat.le_trans hs9 hS1⟩) (fun r450 H locs hw hP hD hS hM => ?_)
      clear hw
      refine lv_iconst (v := 5) hx hb dL_law_453 (by decide) ?_
      refine lv_iload hx hb dL_law_454 (lv_at hl 0 rfl) ?_
      refine lv_imul hx hb dL_law_456 ?_
      refine lv_iload hx hb dL_law_457 (lv_at hl 0 rfl) ?_
      refine lv_iconst (v := 1) hx hb dL_law_459 (by decide) ?_
      refine lv_iadd hx hb dL_law_460 ?_
      refine lv_imul hx hb dL_law_461 ?_
      refine lv_icmp_eq (tgt := 467) hx hb dL_law_462 (by decide) (fun c462 => ?_) (fun c462 => ?_)
      · refine lv_iload hx hb dL_law_467 (lv_at hl 8 rfl) ?_
        refine lv_aload_n hx hb dL_law_469 rfl (lv_at hl 2 rfl) ?_
        refine lv_iload hx hb dL_law_470 (lv_at hl 9 rfl) ?_
        refine o_rd hM hP hD hS hA (va_runV (As := [.int (nI i11)]) (rest := [.int x10]) ⟨hx, hb, hml, hown, hts⟩ (c_X0_owes l G cI cZ hc a w.2.2.2.1 qn on pn 0 w.2.2.2.2.1 H.size (nI i11) hpn (pin_nI hlt_i11 (by omega))) (cwV 1 hts gL_law_X0_owes rfl rfl rfl (by decide +kernel) ⟨(Nat.le_of_ble_eq_true rfl), (Nat.le_of_ble_eq_true rfl)⟩) ⟨wPre_blind, va_recv hK hP (ci := 0) (q0 := 3) rfl rfl, w_preP hK hP hD [3, 4, 5, 6, 7, 8, 9, 10, 11, 12, 13, 14] (by decide) rfl rfl⟩ rfl rfl hl.1 rfl (lv_room (Nat.le_of_ble_eq_true rfl)) dL_law_472 ⟨Nat.le_trans hc9 hC1, Nat.le_trans hs9 hS1⟩) (fun r472 H locs hw hP hD hS hM => ?_)
        clear hw
        refine lv_iadd hx hb dL_law_475 ?_
        refine lv_istore (lv' := [(10, .int (x10 + r472)), (12, .int r442), (0, .ref b), (1, .ref hc), (2, .ref w.1.1), (3, .int (nI t)), (7, .int x7), (8, .int x8), (9, .int x9), (11, .int (nI i11))]) hx hb dL_law_476 hl (by decide) rfl (fun ls hl => ?_)
        refine lv_iconst (v := 0) hx hb dL_law_478 (by decide) ?_
        refine lv_istore (lv' := [(13, .int 0), (10, .int (x10 + r472)), (12, .int r442), (0, .ref b), (1, .ref hc), (2, .ref w.1.1), (3, .int (nI t)), (7, .int x7), (8, .int x8), (9, .int x9), (11, .int (nI i11))]) hx hb dL_law_479 hl (by decide) rfl (fun ls hl => ?_)
        refine lv_iconst (v := 0) hx hb dL_law_481 (by decide) ?_
        refine lv_istore (lv' := [(14, .int 0), (13, .int 0), (10, .int (x10 + r472)), (12, .int r442), (0, .ref b), (1, .ref hc), (2, .ref w.1.1), (3, .int (nI t)), (7, .int x7), (8, .int x8), (9, .int x9), (11, .int (nI i11))]) hx hb dL_law_482 hl (by decide) rfl (fun ls hl => ?_)
        exact (fun x7 x8 x9 x10 x13 => lb_484 pg l e s m b below meth cd G cI cZ hc a w T qn on pn K C0 S0 t i11 hlt_i11 hC0 hB0 (h527 hlt_i11) 5 0 (by omega) (by omega) x7 x8 x9 x10 x13) x7 x8 x9 (x10 + r472) 0 _ _ _ _ _ hc9 hs9 hP hD hS hM (lv_sub hl [4, 5, 6, 7, 8, 9, 10, 2, 11, 1, 0] rfl)
      · refine lv_iconst (v := 0) hx hb dL_law_465 (by decide) ?_
        exact o_ret0 hx hb hr hlocks hS dL_law_466
set_option maxHeartbeats 16000000 in
set_option maxRecDepth 100000 in
theorem lb_337 (pg : Program) (l : Launch) (e : Env) (s : State) (m : MethodId) (b : Nat) (below : List Frame) (meth : Method) (cd : Code) (G : va_G) (cI cZ : ClassId) (hc : Nat) (a : Nat → Nat) (w : BW) (T qn on pn K C0 S0 : Nat) (t : Nat)  (i9 : Nat) (hlt_i9 : i9 < on)(hC : LCx pg s m b meth cd G cI cZ) (hB : LBx w qn on pn C0 S0) (h377 : ∀ (x5 x7 x8 x10 x13 : Int32), LK pg l e s m b below meth cd G (WB cI cZ hc a w T qn on pn) K C0 S0 377 [(0, .ref b), (1, .ref hc), (2, .ref w.1.1), (3, .int (nI t)), (5, .int x5), (7, .int x7), (8, .int x8), (9, .int (nI i9)), (10, .int x10), (13, .int x13)] []) : ∀ (n i14 : Nat), i14 ≤ pn → pn < i14 + n → ∀ (x5 x7 x8 x10 x13 : Int32), LK pg l e s m b below meth cd G (WB cI cZ hc a w T qn on pn) K C0 S0 337 [(0, .ref b), (1, .ref hc), (2, .ref w.1.1), (3, .int (nI t)), (5, .int x5), (7, .int x7), (8, .int x8), (9, .int (nI i9)), (10, .int x10), (13, .int x13), (14, .int (nI i14))] [] := by
  have hC0 := hC
  have hB0 := hB
  obtain ⟨hx, hb, hml, hr, hts, hown, hlocks, hK⟩ := hC
  obtain ⟨hqn, hon, hpn, hF, hC1, hS1⟩ := hB
  have hA : ∀ q : Nat, s.heap.size ≤ q → oA s q := fun _ h => h
  intro n
  induction n with
  | zero => intro i14 h1 h2; exact absurd h2 (by omega)
  | succ n ih =>
    intro i14 hi_i14 hn_i14
    intro x5 x7 x8 x10 x13
    intro H locs ls cells slots hc9 hs9 hP hD hS hM hl
    refine lv_iload hx hb dL_law_337 (lv_at hl 10 rfl) ?_
    refine lv_aload_n hx hb dL_law_339 rfl (lv_at hl 1 rfl) ?_
    refine o_rd hM hP hD hS hA (va_runV (As := []) (rest := [.int (nI i14)]) ⟨hx, hb, hml, hown, hts⟩ (c_X0_people l G cI cZ hc a w.2.2.2.1 qn on pn 0 w.2.2.2.2.1 H.size ) (cwV 0 hts gL_law_X0_people rfl rfl rfl (by decide +kernel) ⟨(Nat.le_of_ble_eq_true rfl), (Nat.le_of_ble_eq_true rfl)⟩) ⟨wPre_blind, va_recv hK hP (ci := 0) (q0 := 3) rfl rfl, w_preP hK hP hD [3, 4, 5, 6, 7, 8, 9, 10, 11, 12, 13, 14] (by decide) rfl rfl⟩ rfl rfl hl.1 rfl (lv_room (Nat.le_of_ble_eq_true rfl)) dL_law_340 ⟨Nat.le_trans hc9 hC1, Nat.le_trans hs9 hS1⟩) (fun r340 H locs hw hP hD hS hM => ?_)
    obtain ⟨-, hw⟩ := hw
    subst hw
    refine lv_icmp_ge (tgt := 377) hx hb dL_law_343 (by decide) (fun c343 => ?_) (fun c343 => ?_)
    · have h9 : pn ≤ i14 := (nI_leI (by omega) (by omega)).mp c343
      exact h377 x5 x7 x8 x10 x13 _ _ _ _ _ hc9 hs9 hP hD hS hM (lv_sub hl [0, 1, 2, 3, 4, 5, 6, 7, 8, 9] rfl)
    · have hlt_i14 : i14 < pn := o_ge c343 (by omega) (by omega)
      refine lv_iload hx hb dL_law_346 (lv_at hl 9 rfl) ?_
      refine lv_aload_n hx hb dL_law_348 rfl (lv_at hl 1 rfl) ?_
      refine lv_iload hx hb dL_law_349 (lv_at hl 7 rfl) ?_
      refine lv_aload_n hx hb dL_law_351 rfl (lv_at hl 1 rfl) ?_
      refine lv_iload hx hb dL_law_352 (lv_at hl 10 rfl) ?_
      refine o_rd hM hP hD hS hA (va_runV (As := [.int (nI i14)]) (rest := [.int (nI i9), .ref hc, .int x13]) ⟨hx, hb, hml, hown, hts⟩ (c_X0_tradeOf l G cI cZ hc a w.2.2.2.1 qn on pn 0 w.2.2.2.2.1 H.size (nI i14) hpn (pin_nI hlt_i14 (by omega))) (cwV 1 hts gL_law_X0_tradeOf rfl rfl rfl (by decide +kernel) ⟨(Nat.le_of_ble_eq_true rfl), (Nat.le_of_ble_eq_true rfl)⟩) ⟨wPre_blind, va_recv hK hP (ci := 0) (q0 := 3) rfl rfl, w_preP hK hP hD [3, 4, 5, 6, 7, 8, 9, 10, 11, 12, 13, 14] (by decide) rfl rfl⟩ rfl rfl hl.1 rfl (lv_room (Nat.le_of_ble_eq_true rfl)) dL_law_354 ⟨Nat.le_trans hc9 hC1, Nat.le_trans hs9 hS1⟩) (fun r354 H locs hw hP hD hS hM => ?_)
      obtain ⟨-, hw⟩ := hw
      have hp8 : p_in r354 8 = true := by rw [hw, nI_clamp (by omega)]; exact hF.1 _ hlt_i14
      clear hw
      refine o_rd hM hP hD hS hA (va_runV (As := [.int (nI i9), .int r354]) (rest := [.int x13]) ⟨hx, hb, hml, hown, hts⟩ (c_X0_isExempt l G cI cZ hc a w.2.2.2.1 qn on pn 0 w.2.2.2.2.1 H.size (nI i9) (r354) hon (pin_nI hlt_i9 (by omega)) hp8) (cwV 2 hts gL_law_X0_isExempt rfl rfl rfl (by decide +kernel) ⟨(Nat.le_of_ble_eq_true rfl), (Nat.le_of_ble_eq_true rfl)⟩) ⟨wPre_blind, va_recv hK hP (ci := 0) (q0 := 3) rfl rfl, w_preP hK hP hD [3, 4, 5, 6, 7, 8, 9, 10, 11, 12, 13, 14] (by decide) rfl rfl⟩ rfl rfl hl.1 rfl (lv_room (Nat.le_of_ble_eq_true rfl)) dL_law_357 ⟨Nat.le_trans hc9 hC1, Nat.le_trans hs9 hS1⟩) (fun r357 H locs hw hP hD hS hM => ?_)
      clear hw
      refine w_selE (v1 := 1) (v2 := 0) hx hb dL_law_360 (by decide) dL_law_363 (by decide) dL_law_364 (by decide) dL_law_367 (by decide) ?_
      generalize hv360 : (if r357 = 0 then (0 : Int32) else 1 : Int32) = v360
      clear hv360
      refine lv_iadd hx hb dL_law_368 ?_
      refine lv_istore (lv' := [(13, .int (x13 + v360)), (0, .ref b), (1, .ref hc), (2, .ref w.1.1), (3, .int (nI t)), (5, .int x5), (7, .int x7), (8, .int x8), (9, .int (nI i9)), (10, .int x10), (14, .int (nI i14))]) hx hb dL_law_369 hl (by decide) rfl (fun ls hl => ?_)
      refine lv_iinc (v := nI i14 + 1) (lv' := [(14, .int (nI i14 + 1)), (13, .int (x13 + v360)), (0, .ref b), (1, .ref hc), (2, .ref w.1.1), (3, .int (nI t)), (5, .int x5), (7, .int x7), (8, .int x8), (9, .int (nI i9)), (10, .int x10)]) hx hb dL_law_371 hl (k := 10) rfl rfl (by decide) rfl (fun ls hl => ?_)
      rw [nI_1] at hl
      refine lv_goto (tgt := 337) hx hb dL_law_374 (by decide) ?_
      exact ih (i14 + 1) (by omega) (by omega) x5 x7 x8 x10 (x13 + v360) _ _ _ _ _ hc9 hs9 hP hD hS hM (lv_sub hl [2, 3, 4, 5, 6, 7, 8, 9, 10, 1, 0] rfl)
set_option maxHeartbeats 16000000 in
set_option maxRecDepth 100000 in
theorem lb_175 (pg : Program) (l : Launch) (e : Env) (s : State) (m : MethodId) (b : Nat) (below : List Frame) (meth : Method) (cd : Code) (G : va_G) (cI cZ : ClassId) (hc : Nat) (a : Nat → Nat) (w : BW) (T qn on pn K C0 S0 : Nat) (t : Nat) (hC : LCx pg s m b meth cd G cI cZ) (hB : LBx w qn on pn C0 S0) (h421 : ∀ (x7 x8 : Int32), LK pg l e s m b below meth cd G (WB cI cZ hc a w T qn on pn) K C0 S0 421 [(0, .ref b), (1, .ref hc), (2, .ref w.1.1), (3, .int (nI t)), (7, .int x7), (8, .int x8)] []) : ∀ (n i9 : Nat), i9 ≤ on → on < i9 + n → ∀ (x5 x7 x8 : Int32), LK pg l e s m b below meth cd G (WB cI cZ hc a w T qn on pn) K C0 S0 175 [(0, .ref b), (1, .ref hc), (2, .ref w.1.1), (3, .int (nI t)), (5, .int x5), (7, .int x7), (8, .int x8), (9, .int (nI i9))] [] := by
  have hC0 := hC
  have hB0 := hB
  obtain ⟨hx, hb, hml, hr, hts, hown, hlocks, hK⟩ := hC
  obtain ⟨hqn, hon, hpn, hF, hC1, hS1⟩ := hB
  have hA : ∀ q : Nat, s.heap.size ≤ q → oA s q := fun _ h => h
  intro n
  induction n with
  | zero => intro i9 h1 h2; exact absurd h2 (by omega)
  | succ n ih =>
    intro i9 hi_i9 hn_i9
    have h399 : i9 < on → ∀ (v0 v1 x5 x7 x8 x10 : Int32), LK pg l e s m b below meth cd G (WB cI cZ hc a w T qn on pn) K C0 S0 399 [(0, .ref b), (1, .ref hc), (2, .ref w.1.1), (3, .int (nI t)), (5, .int x5), (7, .int x7), (8, .int x8), (9, .int (nI i9)), (10, .int x10)] [.int v0, .int v1] := by
      intro hlt_i9
      intro v0 v1 x5 x7 x8 x10
      intro H locs ls cells slots hc9 hs9 hP hD hS hM hl
      refine lv_icmp_eq (tgt := 404) hx hb dL_law_399 (by decide) (fun c399 => ?_) (fun c399 => ?_)
      · refine lv_iload hx hb dL_law_404 (lv_at hl 6 rfl) ?_
        refine lv_aload_n hx hb dL_law_406 rfl (lv_at hl 1 rfl) ?_
        refine lv_iload hx hb dL_law_407 (lv_at hl 7 rfl) ?_
        refine o_rd hM hP hD hS hA (va_runV (As := [.int (nI i9)]) (rest := [.int x8]) ⟨hx, hb, hml, hown, hts⟩ (c_X0_barredBy l G cI cZ hc a w.2.2.2.1 qn on pn 0 w.2.2.2.2.1 H.size (nI i9) hon hpn (pin_nI hlt_i9 (by omega))) (cwV 1 hts gL_law_X0_barredBy rfl rfl rfl (by decide +kernel) ⟨(Nat.le_of_ble_eq_true rfl), (Nat.le_of_ble_eq_true rfl)⟩) ⟨wPre_blind, va_recv hK hP (ci := 0) (q0 := 3) rfl rfl, w_preP hK hP hD [3, 4, 5, 6, 7, 8, 9, 10, 11, 12, 13, 14] (by decide) rfl rfl⟩ rfl rfl hl.1 rfl (lv_room (Nat.le_of_ble_eq_true rfl)) dL_law_409 ⟨Nat.le_trans hc9 hC1, Nat.le_trans hs9 hS1⟩) (fun r409 H locs hw hP hD hS hM => ?_)
        clear hw
        refine lv_iadd hx hb dL_law_412 ?_
        refine lv_istore (lv' := [(8, .int (x8 + r409)), (0, .ref b), (1, .ref hc), (2, .ref w.1.1), (3, .int (nI t)), (5, .int x5), (7, .int x7), (9, .int (nI i9)), (10, .int x10)]) hx hb dL_law_413 hl (by decide) rfl (fun ls hl => ?_)
        refine lv_iinc (v := nI i9 + 1) (lv' := [(9, .int (nI i9 + 1)), (8, .int (x8 + r409)), (0, .ref b), (1, .ref hc), (2, .ref w.1.1), (3, .int (nI t)), (5, .int x5), (7, .int x7), (10, .int x10)]) hx hb dL_law_415 hl (k := 7) rfl rfl (by decide) rfl (fun ls hl => ?_)
        rw [nI_1] at hl
        refine lv_goto (tgt := 175) hx hb dL_law_418 (by decide) ?_
        exact ih (i9 + 1) (by omega) (by omega) x5 x7 (x8 + r409) _ _ _ _ _ hc9 hs9 hP hD hS hM (lv_sub hl [2, 3, 4, 5, 6, 7, 1, 0] rfl)
      · refine lv_iconst (v := 0) hx hb dL_law_402 (by decide) ?_
        exact o_ret0 hx hb hr hlocks hS dL_law_403
    have h377 : i9 < on → ∀ (x5 x7 x8 x10 x13 : Int32), LK pg l e s m b below meth cd G (WB cI cZ hc a w T qn on pn) K C0 S0 377 [(0, .ref b), (1, .ref hc), (2, .ref w.1.1), (3, .int (nI t)), (5, .int x5), (7, .int x7), (8, .int x8), (9, .int (nI i9)), (10, .int x10), (13, .int x13)] [] := by
      intro hlt_i9
      intro x5 x7 x8 x10 x13
      intro H locs ls cells slots hc9 hs9 hP hD hS hM hl
      refine lv_aload_n hx hb dL_law_377 rfl (lv_at hl 1 rfl) ?_
      refine lv_iload hx hb dL_law_378 (lv_at hl 7 rfl) ?_
      refine o_rd hM hP hD hS hA (va_runV (As := [.int (nI i9)]) (rest := []) ⟨hx, hb, hml, hown, hts⟩ (c_X0_barredBy l G cI cZ hc a w.2.2.2.1 qn on pn 0 w.2.2.2.2.1 H.size (nI i9) hon hpn (pin_nI hlt_i9 (by omega))) (cwV 1 hts gL_law_X0_barredBy rfl rfl rfl (by decide +kernel) ⟨(Nat.le_of_ble_eq_true rfl), (Nat.le_of_ble_eq_true rfl)⟩) ⟨wPre_blind, va_recv hK hP (ci := 0) (q0 := 3) rfl rfl, w_preP hK hP hD [3, 4, 5, 6, 7, 8, 9, 10, 11, 12, 13, 14] (by decide) rfl rfl⟩ rfl rfl hl.1 rfl (lv_room (Nat.le_of_ble_eq_true rfl)) dL_law_380 ⟨Nat.le_trans hc9 hC1, Nat.le_trans hs9 hS1⟩) (fun r380 H locs hw hP hD hS hM => ?_)
      clear hw
      refine lv_iload hx hb dL_law_383 (lv_at hl 8 rfl) ?_
      refine lv_if_eq (tgt := 398) hx hb dL_law_385 (by decide) (fun c385 => ?_) (fun c385 => ?_)
      · refine lv_iconst (v := 0) hx hb dL_law_398 (by decide) ?_
        exact h399 hlt_i9 0 r380 x5 x7 x8 x10 _ _ _ _ _ hc9 hs9 hP hD hS hM (lv_sub hl [0, 1, 2, 3, 4, 5, 6, 7, 8] rfl)
      · refine lv_aload_n hx hb dL_law_388 rfl (lv_at hl 1 rfl) ?_
        refine o_rd hM hP hD hS hA (va_runV (As := []) (rest := [.int r380]) ⟨hx, hb, hml, hown, hts⟩ (c_X0_people l G cI cZ hc a w.2.2.2.1 qn on pn 0 w.2.2.2.2.1 H.size ) (cwV 0 hts gL_law_X0_people rfl rfl rfl (by decide +kernel) ⟨(Nat.le_of_ble_eq_true rfl), (Nat.le_of_ble_eq_true rfl)⟩) ⟨wPre_blind, va_recv hK hP (ci := 0) (q0 := 3) rfl rfl, w_preP hK hP hD [3, 4, 5, 6, 7, 8, 9, 10, 11, 12, 13, 14] (by decide) rfl rfl⟩ rfl rfl hl.1 rfl (lv_room (Nat.le_of_ble_eq_true rfl)) dL_law_389 ⟨Nat.le_trans hc9 hC1, Nat.le_trans hs9 hS1⟩) (fun r389 H locs hw hP hD hS hM => ?_)
        obtain ⟨-, hw⟩ := hw
        subst hw
        refine lv_iload hx hb dL_law_392 (lv_at hl 9 rfl) ?_
        refine lv_isub hx hb dL_law_394 ?_
        refine lv_goto (tgt := 399) hx hb dL_law_395 (by decide) ?_
        exact h399 hlt_i9 ((nI pn) - x13) r380 x5 x7 x8 x10 _ _ _ _ _ hc9 hs9 hP hD hS hM (lv_sub hl [0, 1, 2, 3, 4, 5, 6, 7, 8] rfl)
    have h331 : i9 < on → ∀ (x5 x7 x8 x10 : Int32), LK pg l e s m b below meth cd G (WB cI cZ hc a w T qn on pn) K C0 S0 331 [(0, .ref b), (1, .ref hc), (2, .ref w.1.1), (3, .int (nI t)), (5, .int x5), (7, .int x7), (8, .int x8), (9, .int (nI i9)), (10, .int x10)] [] := by
      intro hlt_i9
      intro x5 x7 x8 x10
      intro H locs ls cells slots hc9 hs9 hP hD hS hM hl
      refine lv_iconst (v := 0) hx hb dL_law_331 (by decide) ?_
      refine lv_istore (lv' := [(13, .int 0), (0, .ref b), (1, .ref hc), (2, .ref w.1.1), (3, .int (nI t)), (5, .int x5), (7, .int x7), (8, .int x8), (9, .int (nI i9)), (10, .int x10)]) hx hb dL_law_332 hl (by decide) rfl (fun ls hl => ?_)
      refine lv_iconst (v := 0) hx hb dL_law_334 (by decide) ?_
      refine lv_istore (lv' := [(14, .int 0), (13, .int 0), (0, .ref b), (1, .ref hc), (2, .ref w.1.1), (3, .int (nI t)), (5, .int x5), (7, .int x7), (8, .int x8), (9, .int (nI i9)), (10, .int x10)]) hx hb dL_law_335 hl (by decide) rfl (fun ls hl => ?_)
      exact (fun x5 x7 x8 x10 x13 => lb_337 pg l e s m b below meth cd G cI cZ hc a w T qn on pn K C0 S0 t i9 hlt_i9 hC0 hB0 (h377 hlt_i9) (pn + 1) 0 (by omega) (by omega) x5 x7 x8 x10 x13) x5 x7 x8 x10 0 _ _ _ _ _ hc9 hs9 hP hD hS hM (lv_sub hl [2, 3, 4, 5, 6, 7, 8, 9, 10, 1, 0] rfl)
    have h308 : i9 < on → ∀ (x5 x7 x8 x10 : Int32), LK pg l e s m b below meth cd G (WB cI cZ hc a w T qn on pn) K C0 S0 308 [(0, .ref b), (1, .ref hc), (2, .ref w.1.1), (3, .int (nI t)), (5, .int x5), (7, .int x7), (8, .int x8), (9, .int (nI i9)), (10, .int x10)] [] := by
      intro hlt_i9
      intro x5 x7 x8 x10
      intro H locs ls cells slots hc9 hs9 hP hD hS hM hl
      refine lv_aload_n hx hb dL_law_308 rfl (lv_at hl 1 rfl) ?_
      refine lv_iload hx hb dL_law_309 (lv_at hl 7 rfl) ?_
      refine o_rd hM hP hD hS hA (va_runV (As := [.int (nI i9)]) (rest := []) ⟨hx, hb, hml, hown, hts⟩ (c_X0_halfHoursOn l G cI cZ hc a w.2.2.2.1 qn on pn 0 w.2.2.2.2.1 H.size (nI i9) hon (pin_nI hlt_i9 (by omega))) (cwV 1 hts gL_law_X0_halfHoursOn rfl rfl rfl (by decide +kernel) ⟨(Nat.le_of_ble_eq_true rfl), (Nat.le_of_ble_eq_true rfl)⟩) ⟨wPre_blind, va_recv hK hP (ci := 0) (q0 := 3) rfl rfl, w_preP hK hP hD [3, 4, 5, 6, 7, 8, 9, 10, 11, 12, 13, 14] (by decide) rfl rfl⟩ rfl rfl hl.1 rfl (lv_room (Nat.le_of_ble_eq_true rfl)) dL_law_311 ⟨Nat.le_trans hc9 hC1, Nat.le_trans hs9 hS1⟩) (fun r311 H locs hw hP hD hS hM => ?_)
      clear hw
      refine lv_iconst (v := 1) hx hb dL_law_314 (by decide) ?_
      refine lv_icmp_lt (tgt := 329) hx hb dL_law_315 (by decide) (fun c315 => ?_) (fun c315 => ?_)
      · refine lv_iconst (v := 0) hx hb dL_law_329 (by decide) ?_
        exact o_ret0 hx hb hr hlocks hS dL_law_330
      · refine lv_aload_n hx hb dL_law_318 rfl (lv_at hl 1 rfl) ?_
        refine lv_iload hx hb dL_law_319 (lv_at hl 7 rfl) ?_
        refine o_rd hM hP hD hS hA (va_runV (As := [.int (nI i9)]) (rest := []) ⟨hx, hb, hml, hown, hts⟩ (c_X0_halfHoursOn l G cI cZ hc a w.2.2.2.1 qn on pn 0 w.2.2.2.2.1 H.size (nI i9) hon (pin_nI hlt_i9 (by omega))) (cwV 1 hts gL_law_X0_halfHoursOn rfl rfl rfl (by decide +kernel) ⟨(Nat.le_of_ble_eq_true rfl), (Nat.le_of_ble_eq_true rfl)⟩) ⟨wPre_blind, va_recv hK hP (ci := 0) (q0 := 3) rfl rfl, w_preP hK hP hD [3, 4, 5, 6, 7, 8, 9, 10, 11, 12, 13, 14] (by decide) rfl rfl⟩ rfl rfl hl.1 rfl (lv_room (Nat.le_of_ble_eq_true rfl)) dL_law_321 ⟨Nat.le_trans hc9 hC1, Nat.le_trans hs9 hS1⟩) (fun r321 H locs hw hP hD hS hM => ?_)
        clear hw
        refine lv_bipush (v := 48) hx hb dL_law_324 (by decide) ?_
        refine lv_icmp_le (tgt := 331) hx hb dL_law_326 (by decide) (fun c326 => ?_) (fun c326 => ?_)
        · exact h331 hlt_i9 x5 x7 x8 x10 _ _ _ _ _ hc9 hs9 hP hD hS hM (lv_sub hl [0, 1, 2, 3, 4, 5, 6, 7, 8] rfl)
        · refine lv_iconst (v := 0) hx hb dL_law_329 (by decide) ?_
          exact o_ret0 hx hb hr hlocks hS dL_law_330
    have h298 : i9 < on → ∀ (x5 x7 x8 x10 x12 : Int32), LK pg l e s m b below meth cd G (WB cI cZ hc a w T qn on pn) K C0 S0 298 [(0, .ref b), (1, .ref hc), (2, .ref w.1.1), (3, .int (nI t)), (5, .int x5), (7, .int x7), (8, .int x8), (9, .int (nI i9)), (10, .int x10), (12, .int x12)] [] := by
      intro hlt_i9
      intro x5 x7 x8 x10 x12
      intro H locs ls cells slots hc9 hs9 hP hD hS hM hl
      refine lv_iload hx hb dL_law_298 (lv_at hl 9 rfl) ?_
      refine lv_if_eq (tgt := 308) hx hb dL_law_300 (by decide) (fun c300 => ?_) (fun c300 => ?_)
      · exact h308 hlt_i9 x5 x7 x8 x10 _ _ _ _ _ hc9 hs9 hP hD hS hM (lv_sub hl [0, 1, 2, 3, 4, 5, 6, 7, 8] rfl)
      · refine lv_iload hx hb dL_law_303 (lv_at hl 8 rfl) ?_
        refine lv_if_ne (tgt := 329) hx hb dL_law_305 (by decide) (fun c305 => ?_) (fun c305 => ?_)
        · refine lv_iconst (v := 0) hx hb dL_law_329 (by decide) ?_
          exact o_ret0 hx hb hr hlocks hS dL_law_330
        · exact h308 hlt_i9 x5 x7 x8 x10 _ _ _ _ _ hc9 hs9 hP hD hS hM (lv_sub hl [0, 1, 2, 3, 4, 5, 6, 7, 8] rfl)
    have h279 : i9 < on → ∀ (x5 x7 x8 x10 x11 x12 : Int32), LK pg l e s m b below meth cd G (WB cI cZ hc a w T qn on pn) K C0 S0 279 [(0, .ref b), (1, .ref hc), (2, .ref w.1.1), (3, .int (nI t)), (5, .int x5), (7, .int x7), (8, .int x8), (9, .int (nI i9)), (10, .int x10), (11, .int x11), (12, .int x12)] [] := by
      intro hlt_i9
      intro x5 x7 x8 x10 x11 x12
      intro H locs ls cells slots hc9 hs9 hP hD hS hM hl
      refine lv_iload hx hb dL_law_279 (lv_at hl 9 rfl) ?_
      refine lv_if_eq (tgt := 298) hx hb dL_law_281 (by decide) (fun c281 => ?_) (fun c281 => ?_)
      · exact h298 hlt_i9 x5 x7 x8 x10 x12 _ _ _ _ _ hc9 hs9 hP hD hS hM (lv_sub hl [0, 1, 2, 3, 4, 5, 6, 7, 8, 10] rfl)
      · refine lv_aload_n hx hb dL_law_284 rfl (lv_at hl 1 rfl) ?_
        refine lv_iload hx hb dL_law_285 (lv_at hl 7 rfl) ?_
        refine o_rd hM hP hD hS hA (va_runV (As := [.int (nI i9)]) (rest := []) ⟨hx, hb, hml, hown, hts⟩ (c_X0_isInForce l G cI cZ hc a w.2.2.2.1 qn on pn 0 w.2.2.2.2.1 H.size (nI i9) hon hF.2 (pin_nI hlt_i9 (by omega))) (cwV 1 hts gL_law_X0_isInForce rfl rfl rfl (by decide +kernel) ⟨(Nat.le_of_ble_eq_true rfl), (Nat.le_of_ble_eq_true rfl)⟩) ⟨wPre_blind, va_recv hK hP (ci := 0) (q0 := 3) rfl rfl, w_preP hK hP hD [3, 4, 5, 6, 7, 8, 9, 10, 11, 12, 13, 14] (by decide) rfl rfl⟩ rfl rfl hl.1 rfl (lv_room (Nat.le_of_ble_eq_true rfl)) dL_law_287 ⟨Nat.le_trans hc9 hC1, Nat.le_trans hs9 hS1⟩) (fun r287 H locs hw hP hD hS hM => ?_)
        clear hw
        refine lv_if_eq (tgt := 298) hx hb dL_law_290 (by decide) (fun c290 => ?_) (fun c290 => ?_)
        · exact h298 hlt_i9 x5 x7 x8 x10 x12 _ _ _ _ _ hc9 hs9 hP hD hS hM (lv_sub hl [0, 1, 2, 3, 4, 5, 6, 7, 8, 10] rfl)
        · refine lv_iload hx hb dL_law_293 (lv_at hl 8 rfl) ?_
          refine lv_if_eq (tgt := 329) hx hb dL_law_295 (by decide) (fun c295 => ?_) (fun c295 => ?_)
          · refine lv_iconst (v := 0) hx hb dL_law_329 (by decide) ?_
            exact o_ret0 hx hb hr hlocks hS dL_law_330
          · exact h298 hlt_i9 x5 x7 x8 x10 x12 _ _ _ _ _ hc9 hs9 hP hD hS hM (lv_sub hl [0, 1, 2, 3, 4, 5, 6, 7, 8, 10] rfl)
    have h263 : i9 < on → ∀ (v0 x5 x7 x8 x10 x11 : Int32), LK pg l e s m b below meth cd G (WB cI cZ hc a w T qn on pn) K C0 S0 263 [(0, .ref b), (1, .ref hc), (2, .ref w.1.1), (3, .int (nI t)), (5, .int x5), (7, .int x7), (8, .int x8), (9, .int (nI i9)), (10, .int x10), (11, .int x11)] [.int v0] := by
      intro hlt_i9
      intro v0 x5 x7 x8 x10 x11
      intro H locs ls cells slots hc9 hs9 hP hD hS hM hl
      refine lv_istore (lv' := [(12, .int v0), (0, .ref b), (1, .ref hc), (2, .ref w.1.1), (3, .int (nI t)), (5, .int x5), (7, .int x7), (8, .int x8), (9, .int (nI i9)), (10, .int x10), (11, .int x11)]) hx hb dL_law_263 hl (by decide) rfl (fun ls hl => ?_)
      refine lv_iload hx hb dL_law_265 (lv_at hl 9 rfl) ?_
      refine lv_if_eq (tgt := 279) hx hb dL_law_267 (by decide) (fun c267 => ?_) (fun c267 => ?_)
      · exact h279 hlt_i9 x5 x7 x8 x10 x11 v0 _ _ _ _ _ hc9 hs9 hP hD hS hM (lv_sub hl [1, 2, 3, 4, 5, 6, 7, 8, 9, 10, 0] rfl)
      · refine lv_aload_n hx hb dL_law_270 rfl (lv_at hl 2 rfl) ?_
        refine lv_iload hx hb dL_law_271 (lv_at hl 8 rfl) ?_
        refine o_rd hM hP hD hS hA (va_runV (As := [.int (nI i9)]) (rest := []) ⟨hx, hb, hml, hown, hts⟩ (c_X0_isInForce l G cI cZ hc a w.2.2.2.1 qn on pn 0 w.2.2.2.2.1 H.size (nI i9) hon hF.2 (pin_nI hlt_i9 (by omega))) (cwV 1 hts gL_law_X0_isInForce rfl rfl rfl (by decide +kernel) ⟨(Nat.le_of_ble_eq_true rfl), (Nat.le_of_ble_eq_true rfl)⟩) ⟨wPre_blind, va_recv hK hP (ci := 0) (q0 := 3) rfl rfl, w_preP hK hP hD [3, 4, 5, 6, 7, 8, 9, 10, 11, 12, 13, 14] (by decide) rfl rfl⟩ rfl rfl hl.1 rfl (lv_room (Nat.le_of_ble_eq_true rfl)) dL_law_273 ⟨Nat.le_trans hc9 hC1, Nat.le_trans hs9 hS1⟩) (fun r273 H locs hw hP hD hS hM => ?_)
        clear hw
        refine lv_if_eq (tgt := 329) hx hb dL_law_276 (by decide) (fun c276 => ?_) (fun c276 => ?_)
        · refine lv_iconst (v := 0) hx hb dL_law_329 (by decide) ?_
          exact o_ret0 hx hb hr hlocks hS dL_law_330
        · exact h279 hlt_i9 x5 x7 x8 x10 x11 v0 _ _ _ _ _ hc9 hs9 hP hD hS hM (lv_sub hl [1, 2, 3, 4, 5, 6, 7, 8, 9, 10, 0] rfl)
    have h232 : i9 < on → ∀ (v0 x5 x7 x8 x10 : Int32), LK pg l e s m b below meth cd G (WB cI cZ hc a w T qn on pn) K C0 S0 232 [(0, .ref b), (1, .ref hc), (2, .ref w.1.1), (3, .int (nI t)), (5, .int x5), (7, .int x7), (8, .int x8), (9, .int (nI i9)), (10, .int x10)] [.int v0] := by
      intro hlt_i9
      intro v0 x5 x7 x8 x10
      intro H locs ls cells slots hc9 hs9 hP hD hS hM hl
      refine lv_istore (lv' := [(11, .int v0), (0, .ref b), (1, .ref hc), (2, .ref w.1.1), (3, .int (nI t)), (5, .int x5), (7, .int x7), (8, .int x8), (9, .int (nI i9)), (10, .int x10)]) hx hb dL_law_232 hl (by decide) rfl (fun ls hl => ?_)
      refine lv_iload hx hb dL_law_234 (lv_at hl 5 rfl) ?_
      refine lv_aload_n hx hb dL_law_236 rfl (lv_at hl 2 rfl) ?_
      refine lv_iconst (v := 0) hx hb dL_law_237 (by decide) ?_
      refine o_rd hM hP hD hS hA (va_runV (As := [.int 0]) (rest := [.int x5]) ⟨hx, hb, hml, hown, hts⟩ (c_X0_dawnIn l G cI cZ hc a w.2.2.2.1 qn on pn 0 w.2.2.2.2.1 H.size 0 (by decide)) (cwV 1 hts gL_law_X0_dawnIn rfl rfl rfl (by decide +kernel) ⟨(Nat.le_of_ble_eq_true rfl), (Nat.le_of_ble_eq_true rfl)⟩) ⟨wPre_blind, va_recv hK hP (ci := 0) (q0 := 3) rfl rfl, w_preP hK hP hD [3, 4, 5, 6, 7, 8, 9, 10, 11, 12, 13, 14] (by decide) rfl rfl⟩ rfl rfl hl.1 rfl (lv_room (Nat.le_of_ble_eq_true rfl)) dL_law_238 ⟨Nat.le_trans hc9 hC1, Nat.le_trans hs9 hS1⟩) (fun r238 H locs hw hP hD hS hM => ?_)
      clear hw
      refine lv_iconst (v := 4) hx hb dL_law_241 (by decide) ?_
      refine lv_iadd hx hb dL_law_242 ?_
      refine lv_icmp_lt (tgt := 262) hx hb dL_law_243 (by decide) (fun c243 => ?_) (fun c243 => ?_)
      · refine lv_iconst (v := 0) hx hb dL_law_262 (by decide) ?_
        exact h263 hlt_i9 0 x5 x7 x8 x10 v0 _ _ _ _ _ hc9 hs9 hP hD hS hM (lv_sub hl [1, 2, 3, 4, 5, 6, 7, 8, 9, 0] rfl)
      · refine lv_iload hx hb dL_law_246 (lv_at hl 5 rfl) ?_
        refine lv_aload_n hx hb dL_law_248 rfl (lv_at hl 2 rfl) ?_
        refine lv_iconst (v := 0) hx hb dL_law_249 (by decide) ?_
        refine o_rd hM hP hD hS hA (va_runV (As := [.int 0]) (rest := [.int x5]) ⟨hx, hb, hml, hown, hts⟩ (c_X0_duskIn l G cI cZ hc a w.2.2.2.1 qn on pn 0 w.2.2.2.2.1 H.size 0 (by decide)) (cwV 1 hts gL_law_X0_duskIn rfl rfl rfl (by decide +kernel) ⟨(Nat.le_of_ble_eq_true rfl), (Nat.le_of_ble_eq_true rfl)⟩) ⟨wPre_blind, va_recv hK hP (ci := 0) (q0 := 3) rfl rfl, w_preP hK hP hD [3, 4, 5, 6, 7, 8, 9, 10, 11, 12, 13, 14] (by decide) rfl rfl⟩ rfl rfl hl.1 rfl (lv_room (Nat.le_of_ble_eq_true rfl)) dL_law_250 ⟨Nat.le_trans hc9 hC1, Nat.le_trans hs9 hS1⟩) (fun r250 H locs hw hP hD hS hM => ?_)
        clear hw
        refine lv_iconst (v := 4) hx hb dL_law_253 (by decide) ?_
        refine lv_isub hx hb dL_law_254 ?_
        refine lv_icmp_ge (tgt := 262) hx hb dL_law_255 (by decide) (fun c255 => ?_) (fun c255 => ?_)
        · refine lv_iconst (v := 0) hx hb dL_law_262 (by decide) ?_
          exact h263 hlt_i9 0 x5 x7 x8 x10 v0 _ _ _ _ _ hc9 hs9 hP hD hS hM (lv_sub hl [1, 2, 3, 4, 5, 6, 7, 8, 9, 0] rfl)
        · refine lv_iconst (v := 1) hx hb dL_law_258 (by decide) ?_
          refine lv_goto (tgt := 263) hx hb dL_law_259 (by decide) ?_
          exact h263 hlt_i9 1 x5 x7 x8 x10 v0 _ _ _ _ _ hc9 hs9 hP hD hS hM (lv_sub hl [1, 2, 3, 4, 5, 6, 7, 8, 9, 0] rfl)
    intro x5 x7 x8
    intro H locs ls cells slots hc9 hs9 hP hD hS hM hl
    refine lv_iload hx hb dL_law_175 (lv_at hl 7 rfl) ?_
    refine lv_aload_n hx hb dL_law_177 rfl (lv_at hl 1 rfl) ?_
    refine o_rd hM hP hD hS hA (va_runV (As := []) (rest := [.int (nI i9)]) ⟨hx, hb, hml, hown, hts⟩ (c_X0_orders l G cI cZ hc a w.2.2.2.1 qn on pn 0 w.2.2.2.2.1 H.size ) (cwV 0 hts gL_law_X0_orders rfl rfl rfl (by decide +kernel) ⟨(Nat.le_of_ble_eq_true rfl), (Nat.le_of_ble_eq_true rfl)⟩) ⟨wPre_blind, va_recv hK hP (ci := 0) (q0 := 3) rfl rfl, w_preP hK hP hD [3, 4, 5, 6, 7, 8, 9, 10, 11, 12, 13, 14] (by decide) rfl rfl⟩ rfl rfl hl.1 rfl (lv_room (Nat.le_of_ble_eq_true rfl)) dL_law_178 ⟨Nat.le_trans hc9 hC1, Nat.le_trans hs9 hS1⟩) (fun r178 H locs hw hP hD hS hM => ?_)
    obtain ⟨-, hw⟩ := hw
    subst hw
    refine lv_icmp_ge (tgt := 421) hx hb dL_law_181 (by decide) (fun c181 => ?_) (fun c181 => ?_)
    · have h9 : on ≤ i9 := (nI_leI (by omega) (by omega)).mp c181
      exact h421 x7 x8 _ _ _ _ _ hc9 hs9 hP hD hS hM (lv_sub hl [0, 1, 2, 3, 5, 6] rfl)
    · have hlt_i9 : i9 < on := o_ge c181 (by omega) (by omega)
      refine lv_aload_n hx hb dL_law_184 rfl (lv_at hl 1 rfl) ?_
      refine lv_iload hx hb dL_law_185 (lv_at hl 7 rfl) ?_
      refine o_rd hM hP hD hS hA (va_runV (As := [.int (nI i9)]) (rest := []) ⟨hx, hb, hml, hown, hts⟩ (c_X0_isOn l G cI cZ hc a w.2.2.2.1 qn on pn 0 w.2.2.2.2.1 H.size (nI i9) hon (pin_nI hlt_i9 (by omega))) (cwV 1 hts gL_law_X0_isOn rfl rfl rfl (by decide +kernel) ⟨(Nat.le_of_ble_eq_true rfl), (Nat.le_of_ble_eq_true rfl)⟩) ⟨wPre_blind, va_recv hK hP (ci := 0) (q0 := 3) rfl rfl, w_preP hK hP hD [3, 4, 5, 6, 7, 8, 9, 10, 11, 12, 13, 14] (by decide) rfl rfl⟩ rfl rfl hl.1 rfl (lv_room (Nat.le_of_ble_eq_true rfl)) dL_law_187 ⟨Nat.le_trans hc9 hC1, Nat.le_trans hs9 hS1⟩) (fun r187 H locs hw hP hD hS hM => ?_)
      clear hw
      refine lv_istore (lv' := [(10, .int r187), (0, .ref b), (1, .ref hc), (2, .ref w.1.1), (3, .int (nI t)), (5, .int x5), (7, .int x7), (8, .int x8), (9, .int (nI i9))]) hx hb dL_law_190 hl (by decide) rfl (fun ls hl => ?_)
      refine lv_iload hx hb dL_law_192 (lv_at hl 6 rfl) ?_
      refine lv_iload hx hb dL_law_194 (lv_at hl 0 rfl) ?_
      refine w_selE (v1 := 1) (v2 := 0) hx hb dL_law_196 (by decide) dL_law_199 (by decide) dL_law_200 (by decide) dL_law_203 (by decide) ?_
      generalize hv196 : (if r187 = 0 then (0 : Int32) else 1 : Int32) = v196
      clear hv196
      refine lv_iadd hx hb dL_law_204 ?_
      refine lv_istore (lv' := [(7, .int (x7 + v196)), (10, .int r187), (0, .ref b), (1, .ref hc), (2, .ref w.1.1), (3, .int (nI t)), (5, .int x5), (8, .int x8), (9, .int (nI i9))]) hx hb dL_law_205 hl (by decide) rfl (fun ls hl => ?_)
      refine lv_iload hx hb dL_law_207 (lv_at hl 6 rfl) ?_
      refine lv_aload_n hx hb dL_law_209 rfl (lv_at hl 3 rfl) ?_
      refine lv_iconst (v := 0) hx hb dL_law_210 (by decide) ?_
      refine o_rd hM hP hD hS hA (va_runV (As := [.int 0]) (rest := [.int x5]) ⟨hx, hb, hml, hown, hts⟩ (c_X0_duskIn l G cI cZ hc a w.2.2.2.1 qn on pn 0 w.2.2.2.2.1 H.size 0 (by decide)) (cwV 1 hts gL_law_X0_duskIn rfl rfl rfl (by decide +kernel) ⟨(Nat.le_of_ble_eq_true rfl), (Nat.le_of_ble_eq_true rfl)⟩) ⟨wPre_blind, va_recv hK hP (ci := 0) (q0 := 3) rfl rfl, w_preP hK hP hD [3, 4, 5, 6, 7, 8, 9, 10, 11, 12, 13, 14] (by decide) rfl rfl⟩ rfl rfl hl.1 rfl (lv_room (Nat.le_of_ble_eq_true rfl)) dL_law_211 ⟨Nat.le_trans hc9 hC1, Nat.le_trans hs9 hS1⟩) (fun r211 H locs hw hP hD hS hM => ?_)
      clear hw
      refine lv_icmp_ge (tgt := 227) hx hb dL_law_214 (by decide) (fun c214 => ?_) (fun c214 => ?_)
      · refine lv_iconst (v := 1) hx hb dL_law_227 (by decide) ?_
        refine lv_goto (tgt := 232) hx hb dL_law_228 (by decide) ?_
        exact h232 hlt_i9 1 x5 (x7 + v196) x8 r187 _ _ _ _ _ hc9 hs9 hP hD hS hM (lv_sub hl [2, 3, 4, 5, 6, 0, 7, 8, 1] rfl)
      · refine lv_iload hx hb dL_law_217 (lv_at hl 6 rfl) ?_
        refine lv_aload_n hx hb dL_law_219 rfl (lv_at hl 3 rfl) ?_
        refine lv_iconst (v := 0) hx hb dL_law_220 (by decide) ?_
        refine o_rd hM hP hD hS hA (va_runV (As := [.int 0]) (rest := [.int x5]) ⟨hx, hb, hml, hown, hts⟩ (c_X0_dawnIn l G cI cZ hc a w.2.2.2.1 qn on pn 0 w.2.2.2.2.1 H.size 0 (by decide)) (cwV 1 hts gL_law_X0_dawnIn rfl rfl rfl (by decide +kernel) ⟨(Nat.le_of_ble_eq_true rfl), (Nat.le_of_ble_eq_true rfl)⟩) ⟨wPre_blind, va_recv hK hP (ci := 0) (q0 := 3) rfl rfl, w_preP hK hP hD [3, 4, 5, 6, 7, 8, 9, 10, 11, 12, 13, 14] (by decide) rfl rfl⟩ rfl rfl hl.1 rfl (lv_room (Nat.le_of_ble_eq_true rfl)) dL_law_221 ⟨Nat.le_trans hc9 hC1, Nat.le_trans hs9 hS1⟩) (fun r221 H locs hw hP hD hS hM => ?_)
        clear hw
        refine lv_icmp_ge (tgt := 231) hx hb dL_law_224 (by decide) (fun c224 => ?_) (fun c224 => ?_)
        · refine lv_iconst (v := 0) hx hb dL_law_231 (by decide) ?_
          exact h232 hlt_i9 0 x5 (x7 + v196) x8 r187 _ _ _ _ _ hc9 hs9 hP hD hS hM (lv_sub hl [2, 3, 4, 5, 6, 0, 7, 8, 1] rfl)
        · refine lv_iconst (v := 1) hx hb dL_law_227 (by decide) ?_
          refine lv_goto (tgt := 232) hx hb dL_law_228 (by decide) ?_
          exact h232 hlt_i9 1 x5 (x7 + v196) x8 r187 _ _ _ _ _ hc9 hs9 hP hD hS hM (lv_sub hl [2, 3, 4, 5, 6, 0, 7, 8, 1] rfl)
set_option maxHeartbeats 16000000 in
set_option maxRecDepth 100000 in
theorem lb_90 (pg : Program) (l : Launch) (e : Env) (s : State) (m : MethodId) (b : Nat) (below : List Frame) (meth : Method) (cd : Code) (G : va_G) (cI cZ : ClassId) (hc : Nat) (a : Nat → Nat) (w : BW) (T qn on pn K C0 S0 : Nat) (t : Nat) (hC : LCx pg s m b meth cd G cI cZ) (hB : LBx w qn on pn C0 S0) (h679 : LK pg l e s m b below meth cd G (WB cI cZ hc a w T qn on pn) K C0 S0 679 [(0, .ref b), (1, .ref hc), (2, .ref w.1.1), (3, .int (nI t))] []) : LK pg l e s m b below meth cd G (WB cI cZ hc a w T qn on pn) K C0 S0 90 [(0, .ref b), (1, .ref hc), (2, .ref w.1.1), (3, .int (nI t))] [] := by
  have hC0 := hC
  have hB0 := hB
  obtain ⟨hx, hb, hml, hr, hts, hown, hlocks, hK⟩ := hC
  obtain ⟨hqn, hon, hpn, hF, hC1, hS1⟩ := hB
  have hA : ∀ q : Nat, s.heap.size ≤ q → oA s q := fun _ h => h
  have h652 := lb_652 pg l e s m b below meth cd G cI cZ hc a w T qn on pn K C0 S0 t hC0 hB0 h679
  have h421 : ∀ (x7 x8 : Int32), LK pg l e s m b below meth cd G (WB cI cZ hc a w T qn on pn) K C0 S0 421 [(0, .ref b), (1, .ref hc), (2, .ref w.1.1), (3, .int (nI t)), (7, .int x7), (8, .int x8)] [] := by
    intro x7 x8
    intro H locs ls cells slots hc9 hs9 hP hD hS hM hl
    refine lv_iconst (v := 0) hx hb dL_law_421 (by decide) ?_
    refine lv_istore (lv' := [(9, .int 0), (0, .ref b), (1, .ref hc), (2, .ref w.1.1), (3, .int (nI t)), (7, .int x7), (8, .int x8)]) hx hb dL_law_422 hl (by decide) rfl (fun ls hl => ?_)
    refine lv_iconst (v := 0) hx hb dL_law_424 (by decide) ?_
    refine lv_istore (lv' := [(10, .int 0), (9, .int 0), (0, .ref b), (1, .ref hc), (2, .ref w.1.1), (3, .int (nI t)), (7, .int x7), (8, .int x8)]) hx hb dL_law_425 hl (by decide) rfl (fun ls hl => ?_)
    refine lv_iconst (v := 0) hx hb dL_law_427 (by decide) ?_
    refine lv_istore (lv' := [(11, .int 0), (10, .int 0), (9, .int 0), (0, .ref b), (1, .ref hc), (2, .ref w.1.1), (3, .int (nI t)), (7, .int x7), (8, .int x8)]) hx hb dL_law_428 hl (by decide) rfl (fun ls hl => ?_)
    exact (fun x7 x8 x9 x10 => lb_430 pg l e s m b below meth cd G cI cZ hc a w T qn on pn K C0 S0 t hC0 hB0 h652 (pn + 1) 0 (by omega) (by omega) x7 x8 x9 x10) x7 x8 0 0 _ _ _ _ _ hc9 hs9 hP hD hS hM (lv_sub hl [3, 4, 5, 6, 7, 8, 2, 1, 0] rfl)
  intro H locs ls cells slots hc9 hs9 hP hD hS hM hl
  refine lv_aload_n hx hb dL_law_90 rfl (lv_at hl 1 rfl) ?_
  refine o_rd hM hP hD hS hA (va_runV (As := []) (rest := []) ⟨hx, hb, hml, hown, hts⟩ (c_X0_halfHour l G cI cZ hc a w.2.2.2.1 qn on pn 0 w.2.2.2.2.1 H.size ) (cwV 0 hts gL_law_X0_halfHour rfl rfl rfl (by decide +kernel) ⟨(Nat.le_of_ble_eq_true rfl), (Nat.le_of_ble_eq_true rfl)⟩) ⟨wPre_blind, va_recv hK hP (ci := 0) (q0 := 3) rfl rfl, w_preP hK hP hD [3, 4, 5, 6, 7, 8, 9, 10, 11, 12, 13, 14] (by decide) rfl rfl⟩ rfl rfl hl.1 rfl (lv_room (Nat.le_of_ble_eq_true rfl)) dL_law_91 ⟨Nat.le_trans hc9 hC1, Nat.le_trans hs9 hS1⟩) (fun r91 H locs hw hP hD hS hM => ?_)
  clear hw
  refine lv_istore (lv' := [(5, .int r91), (0, .ref b), (1, .ref hc), (2, .ref w.1.1), (3, .int (nI t))]) hx hb dL_law_94 hl (by decide) rfl (fun ls hl => ?_)
  refine lv_bipush (v := 14) hx hb dL_law_96 (by decide) ?_
  refine lv_aload_n hx hb dL_law_98 rfl (lv_at hl 2 rfl) ?_
  refine lv_iconst (v := 0) hx hb dL_law_99 (by decide) ?_
  refine o_rd hM hP hD hS hA (va_runV (As := [.int 0]) (rest := [.int 14]) ⟨hx, hb, hml, hown, hts⟩ (c_X0_dawnIn l G cI cZ hc a w.2.2.2.1 qn on pn 0 w.2.2.2.2.1 H.size 0 (by decide)) (cwV 1 hts gL_law_X0_dawnIn rfl rfl rfl (by decide +kernel) ⟨(Nat.le_of_ble_eq_true rfl), (Nat.le_of_ble_eq_true rfl)⟩) ⟨wPre_blind, va_recv hK hP (ci := 0) (q0 := 3) rfl rfl, w_preP hK hP hD [3, 4, 5, 6, 7, 8, 9, 10, 11, 12, 13, 14] (by decide) rfl rfl⟩ rfl rfl hl.1 rfl (lv_room (Nat.le_of_ble_eq_true rfl)) dL_law_100 ⟨Nat.le_trans hc9 hC1, Nat.le_trans hs9 hS1⟩) (fun r100 H locs hw hP hD hS hM => ?_)
  clear hw
  refine lv_isub hx hb dL_law_103 ?_
  refine lv_istore (lv' := [(6, .int (14 - r100)), (5, .int r91), (0, .ref b), (1, .ref hc), (2, .ref w.1.1), (3, .int (nI t))]) hx hb dL_law_104 hl (by decide) rfl (fun ls hl => ?_)
  refine lv_iload hx hb dL_law_106 (lv_at hl 1 rfl) ?_
  refine lv_if_lt (tgt := 164) hx hb dL_law_108 (by decide) (fun c108 => ?_) (fun c108 => ?_)
  · refine lv_iconst (v := 0) hx hb dL_law_164 (by decide) ?_
    exact o_ret0 hx hb hr hlocks hS dL_law_165
  · refine lv_iload hx hb dL_law_111 (lv_at hl 1 rfl) ?_
    refine lv_bipush (v := 47) hx hb dL_law_113 (by decide) ?_
    refine lv_icmp_gt (tgt := 164) hx hb dL_law_115 (by decide) (fun c115 => ?_) (fun c115 => ?_)
    · refine lv_iconst (v := 0) hx hb dL_law_164 (by decide) ?_
      exact o_ret0 hx hb hr hlocks hS dL_law_165
    · refine lv_iload hx hb dL_law_118 (lv_at hl 0 rfl) ?_
      refine lv_if_lt (tgt := 164) hx hb dL_law_120 (by decide) (fun c120 => ?_) (fun c120 => ?_)
      · refine lv_iconst (v := 0) hx hb dL_law_164 (by decide) ?_
        exact o_ret0 hx hb hr hlocks hS dL_law_165
      · refine lv_iload hx hb dL_law_123 (lv_at hl 0 rfl) ?_
        refine lv_iconst (v := 4) hx hb dL_law_125 (by decide) ?_
        refine lv_icmp_gt (tgt := 164) hx hb dL_law_126 (by decide) (fun c126 => ?_) (fun c126 => ?_)
        · refine lv_iconst (v := 0) hx hb dL_law_164 (by decide) ?_
          exact o_ret0 hx hb hr hlocks hS dL_law_165
        · refine lv_aload_n hx hb dL_law_129 rfl (lv_at hl 3 rfl) ?_
          refine lv_iconst (v := 0) hx hb dL_law_130 (by decide) ?_
          refine o_rd hM hP hD hS hA (va_runV (As := [.int 0]) (rest := []) ⟨hx, hb, hml, hown, hts⟩ (c_X0_duskIn l G cI cZ hc a w.2.2.2.1 qn on pn 0 w.2.2.2.2.1 H.size 0 (by decide)) (cwV 1 hts gL_law_X0_duskIn rfl rfl rfl (by decide +kernel) ⟨(Nat.le_of_ble_eq_true rfl), (Nat.le_of_ble_eq_true rfl)⟩) ⟨wPre_blind, va_recv hK hP (ci := 0) (q0 := 3) rfl rfl, w_preP hK hP hD [3, 4, 5, 6, 7, 8, 9, 10, 11, 12, 13, 14] (by decide) rfl rfl⟩ rfl rfl hl.1 rfl (lv_room (Nat.le_of_ble_eq_true rfl)) dL_law_131 ⟨Nat.le_trans hc9 hC1, Nat.le_trans hs9 hS1⟩) (fun r131 H locs hw hP hD hS hM => ?_)
          clear hw
          refine lv_bipush (v := 34) hx hb dL_law_134 (by decide) ?_
          refine lv_iload hx hb dL_law_136 (lv_at hl 0 rfl) ?_
          refine lv_iadd hx hb dL_law_138 ?_
          refine lv_aload_n hx hb dL_law_139 rfl (lv_at hl 3 rfl) ?_
          refine o_rd hM hP hD hS hA (va_runV (As := []) (rest := [.int (34 + (14 - r100)), .int r131]) ⟨hx, hb, hml, hown, hts⟩ (c_X0_shift l G cI cZ hc a w.2.2.2.1 qn on pn 0 w.2.2.2.2.1 H.size ) (cwV 0 hts gL_law_X0_shift rfl rfl rfl (by decide +kernel) ⟨(Nat.le_of_ble_eq_true rfl), (Nat.le_of_ble_eq_true rfl)⟩) ⟨wPre_blind, va_recv hK hP (ci := 0) (q0 := 3) rfl rfl, w_preP hK hP hD [3, 4, 5, 6, 7, 8, 9, 10, 11, 12, 13, 14] (by decide) rfl rfl⟩ rfl rfl hl.1 rfl (lv_room (Nat.le_of_ble_eq_true rfl)) dL_law_140 ⟨Nat.le_trans hc9 hC1, Nat.le_trans hs9 hS1⟩) (fun r140 H locs hw hP hD hS hM => ?_)
          clear hw
          refine lv_iadd hx hb dL_law_143 ?_
          refine lv_icmp_ne (tgt := 164) hx hb dL_law_144 (by decide) (fun c144 => ?_) (fun c144 => ?_)
          · refine lv_iconst (v := 0) hx hb dL_law_164 (by decide) ?_
            exact o_ret0 hx hb hr hlocks hS dL_law_165
          · refine lv_aload_n hx hb dL_law_147 rfl (lv_at hl 3 rfl) ?_
            refine o_rd hM hP hD hS hA (va_runV (As := []) (rest := []) ⟨hx, hb, hml, hown, hts⟩ (c_X0_shift l G cI cZ hc a w.2.2.2.1 qn on pn 0 w.2.2.2.2.1 H.size ) (cwV 0 hts gL_law_X0_shift rfl rfl rfl (by decide +kernel) ⟨(Nat.le_of_ble_eq_true rfl), (Nat.le_of_ble_eq_true rfl)⟩) ⟨wPre_blind, va_recv hK hP (ci := 0) (q0 := 3) rfl rfl, w_preP hK hP hD [3, 4, 5, 6, 7, 8, 9, 10, 11, 12, 13, 14] (by decide) rfl rfl⟩ rfl rfl hl.1 rfl (lv_room (Nat.le_of_ble_eq_true rfl)) dL_law_148 ⟨Nat.le_trans hc9 hC1, Nat.le_trans hs9 hS1⟩) (fun r148 H locs hw hP hD hS hM => ?_)
            clear hw
            refine lv_bipush (v := (-4)) hx hb dL_law_151 (by decide) ?_
            refine lv_icmp_lt (tgt := 164) hx hb dL_law_153 (by decide) (fun c153 => ?_) (fun c153 => ?_)
            · refine lv_iconst (v := 0) hx hb dL_law_164 (by decide) ?_
              exact o_ret0 hx hb hr hlocks hS dL_law_165
            · refine lv_aload_n hx hb dL_law_156 rfl (lv_at hl 3 rfl) ?_
              refine o_rd hM hP hD hS hA (va_runV (As := []) (rest := []) ⟨hx, hb, hml, hown, hts⟩ (c_X0_shift l G cI cZ hc a w.2.2.2.1 qn on pn 0 w.2.2.2.2.1 H.size ) (cwV 0 hts gL_law_X0_shift rfl rfl rfl (by decide +kernel) ⟨(Nat.le_of_ble_eq_true rfl), (Nat.le_of_ble_eq_true rfl)⟩) ⟨wPre_blind, va_recv hK hP (ci := 0) (q0 := 3) rfl rfl, w_preP hK hP hD [3, 4, 5, 6, 7, 8, 9, 10, 11, 12, 13, 14] (by decide) rfl rfl⟩ rfl rfl hl.1 rfl (lv_room (Nat.le_of_ble_eq_true rfl)) dL_law_157 ⟨Nat.le_trans hc9 hC1, Nat.le_trans hs9 hS1⟩) (fun r157 H locs hw hP hD hS hM => ?_)
              clear hw
              refine lv_iconst (v := 4) hx hb dL_law_160 (by decide) ?_
              refine lv_icmp_le (tgt := 166) hx hb dL_law_161 (by decide) (fun c161 => ?_) (fun c161 => ?_)
              · refine lv_iconst (v := 0) hx hb dL_law_166 (by decide) ?_
                refine lv_istore (lv' := [(7, .int 0), (6, .int (14 - r100)), (5, .int r91), (0, .ref b), (1, .ref hc), (2, .ref w.1.1), (3, .int (nI t))]) hx hb dL_law_167 hl (by decide) rfl (fun ls hl => ?_)
                refine lv_iconst (v := 0) hx hb dL_law_169 (by decide) ?_
                refine lv_istore (lv' := [(8, .int 0), (7, .int 0), (6, .int (14 - r100)), (5, .int r91), (0, .ref b), (1, .ref hc), (2, .ref w.1.1), (3, .int (nI t))]) hx hb dL_law_170 hl (by decide) rfl (fun ls hl => ?_)
                refine lv_iconst (v := 0) hx hb dL_law_172 (by decide) ?_
                refine lv_istore (lv' := [(9, .int 0), (8, .int 0), (7, .int 0), (6, .int (14 - r100)), (5, .int r91), (0, .ref b), (1, .ref hc), (2, .ref w.1.1), (3, .int (nI t))]) hx hb dL_law_173 hl (by decide) rfl (fun ls hl => ?_)
                exact (fun x5 x7 x8 => lb_175 pg l e s m b below meth cd G cI cZ hc a w T qn on pn K C0 S0 t hC0 hB0 h421 (on + 1) 0 (by omega) (by omega) x5 x7 x8) r91 0 0 _ _ _ _ _ hc9 hs9 hP hD hS hM (lv_sub hl [5, 6, 7, 8, 4, 2, 1, 0] rfl)
              · refine lv_iconst (v := 0) hx hb dL_law_164 (by decide) ?_
                exact o_ret0 hx hb hr hlocks hS dL_law_165
end CHK
end
section
section LWK
theorem o_G {s : State} {a' : Array Value} (hts : ∀ w ∈ lw_tbl, w.before a' s = true) : ∃ G : va_G, va_K G vwCl [] s := by
  obtain ⟨c0, iS0, hKn0⟩ := u_known (C := RX0) (T := TX0) (N := 16) (n := 16) hts inX0 (hts (.instantiable RX0 16) (by decide +kernel))
  obtain ⟨c1, iS1, hKn1⟩ := u_known (C := RX1) (T := TX1) (N := 9) (n := 9) hts inX1 (hts (.instantiable RX1 9) (by decide +kernel))
  refine ⟨(fun k => if k = 0 then c0 else c1, fun k => if k = 0 then iS0 else iS1), fun k q hq => ?_, fun k q h => by simp at h⟩
  match k, hq with
  | 0, hq => cases hq; exact hKn0
  | 1, hq => cases hq; exact hKn1
  | k + 2, hq => simp [vwCl] at hq
theorem o_ar1 (a c t : Nat) : a + (2 * c) * t + c * 2 ≤ a + (2 * c) * (t + 1) := by rw [Nat.mul_succ (2 * c) t]; omega
/-- the law's own things done, two a time -/
def o_yk (xs : Nat → Int32) (i : Nat) : Int32 := o_xk xs (i / 2) >>> (nI (2 * (i % 2)) &&& 31) + nI (409 * (i % 2))
theorem wl_ao : Cond.arrayOver (.array .int) ∈ lw_tbl := List.mem_of_getElem? (i := 494) rfl
theorem wl_nx : Cond.methodLinkNest RL 93 yX1_init RL ∈ lw_tbl := List.mem_of_getElem? (i := 489) rfl
set_option maxHeartbeats 16000000 in
set_option maxRecDepth 100000 in
theorem law_walk {p : Program} {e : Env} {s : State} {m : MethodId} {below : List Frame} {meth : Method} {c : Code} (l : Launch) {b : Nat} {xs : Nat → Int32} (qf of1 pf tf mf qg og pg tg mg : Nat → Nat) (hx : p.tables.exec = Jvm.exec) (hb : c.code = cL_law) (hr : meth.sig.returnType = some .boolean) (hml : c.maxLocals = 17) (hown : s.vm.findClass RL = some m.cls) (hts0 : ∀ w ∈ lw_tbl, w.before #[Value.ref b] s = true) (hlocks : meth.locks = false) (hst : s.slotsTrue = true) (hbl : b < s.heap.size)
    (hscr : ∀ cI : ClassId, s.vm.findClass ("[" ++ FieldType.int.toString) = some cI → s.heap[b]? = some (vp_cell cI (16, .inl xs))) (hN : 24 + onb (xs 0) 44 = 67) (h0 : qf 0 = 0 ∧ of1 0 = 0 ∧ pf 0 = 0 ∧ tf 0 = 0 ∧ mf 0 = 0) (hrun : ORun (o_xk xs) 67 qf of1 pf tf mf) (h1 : qg 0 = qf 67 ∧ og 0 = of1 67 ∧ pg 0 = pf 67 ∧ tg 0 = tf 67 ∧ mg 0 = mf 67) (hrun2 : ORun (o_yk xs) 48 qg og pg tg mg) (hend : 7301315 ≤ mg 48) :
    W p l e RR s m #[Value.ref b] below meth c s.heap [] 0 0 (LQ below s) (entryFrame m ([Value.ref b] : List Value).toArray 17) := by
  have hts : ∀ w ∈ wsL_law, w.before #[Value.ref b] s = true := fun w h => hts0 w (wsL_law_in w h)
  have hAO : va_AOA .int s := over_moved (Vm.Alike.refl s.vm) (hts0 _ wl_ao)
  have hNX : va_Nw (.methodLinkNest RL 93 yX1_init RL) s := va_Nw.of rfl (hts0 _ wl_nx)
  obtain ⟨G, hK⟩ := o_G hts0
  have hA : ∀ q : Nat, s.heap.size ≤ q → oA s q := fun _ h => h
  have hS : va_S (oA s) s.heap s.heap [] := va_S.rf
  have hP : va_P G vwCl [] s.heap := w_P0
  have hD : va_D (oA s) [] := w_D0
  have hM : slotSum s.heap ≤ slotSum s.heap := Nat.le_refl _
  have hl := lv_entry ([.ref b]) (n := 17) (Nat.le_of_ble_eq_true rfl)
  rw [lg_entry_eq]
  generalize (lg_sl ([.ref b]) ++ List.replicate (17 - (lg_sl ([.ref b])).length) Slot.unset).toArray = ls at hl ⊢
  have hl : lv_has ls 17 [(0, .ref b)] := hl
  refine W_up hM (va_new (ci := 0) (fs := [.null, .null, .null, .null, .null, .null, .null, .null, .null, .null, .null, .int 0, .int 0, .int 0, .int 0, .int 0]) (C := RX0) (T := TX0) (N := 16) hx hb hts inlX0 tyX0 tyX0_ok hown (hts (.classLink RL 22 RX0) (by decide +kernel)) (hts (.instantiable RX0 16) (by decide +kernel)) (hts (.initialized RX0) (by decide +kernel)) hK hP hD hS hA rfl (fun j hj => by rcases (show j = 0 ∨ j = 1 ∨ j = 2 ∨ j = 3 ∨ j = 4 ∨ j = 5 ∨ j = 6 ∨ j = 7 ∨ j = 8 ∨ j = 9 ∨ j = 10 ∨ j = 11 ∨ j = 12 ∨ j = 13 ∨ j = 14 ∨ j = 15 by omega) with rfl | rfl | rfl | rfl | rfl | rfl | rfl | rfl | rfl | rfl | rfl | rfl | rfl | rfl | rfl | rfl <;> rfl) (Nat.le_of_ble_eq_true rfl) (Nat.le_of_ble_eq_true rfl) dL_law_0 (fun hc H hP hD hS => W_dn (fun hM => ?_)))
  have hP : va_P G vwCl ([] ++ [(hc, .inr (0, [.null, .null, .null, .null, .null, .null, .null, .null, .null, .null, .null, .int 0, .int 0, .int 0, .int 0, .int 0]))]) H := hP
  have hD : va_D (oA s) ([] ++ [(hc, .inr (0, [.null, .null, .null, .null, .null, .null, .null, .null, .null, .null, .null, .int 0, .int 0, .int 0, .int 0, .int 0]))]) := hD
  refine lv_dup hx hb dL_law_3 rfl ?_
  refine W_up hM (w_pl_v (B := fun _ _ => True) (wr := []) (va_runI (As := []) (rest := [.ref hc]) ⟨hx, hb, hml, hown, hts⟩ (c_X0_init l G hc H.size) (cwI 0 hts gL_law_X0_init rfl rfl rfl (hts (.initialized RX0) (by decide +kernel)) (hts (.methodLink RL 102 yX0_init) (by decide +kernel)) (hts (.instanceMethod yX0_init) (by decide +kernel)) rfl (by decide +kernel) ⟨(Nat.le_of_ble_eq_true rfl), (Nat.le_of_ble_eq_true rfl)⟩) ⟨wPre_blind, w_preP (hK.sub [] rfl) hP hD [0] (by decide) rfl rfl⟩ rfl rfl hl.1 rfl (lv_room (Nat.le_of_ble_eq_true rfl)) dL_law_4 ⟨(Nat.le_of_ble_eq_true rfl), (Nat.le_of_ble_eq_true rfl)⟩) hP hD hS hA [0] [] rfl rfl (by decide) (by decide) (fun u H locs _ hu hP hD hS => W_dn (fun hM => ?_)))
  obtain ⟨a, cI, cZ⟩ := u
  have hK2 : va_K G vwCl (ty2 cI cZ) s := hu
  have hP : va_P G vwCl (Dk cI cZ hc a (fun _ _ => 0) 0 0 0 0 0) H := hP
  have hD : va_D (oA s) (Dk cI cZ hc a (fun _ _ => 0) 0 0 0 0 0) := hD
  have hfI : s.vm.findClass ("[" ++ FieldType.int.toString) = some cI := (hK2.2 0 (cI, .int) rfl).2
  have hR : va_P G vwCl [(b, .inl (cI, 16, .inl xs))] s.heap := fun k q hk => by
    have hz : k < 1 := (List.getElem?_eq_some_iff.mp hk).1
    rw [show k = 0 by omega] at hk
    cases hk
    exact hscr cI hfI
  have hro : ∀ (k : Nat) (q : Nat × va_E), ([(b, .inl (cI, 16, .inl xs))] : va_W)[k]? = some q → ¬ oA s q.1 := fun k q hk h => by
    have hz : k < 1 := (List.getElem?_eq_some_iff.mp hk).1
    rw [show k = 0 by omega] at hk
    cases hk
    exact Nat.not_le.mpr hbl h
  have hLC : LCx p s m b meth c G cI cZ := ⟨hx, hb, hml, hr, hts, hown, hlocks, hK2⟩
  refine lv_astore_n (lv' := [(1, .ref hc), (0, .ref b)]) hx hb dL_law_7 rfl hl (by decide) rfl (fun ls hl => ?_)
  refine lv_aload_n hx hb dL_law_8 rfl (lv_at hl 0 rfl) ?_
  refine lv_aload_n hx hb dL_law_9 rfl (lv_at hl 1 rfl) ?_
  have hF := w_free hD hS hA
  have hx1 : ∀ (k : Nat) (q : Nat × va_E), ([(b, .inl (cI, 16, .inl xs))] : va_W)[k]? = some q → ∀ (j : Nat) (x : va_E), (Dk cI cZ hc a (fun _ _ => 0) 0 0 0 0 0)[j]? ≠ some (q.1, x) := fun k q hk j x hj => hro k q hk (hD.2 j (q.1, x) hj)
  refine va_callq (va_runS (As := [.ref hc, .ref b]) (rest := []) ⟨hx, hb, hml, hown, hts⟩ (c_L_build l G cI cZ hc a b xs qf of1 pf tf mf H.size (slotSum s.heap) hN h0 hrun) (va_cwS 2 hts gL_law_L_build rfl rfl rfl (by decide +kernel) ⟨(Nat.le_of_ble_eq_true rfl), (Nat.le_of_ble_eq_true rfl)⟩) ⟨oPreA_blind, fun U hU hW => ⟨(o_pre (vs := [.ref hc, .ref b]) hM hK2 hP (o_keep hR hro hS) hD hx1 U hU hW).1, (o_pre (vs := [.ref hc, .ref b]) hM hK2 hP (o_keep hR hro hS) hD hx1 U hU hW).2, va_AOA.moved hW.alike hAO, va_Nw.warmM hW hNX⟩⟩ rfl rfl hl.1 rfl (lv_room (Nat.le_of_ble_eq_true rfl)) dL_law_10 ⟨(Nat.le_of_ble_eq_true rfl), (Nat.le_of_ble_eq_true rfl)⟩) hS (fun q _ h => hF q h) hF (fun r u t H locs ht hvm hw hB hz hk hS => ?_)
  rcases hw with ⟨-, rfl⟩ | ⟨w, rfl, rfl, hFw, hrow⟩
  · refine lv_astore_nN (lv' := [(2, .null), (1, .ref hc), (0, .ref b)]) hx hb dL_law_13 rfl hl (by decide) rfl (fun ls hl => ?_)
    refine lv_aload_nN hx hb dL_law_14 rfl (lv_at hl 0 rfl) ?_
    refine lv_ifnonnullN hx hb dL_law_15 ?_
    refine lv_iconst (v := 0) hx hb dL_law_18 (by decide) ?_
    exact o_ret0 hx hb hr hlocks hS dL_law_19
  obtain ⟨⟨hP, hK3, hD⟩, hM⟩ := hB w rfl
  rw [ht] at hP hM
  have hK3 : va_K G vwCl (ty3 cI cZ w.2.2.1) s := va_K.moved hvm.symm hK3
  have hD := hD.weaken (fun _ _ _ h => hF _ h)
  obtain ⟨⟨hs, ao, ap, au⟩, ⟨ro, rp, L⟩, cR, F, nw, f⟩ := w
  refine lv_astore_n (lv' := [(2, .ref hs), (1, .ref hc), (0, .ref b)]) hx hb dL_law_13 rfl hl (by decide) rfl (fun ls hl => ?_)
  refine lv_aload_n hx hb dL_law_14 rfl (lv_at hl 0 rfl) ?_
  refine lv_ifnonnull (tgt := 20) hx hb dL_law_15 (by decide) ?_
  refine lv_iconst (v := nI 0) hx hb dL_law_20 (by decide) ?_
  refine lv_istore_n (lv' := [(3, .int (nI 0)), (2, .ref hs), (1, .ref hc), (0, .ref b)]) hx hb dL_law_21 rfl hl (by decide) rfl (fun ls hl => ?_)
  have key : ∀ (n t : Nat), t ≤ 24 → 24 < t + n → ∀ (F : Nat → Nat → Int32) (nw : Int32) (f : Nat → va_E), CI F (pg (2 * t)) → OR cI ro rp L f (og (2 * t)) → ∀ (H : Heap) (locs : List Loc), va_P G vwCl (WB cI cZ hc a ((hs, ao, ap, au), (ro, rp, L), (cR, (F, nw, f))) (tg (2 * t)) (qg (2 * t)) (og (2 * t)) (pg (2 * t))) H → va_D (oA s) (WB cI cZ hc a ((hs, ao, ap, au), (ro, rp, L), (cR, (F, nw, f))) (tg (2 * t)) (qg (2 * t)) (og (2 * t)) (pg (2 * t))) → va_S (oA s) s.heap H locs → slotSum s.heap + mg (2 * t) ≤ slotSum H → ∀ ls : Array Slot, lv_has ls 17 [(3, .int (nI t)), (2, .ref hs), (1, .ref hc), (0, .ref b)] → W p l e RR s m #[Value.ref b] below meth c H locs (549446 + 16400 * t) (10854533 + 324000 * t) (LQ below s) (F0 m 22 ls []) := by
    intro n
    induction n with
    | zero => intro t h1 h2; exact absurd h2 (by omega)
    | succ n ih =>
      intro t hi hn F nw f hF hrow H locs hP hD hS hM ls hl
      refine lv_iload_n hx hb dL_law_22 rfl (lv_at hl 0 rfl) ?_
      refine lv_bipush (v := nI 24) hx hb dL_law_23 (by decide) ?_
      refine lv_icmp_ge (tgt := 685) hx hb dL_law_25 (by decide) (fun c9 => ?_) (fun c9 => ?_)
      · have h9 : 24 ≤ t := (nI_leI (by omega) (by omega)).mp c9
        have ei : t = 24 := by omega
        subst ei
        exact o_win hst (by have h8 : slotSum s.heap + mg 48 ≤ slotSum H := hM; omega)
      · have h9 : t < 24 := o_ge c9 (by omega) (by omega)
        refine lv_aload_n hx hb dL_law_28 rfl (lv_at hl 3 rfl) ?_
        refine lv_iload_n hx hb dL_law_29 rfl (lv_at hl 0 rfl) ?_
        refine lv_bipush (v := nI 16) hx hb dL_law_30 (by decide) ?_
        refine lv_irem hx hb dL_law_32 (by decide) ?_
        rw [o_rem (m := t) (n := 16) (by omega) (by decide)]
        refine o_in (va_runS (As := [.ref b, .int (nI (t % 16))]) (rest := []) ⟨hx, hb, hml, hown, hts⟩ (c_L_cell l G cI b 16 xs H.size (slotSum s.heap + mg (2 * t)) (t % 16) (Nat.mod_lt _ (by decide)) (by decide)) (va_cwS 2 hts gL_law_L_cell rfl rfl rfl (by decide +kernel) ⟨(Nat.le_of_ble_eq_true rfl), (Nat.le_of_ble_eq_true rfl)⟩) ⟨oPre_blind, o_pre hM (hK3.sub [0] rfl) w_P0 (o_keep hR hro hS) (w_D0 (A := oA s)) o_x0⟩ rfl rfl hl.1 rfl (lv_room (Nat.le_of_ble_eq_true rfl)) dL_law_33 ⟨by dsimp only [RR]; omega, by dsimp only [RR]; omega⟩) hP hS hA (fun r39 u39 H locs hw39 hP hS hM => ?_)
        subst hw39
        refine lv_iload_n hx hb dL_law_36 rfl (lv_at hl 0 rfl) ?_
        refine lv_bipush (v := nI 16) hx hb dL_law_37 (by decide) ?_
        refine lv_idiv hx hb dL_law_39 (by decide) ?_
        rw [o_div (m := t) (n := 16) (by omega) (by decide)]
        refine lv_iconst (v := nI 3) hx hb dL_law_40 (by decide) ?_
        refine lv_imul hx hb dL_law_41 ?_
        rw [pk_mul]
        refine lv_ishr hx hb dL_law_42 ?_
        refine lv_sipush (v := nI 523) hx hb dL_law_43 (by decide) ?_
        refine lv_iload_n hx hb dL_law_46 rfl (lv_at hl 0 rfl) ?_
        refine lv_imul hx hb dL_law_47 ?_
        rw [pk_mul]
        refine lv_iadd hx hb dL_law_48 ?_
        rw [show xs (t % 16) >>> (nI (t / 16 * 3) &&& 31) + nI (523 * t) = o_xk xs t from rfl]
        refine lv_istore (lv' := [(4, .int (o_xk xs t)), (3, .int (nI t)), (2, .ref hs), (1, .ref hc), (0, .ref b)]) hx hb dL_law_49 hl (by decide) rfl (fun ls hl => ?_)
        refine lv_iconst (v := nI 0) hx hb dL_law_51 (by decide) ?_
        refine lv_istore (lv' := [(5, .int (nI 0)), (4, .int (o_xk xs t)), (3, .int (nI t)), (2, .ref hs), (1, .ref hc), (0, .ref b)]) hx hb dL_law_52 hl (by decide) rfl (fun ls hl => ?_)
        have key2 : ∀ (n2 k : Nat), k ≤ 2 → 2 < k + n2 → ∀ (F : Nat → Nat → Int32) (nw : Int32) (f : Nat → va_E), CI F (pg (2 * t + k)) → OR cI ro rp L f (og (2 * t + k)) → ∀ (H : Heap) (locs : List Loc), va_P G vwCl (WB cI cZ hc a ((hs, ao, ap, au), (ro, rp, L), (cR, (F, nw, f))) (tg (2 * t + k)) (qg (2 * t + k)) (og (2 * t + k)) (pg (2 * t + k))) H → va_D (oA s) (WB cI cZ hc a ((hs, ao, ap, au), (ro, rp, L), (cR, (F, nw, f))) (tg (2 * t + k)) (qg (2 * t + k)) (og (2 * t + k)) (pg (2 * t + k))) → va_S (oA s) s.heap H locs → slotSum s.heap + mg (2 * t + k) ≤ slotSum H → ∀ ls : Array Slot, lv_has ls 17 [(5, .int (nI k)), (4, .int (o_xk xs t)), (3, .int (nI t)), (2, .ref hs), (1, .ref hc), (0, .ref b)] → W p l e RR s m #[Value.ref b] below meth c H locs (549446 + 16400 * t + 8200 * k) (10854533 + 324000 * t + 162000 * k) (LQ below s) (F0 m 54 ls []) := by
          intro n2
          induction n2 with
          | zero => intro k h1 h2; exact absurd h2 (by omega)
          | succ n2 ih2 =>
            intro k hi2 hn2 F nw f hF hrow H locs hP hD hS hM ls hl
            refine lv_iload hx hb dL_law_54 (lv_at hl 0 rfl) ?_
            refine lv_iconst (v := nI 2) hx hb dL_law_56 (by decide) ?_
            refine lv_icmp_ge (tgt := 90) hx hb dL_law_57 (by decide) (fun c8 => ?_) (fun c8 => ?_)
            · have h8 : 2 ≤ k := (nI_leI (by omega) (by omega)).mp c8
              have ei : k = 2 := by omega
              subst ei
              obtain ⟨b1, b2, b3, b4⟩ := hrun2.2 (2 * t + 2) (by omega)
              have h679 : LK p l e s m b below meth c G (WB cI cZ hc a ((hs, ao, ap, au), (ro, rp, L), (cR, (F, nw, f))) (tg (2 * t + 2)) (qg (2 * t + 2)) (og (2 * t + 2)) (pg (2 * t + 2))) (slotSum s.heap + mg (2 * t + 2)) (549446 + 16400 * (t + 1)) (10854533 + 324000 * (t + 1)) 679 [(0, .ref b), (1, .ref hc), (2, .ref hs), (3, .int (nI t))] [] := by
                intro H locs ls cells slots hc9 hs9 hP hD hS hM hl
                refine lv_iinc (v := nI t + 1) (lv' := [(3, .int (nI t + 1)), (0, .ref b), (1, .ref hc), (2, .ref hs)]) hx hb dL_law_679 hl (k := 3) rfl rfl (by decide) rfl (fun ls hl => ?_)
                refine lv_goto (tgt := 22) hx hb dL_law_682 (by decide) ?_
                rw [nI_1] at hl
                exact W.widen hc9 hs9 (ih (t + 1) (by omega) (by omega) F nw f hF hrow H locs hP hD hS hM ls (lv_sub hl [0, 3, 2, 1] rfl))
              have hc1 : 549446 + 16400 * (t + 1) ≤ 1000000 := by omega
              have hs1 : 10854533 + 324000 * (t + 1) ≤ 19000000 := Nat.le_trans (Nat.add_le_add_left (Nat.mul_le_mul_left 324000 (show t + 1 ≤ 24 from h9)) 10854533) (Nat.le_of_ble_eq_true rfl)
              have hB9 : LBx ((hs, ao, ap, au), (ro, rp, L), (cR, (F, nw, f))) (qg (2 * t + 2)) (og (2 * t + 2)) (pg (2 * t + 2)) (549446 + 16400 * (t + 1)) (10854533 + 324000 * (t + 1)) := And.intro b1 (And.intro b2 (And.intro b3 (And.intro hF (And.intro hc1 hs1))))
              have h90 := lb_90 p l e s m b below meth c G cI cZ hc a ((hs, ao, ap, au), (ro, rp, L), (cR, (F, nw, f))) (tg (2 * t + 2)) (qg (2 * t + 2)) (og (2 * t + 2)) (pg (2 * t + 2)) (slotSum s.heap + mg (2 * t + 2)) (549446 + 16400 * (t + 1)) (10854533 + 324000 * (t + 1)) t hLC hB9 h679
              have hc9 : 549446 + 16400 * t + 8200 * 2 ≤ 549446 + 16400 * (t + 1) := by omega
              have hs9 : 10854533 + 324000 * t + 162000 * 2 ≤ 10854533 + 324000 * (t + 1) := o_ar1 10854533 162000 t
              exact h90 H locs ls _ _ hc9 hs9 hP hD hS hM (lv_sub hl [5, 4, 3, 2] rfl)
            · have h8 : k < 2 := o_ge c8 (by omega) (by omega)
              obtain ⟨dl, hst1, hmf⟩ := hrun2.1 (2 * t + k) (by omega)
              obtain ⟨b1, b2, b3, b4⟩ := hrun2.2 (2 * t + k) (by omega)
              refine lv_aload_n hx hb dL_law_60 rfl (lv_at hl 4 rfl) ?_
              refine lv_aload_n hx hb dL_law_61 rfl (lv_at hl 3 rfl) ?_
              refine lv_iload hx hb dL_law_62 (lv_at hl 1 rfl) ?_
              refine lv_iconst (v := nI 2) hx hb dL_law_64 (by decide) ?_
              refine lv_iload hx hb dL_law_65 (lv_at hl 0 rfl) ?_
              refine lv_imul hx hb dL_law_67 ?_
              rw [pk_mul]
              refine lv_ishr hx hb dL_law_68 ?_
              refine lv_sipush (v := nI 409) hx hb dL_law_69 (by decide) ?_
              refine lv_iload hx hb dL_law_72 (lv_at hl 0 rfl) ?_
              refine lv_imul hx hb dL_law_74 ?_
              rw [pk_mul]
              refine lv_iadd hx hb dL_law_75 ?_
              have e1 : (2 * t + k) / 2 = t := by omega
              have e2 : (2 * t + k) % 2 = k := by omega
              rw [show o_xk xs t >>> (nI (2 * k) &&& 31) + nI (409 * k) = o_yk xs (2 * t + k) by rw [o_yk, e1, e2]]
              have hPm : va_P G vwCl (((SM hs ao ap au (nI (tg (2 * t + k) / 48)) (nI (tg (2 * t + k) % 48)) (qg (2 * t + k)) (og (2 * t + k)) (pg (2 * t + k))) :: (Dk cI cZ hc a F (qg (2 * t + k)) (og (2 * t + k)) (pg (2 * t + k)) 0 nw)) ++ va_pl L f) H := hP.part [2, 3, 4, 5, 6, 7, 8, 9, 10, 11, 12, 13, 14] rfl
              have hDm : va_D (oA s) (((SM hs ao ap au (nI (tg (2 * t + k) / 48)) (nI (tg (2 * t + k) % 48)) (qg (2 * t + k)) (og (2 * t + k)) (pg (2 * t + k))) :: (Dk cI cZ hc a F (qg (2 * t + k)) (og (2 * t + k)) (pg (2 * t + k)) 0 nw)) ++ va_pl L f) := hD.part [2, 3, 4, 5, 6, 7, 8, 9, 10, 11, 12, 13, 14] (by decide) rfl
              refine o_pp (X := [OA cR ao ro, PA cR ap rp] ++ ((SM hs ao ap au (nI (tg (2 * t + k) / 48)) (nI (tg (2 * t + k) % 48)) (qg (2 * t + k)) (og (2 * t + k)) (pg (2 * t + k))) :: (Dk cI cZ hc a F (qg (2 * t + k)) (og (2 * t + k)) (pg (2 * t + k)) 0 nw))) (cx := (SM hs ao ap au (nI (tg (2 * t + k) / 48)) (nI (tg (2 * t + k) % 48)) (qg (2 * t + k)) (og (2 * t + k)) (pg (2 * t + k))) :: (Dk cI cZ hc a F (qg (2 * t + k)) (og (2 * t + k)) (pg (2 * t + k)) 0 nw)) (pl := va_pl L f) (wr := [OA cR ao ro, PA cR ap rp]) (rx := fun u : AC => (SM hs ao ap au (nI (tg (2 * t + k + 1) / 48)) (nI (tg (2 * t + k + 1) % 48)) (qg (2 * t + k + 1)) (og (2 * t + k + 1)) (pg (2 * t + k + 1))) :: (Dk cI cZ hc a u.1 (qg (2 * t + k + 1)) (og (2 * t + k + 1)) (pg (2 * t + k + 1)) 0 u.2.1)) (pl1 := fun u : AC => va_pl L u.2.2) (va_runS (As := [.ref hc, .ref hs, .int (o_yk xs (2 * t + k))]) (rest := []) ⟨hx, hb, hml, hown, hts⟩ (c_L_act l G cI cZ cR hc a F nw hs ao ap au ro rp L f (qg (2 * t + k)) (og (2 * t + k)) (pg (2 * t + k)) (tg (2 * t + k)) (qg (2 * t + k + 1)) (og (2 * t + k + 1)) (pg (2 * t + k + 1)) (tg (2 * t + k + 1)) dl H.size (slotSum s.heap + mg (2 * t + k)) (o_yk xs (2 * t + k)) b1 b2 b3 b4 hst1 hF hrow) (va_cwS 3 hts gL_law_L_act rfl rfl rfl (by decide +kernel) ⟨(Nat.le_of_ble_eq_true rfl), (Nat.le_of_ble_eq_true rfl)⟩) ⟨oPre_blind, o_pre hM hK3 hPm (hP.sub [0, 1] rfl) hDm (o_apart2 hD)⟩ rfl rfl hl.1 rfl (lv_room (Nat.le_of_ble_eq_true rfl)) dL_law_76 ⟨by dsimp only [RR]; omega, by dsimp only [RR]; omega⟩) hP hD hS hA [2, 3, 4, 5, 6, 7, 8, 9, 10, 11, 12, 13, 14] [0, 1] rfl rfl (by decide) (by decide) (fun r76 u H locs hw76 hP hD hS hM => ?_)
              obtain ⟨-, hF1, hrow1⟩ := hw76
              obtain ⟨F1, nw1, f1⟩ := u
              refine lv_if_ne (tgt := 84) hx hb dL_law_79 (by decide) (fun c7 => ?_) (fun c7 => ?_)
              · refine lv_iinc (v := nI k + 1) (lv' := [(5, .int (nI k + 1)), (4, .int (o_xk xs t)), (3, .int (nI t)), (2, .ref hs), (1, .ref hc), (0, .ref b)]) hx hb dL_law_84 hl (k := 0) rfl rfl (by decide) rfl (fun ls hl => ?_)
                refine lv_goto (tgt := 54) hx hb dL_law_87 (by decide) ?_
                rw [nI_1] at hl
                exact W.widen (by omega) (by omega) (ih2 (k + 1) (by omega) (by omega) F1 nw1 f1 hF1 hrow1 H locs hP hD hS (by show slotSum s.heap + mg (2 * t + k + 1) ≤ _; rw [hmf]; omega) ls hl)
              · refine lv_iconst (v := 0) hx hb dL_law_82 (by decide) ?_
                exact o_ret0 hx hb hr hlocks hS dL_law_83
        exact W.widen (by omega) (by omega) (key2 3 0 (by omega) (by omega) F nw f hF hrow H locs hP hD hS hM ls hl)
  obtain ⟨z1, z2, z3, z4, z5⟩ := h1
  exact W.widen (by omega) (by omega) (key 25 0 (by omega) (by omega) F nw f (by rw [show pg (2 * 0) = pf 67 from z3]; exact hFw) (by rw [show og (2 * 0) = of1 67 from z2]; exact hrow) H locs (by rw [show tg (2 * 0) = tf 67 from z4, show qg (2 * 0) = qf 67 from z1, show og (2 * 0) = of1 67 from z2, show pg (2 * 0) = pf 67 from z3]; exact hP) (by rw [show tg (2 * 0) = tf 67 from z4, show qg (2 * 0) = qf 67 from z1, show og (2 * 0) = of1 67 from z2, show pg (2 * 0) = pf 67 from z3]; exact hD) hS (by rw [show mg (2 * 0) = mf 67 from z5]; exact hM) ls hl)
end LWK
end
section
section RUN
/-- the script: sixteen cells -/
def o_S : List Int32 := [(-506284045), 156018357, 54567294, 130057191, (-2087119424), (-2142956727), (-2289230), 53673240, 8736056, (-2131360336), (-4097802), (-10489025), 2340089, (-2138665437), (-11341130), (-2115085653)]
def o_xs (k : Nat) : Int32 := o_S.getD k 0
def o_qf (k : Nat) : Nat := ([0, 1, 1, 1, 1, 1, 1, 1, 1, 1, 1, 1, 1, 1, 1, 1, 1, 1, 1, 1, 1, 1, 1, 1, 1, 1, 1, 1, 1, 1, 1, 1, 1, 1, 1, 1, 1, 1, 1, 2, 2, 2, 2, 2, 2, 2, 2, 2, 2, 2, 2, 2, 2, 2, 2, 2, 2, 2, 2, 2, 2, 2, 2, 2, 2, 2, 2, 2] : List Nat).getD k 0
def o_of (k : Nat) : Nat := ([0, 0, 0, 1, 2, 3, 4, 5, 6, 7, 8, 9, 10, 10, 10, 10, 10, 10, 10, 10, 10, 10, 10, 10, 10, 10, 10, 10, 10, 10, 10, 10, 10, 10, 10, 10, 10, 10, 10, 10, 10, 10, 10, 10, 10, 10, 10, 10, 10, 10, 10, 10, 10, 10, 10, 10, 10, 10, 10, 10, 10, 10, 10, 10, 10, 10, 10, 10] : List Nat).getD k 0
def o_pf (k : Nat) : Nat := ([0, 0, 1, 1, 1, 1, 1, 1, 1, 1, 1, 1, 1, 1, 1, 1, 1, 1, 1, 1, 1, 1, 1, 1, 1, 1, 2, 2, 2, 2, 2, 2, 2, 2, 2, 2, 2, 2, 2, 2, 2, 2, 2, 2, 2, 2, 2, 2, 2, 2, 2, 2, 2, 2, 2, 2, 2, 2, 2, 2, 2, 2, 2, 2, 2, 2, 2, 2] : List Nat).getD k 0
def o_tf (k : Nat) : Nat := ([0, 0, 0, 0, 0, 0, 0, 0, 0, 0, 0, 0, 0, 192, 381, 578, 775, 939, 1136, 1318, 1490, 1672, 1869, 2056, 2065, 2073, 2073, 2265, 2462, 2651, 2796, 2796, 2807, 2967, 3129, 3328, 3337, 3482, 3644, 3644, 3653, 3809, 3992, 4125, 4223, 4317, 4487, 4649, 4789, 4904, 5092, 5094, 5267, 5269, 5270, 5413, 5612, 5800, 5998, 6181, 6374, 6562, 6716, 6885, 7014, 7129, 7151, 7312] : List Nat).getD k 0
def o_mf (k : Nat) : Nat := ([0, 0, 0, 0, 0, 0, 0, 0, 0, 0, 0, 0, 0, 126720, 252010, 381780, 512550, 623790, 753560, 873180, 983700, 1105320, 1234090, 1358760, 1363050, 1369530, 1369530, 1496250, 1627020, 1751310, 1847160, 1847160, 1856070, 1960270, 2066490, 2198880, 2206170, 2302020, 2405840, 2405840, 2411730, 2516490, 2635920, 2723050, 2787230, 2849770, 2964870, 3069890, 3163290, 3237840, 3361320, 3362940, 3479270, 3480090, 3480500, 3575130, 3704720, 3829800, 3958980, 4082010, 4209140, 4334220, 4433360, 4547250, 4630140, 4708890, 4719710, 4828320] : List Nat).getD k 0
def o_qg (k : Nat) : Nat := ([2, 2, 2, 2, 2, 2, 2, 2, 2, 2, 2, 2, 2, 2, 2, 2, 2, 2, 2, 2, 2, 2, 2, 2, 2, 2, 2, 2, 2, 2, 2, 2, 2, 2, 2, 2, 2, 2, 2, 2, 2, 2, 2, 2, 2, 2, 2, 2, 2] : List Nat).getD k 0
def o_og (k : Nat) : Nat := ([10, 10, 10, 10, 10, 10, 10, 10, 10, 10, 10, 10, 10, 10, 10, 10, 10, 10, 10, 10, 10, 10, 10, 10, 10, 10, 10, 10, 10, 10, 10, 10, 10, 10, 10, 10, 10, 10, 10, 10, 10, 10, 10, 10, 10, 10, 10, 10, 10] : List Nat).getD k 0
def o_pg (k : Nat) : Nat := ([2, 2, 2, 2, 2, 2, 2, 2, 3, 3, 3, 3, 3, 3, 3, 3, 4, 4, 4, 4, 4, 4, 5, 5, 6, 6, 6, 6, 6, 6, 6, 6, 6, 6, 6, 6, 6, 6, 6, 6, 6, 6, 6, 6, 6, 6, 6, 6, 6] : List Nat).getD k 0
def o_tg (k : Nat) : Nat := ([7312, 7317, 7515, 7636, 7636, 7722, 7722, 7722, 7722, 7722, 7728, 7728, 7739, 7739, 7745, 7745, 7745, 7745, 7753, 7753, 7761, 7761, 7761, 7761, 7761, 7953, 8104, 8293, 8293, 8490, 8678, 8875, 9063, 9227, 9237, 9434, 9586, 9768, 9966, 10138, 10334, 10516, 10700, 10897, 11085, 11272, 11457, 11466, 11643] : List Nat).getD k 0
def o_mg (k : Nat) : Nat := ([4828320, 4832370, 4963950, 5040360, 5040360, 5097820, 5097820, 5097820, 5097820, 5097820, 5100480, 5100480, 5109390, 5109390, 5114250, 5114250, 5114250, 5114250, 5120730, 5120730, 5125810, 5125810, 5125810, 5125810, 5125810, 5252530, 5350440, 5475930, 5475930, 5604700, 5729780, 5858550, 5983630, 6091470, 6099570, 6230340, 6330060, 6450480, 6581860, 6692580, 6822540, 6941160, 7062800, 7192170, 7316650, 7441320, 7565170, 7568860, 7688430] : List Nat).getD k 0
def o_chk (x : Nat → Int32) (N : Nat) (qf of1 pf tf mf : Nat → Nat) : Bool :=
  (List.range N).all (fun k => decide (o_step (x k) (qf k) (of1 k) (pf k) (tf k) = some ((qf (k + 1), of1 (k + 1), pf (k + 1), tf (k + 1)), mf (k + 1) - mf k)) && decide (mf k ≤ mf (k + 1)))
def o_bnd (N : Nat) (qf of1 pf tf : Nat → Nat) : Bool :=
  (List.range (N + 1)).all (fun k => decide (qf k ≤ 6) && decide (of1 k ≤ 10) && decide (pf k ≤ 20) && decide (tf k < 1000000))
theorem o_run_of {x : Nat → Int32} {N : Nat} {qf of1 pf tf mf : Nat → Nat} (h : o_chk x N qf of1 pf tf mf = true) (hb : o_bnd N qf of1 pf tf = true) : ORun x N qf of1 pf tf mf := by
  refine ⟨fun k hk => ?_, fun k hk => ?_⟩
  · have h1 := List.all_eq_true.mp h k (List.mem_range.mpr hk)
    rw [Bool.and_eq_true] at h1
    have h2 := of_decide_eq_true h1.1
    have h3 := of_decide_eq_true h1.2
    exact ⟨_, h2, by omega⟩
  · have h1 := List.all_eq_true.mp hb k (List.mem_range.mpr (by omega))
    simp only [Bool.and_eq_true, decide_eq_true_eq] at h1
    exact ⟨h1.1.1.1, h1.1.1.2, h1.1.2, h1.2⟩
theorem o_N67 : 24 + onb (o_xs 0) 44 = 67 := by decide +kernel
theorem o_start : o_qf 0 = 0 ∧ o_of 0 = 0 ∧ o_pf 0 = 0 ∧ o_tf 0 = 0 ∧ o_mf 0 = 0 := ⟨rfl, rfl, rfl, rfl, rfl⟩
theorem o_cont : o_qg 0 = o_qf 67 ∧ o_og 0 = o_of 67 ∧ o_pg 0 = o_pf 67 ∧ o_tg 0 = o_tf 67 ∧ o_mg 0 = o_mf 67 := ⟨rfl, rfl, rfl, rfl, rfl⟩
theorem o_end : 7301315 ≤ o_mg 48 := by decide +kernel
set_option maxRecDepth 100000 in
theorem o_run1 : ORun (o_xk o_xs) 67 o_qf o_of o_pf o_tf o_mf := o_run_of (by decide +kernel) (by decide +kernel)
set_option maxRecDepth 100000 in
theorem o_run2 : ORun (o_yk o_xs) 48 o_qg o_og o_pg o_tg o_mg := o_run_of (by decide +kernel) (by decide +kernel)
end RUN
end
section
theorem zz_t1 : start1.about.slotsUsed = start1.about.slotsUsed := rfl
theorem zz_t2 : ListsClaimed_1 := lists_1
end
