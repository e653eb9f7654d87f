set_option maxHeartbeats 4000000 in
set_option maxRecDepth 100000 in
theorem c_L_addQuarter (l : Launch) (hfl : l.flags = flags0) (G : va_G) (cI cZ cL : ClassId) (h : Nat) (a : Nat → Nat) (F : Nat → Nat → Int32) (nq no np : Nat) (sh nw : Int32) (ao : Nat) (g : Nat → Int64) (sz : Nat) (hnq : nq ≤ 6) : Met l yL_addQuarter wsL_addQuarter ({ frames := 7, cells := 1, slots := 6, locals := 103 } : Room) (va_Pc [.ref h, .ref ao] (wPreL G (ty3 cI cZ cL) ((Dk cI cZ h a F nq no np sh nw) ++ [(ao, .inl (cL, 1, .inr (.inl g)))]) sz)) (va_Qi (fun (r : Int32) (u : Nat → Int64) => r = k1 (!decide (nq = 6)) ∧ (k1 (!decide (nq = 6)) = 0 → u 0 = (nI nq).toInt64)) (fun u => wP G (ty3 cI cZ cL) ((Dk cI cZ h a F (nx (k1 (!decide (nq = 6))) (nq + 1) nq) no np sh nw) ++ [(ao, .inl (cL, 1, .inr (.inl u)))]) (va_A ((Dk cI cZ h a F nq no np sh nw) ++ [(ao, .inl (cL, 1, .inr (.inl g)))]) sz)) (va_A ((Dk cI cZ h a F nq no np sh nw) ++ [(ao, .inl (cL, 1, .inr (.inl g)))]) sz)) 1 6 (va_A ((Dk cI cZ h a F nq no np sh nw) ++ [(ao, .inl (cL, 1, .inr (.inl g)))]) sz) := by
  refine w_metW (cc := cL_addQuarter) (maxL := 3) (ret := (some .int)) (hh := [(0, 8, 11, 13)]) (by decide) rfl (Nat.le_of_ble_eq_true rfl) ?_
  intro pg e s m below meth cd hx hb hml hr hts hown hlocks hnm htab hZ hNn hK hsz hP hD hA hS ls hl
  have hown : s.vm.findClass RL = some m.cls := hown
  have hl : lv_has ls 3 [(0, .ref h), (1, .ref ao)] := hl
  generalize hAe : va_A ((Dk cI cZ h a F nq no np sh nw) ++ [(ao, .inl (cL, 1, .inr (.inl g)))]) sz = A at hD hA hS hZ ⊢
  refine lv_aload_n hx hb dL_addQuarter_0 rfl (lv_at hl 1 rfl) ?_
  refine lv_iconst (v := 0) hx hb dL_addQuarter_1 (by decide) ?_
  refine lv_aload_n hx hb dL_addQuarter_2 rfl (lv_at hl 0 rfl) ?_
  refine w_cat_i (wr := [(ao, .inl (cL, 1, .inr (.inl g)))]) (vx_runV (As := []) (rest := [.int 0, .ref ao]) ⟨hx, hb, hml, hown, hts⟩ (cx_X0_addQuarter l hfl G cI cZ h a F nq no np sh nw s.heap.size  (by omega)) (cwV 0 hts gL_addQuarter_X0_addQuarter rfl rfl rfl (by decide +kernel) ⟨(Nat.le_of_ble_eq_true rfl), (Nat.le_of_ble_eq_true rfl)⟩) ⟨wPreX_blind, va_recv hK hP (ci := 0) (q0 := 0) rfl rfl, w_preX (hK.sub [0, 1] rfl) (hP.sub [0, 1, 2, 3, 4, 5, 6, 7, 8, 9, 10, 11] rfl) (hD.sub [0, 1, 2, 3, 4, 5, 6, 7, 8, 9, 10, 11] (by decide) rfl) (va_free hD hS hA [0, 1, 2, 3, 4, 5, 6, 7, 8, 9, 10, 11] rfl) hS hZ⟩ rfl rfl hl.1 rfl (lv_room (Nat.le_of_ble_eq_true rfl)) dL_addQuarter_3 ⟨(Nat.le_of_ble_eq_true rfl), (Nat.le_of_ble_eq_true rfl)⟩) hP hD hS hA [0, 1, 2, 3, 4, 5, 6, 7, 8, 9, 10, 11] [12] rfl rfl (by decide) (by decide) (fun E ce q9 H locs hbad hP hD hS hce hcv hcl => ?_) (fun r u H locs hw hP hD hS => ?_)
  · have hP := hP.sub (ws' := (Dk cI cZ h a F nq no np sh nw) ++ [(ao, .inl (cL, 1, .inr (.inl g)))]) [1, 2, 3, 4, 5, 6, 7, 8, 9, 10, 11, 12, 0] rfl
    have hD := hD.sub (ws' := (Dk cI cZ h a F nq no np sh nw) ++ [(ao, .inl (cL, 1, .inr (.inl g)))]) [1, 2, 3, 4, 5, 6, 7, 8, 9, 10, 11, 12, 0] (by decide) rfl
    obtain ⟨rfl, hk⟩ := hbad
    refine vx_catch (name := "java/lang/IllegalStateException") hown [] ⟨0, 8, 11, 13⟩ [] htab (fun z h => nomatch h) (by decide) (by decide) (hts (.classLink RL 13 "java/lang/IllegalStateException") (by decide +kernel)) (hZ.2.2.1 (.castable xS xS) (by decide +kernel) _) hce hcv hcl ?_
    refine lv_astore_n (lv' := [(2, .ref q9), (0, .ref h), (1, .ref ao)]) hx hb dL_addQuarter_11 rfl hl (by decide) rfl (fun ls hl => ?_)
    refine lv_iconst (v := 1) hx hb dL_addQuarter_12 (by decide) ?_
    have hP : va_P G vwCl ((Dk cI cZ h a F (nx (k1 (!decide (nq = 6))) (nq + 1) nq) no np sh nw) ++ [(ao, .inl (cL, 1, .inr (.inl g)))]) H := by simp only [hk, nx1]; exact hP
    have hD : va_D A ((Dk cI cZ h a F (nx (k1 (!decide (nq = 6))) (nq + 1) nq) no np sh nw) ++ [(ao, .inl (cL, 1, .inr (.inl g)))]) := by simp only [hk, nx1]; exact hD
    exact w_iret g hx hb hr hlocks hK hP hD hS (Nat.le_of_ble_eq_true rfl) (Nat.le_of_ble_eq_true rfl) dL_addQuarter_13 ⟨hk.symm, fun hh9 => by rw [hk] at hh9; exact absurd hh9 (by decide)⟩
  · obtain ⟨hk, hr9⟩ := (show k1 (!decide (nq = 6)) = 0 ∧ r = nI nq from hw)
    subst r
    have hP := hP.sub (ws' := (Dk cI cZ h a F (nq + 1) no np sh nw) ++ [(ao, .inl (cL, 1, .inr (.inl g)))]) [1, 2, 3, 4, 5, 6, 7, 8, 9, 10, 11, 12, 0] rfl
    have hD := hD.sub (ws' := (Dk cI cZ h a F (nq + 1) no np sh nw) ++ [(ao, .inl (cL, 1, .inr (.inl g)))]) [1, 2, 3, 4, 5, 6, 7, 8, 9, 10, 11, 12, 0] (by decide) rfl
    refine lv_i2l (v := (nI nq).toInt64) hx hb dL_addQuarter_6 rfl ?_
    refine va_last hx hb hK hP hD hS 12 2 rfl rfl (f := g) (x := (nI nq).toInt64) (show vp_in 0 1 from vp_in_nI (n := 0) (by omega) (by omega)) dL_addQuarter_7 (fun H locs hP hD hS => ?_)
    rw [sb_cl0] at hP hD
    have hP : va_P G vwCl ((Dk cI cZ h a F (nq + 1) no np sh nw) ++ [(ao, .inl (cL, 1, .inr (.inl (vp_updL g 0 ((nI nq).toInt64)))))]) H := hP
    have hD : va_D A ((Dk cI cZ h a F (nq + 1) no np sh nw) ++ [(ao, .inl (cL, 1, .inr (.inl (vp_updL g 0 ((nI nq).toInt64)))))]) := hD
    refine lv_goto (tgt := 14) hx hb dL_addQuarter_8 (by decide) ?_
    refine lv_iconst (v := 0) hx hb dL_addQuarter_14 (by decide) ?_
    have hP : va_P G vwCl ((Dk cI cZ h a F (nx (k1 (!decide (nq = 6))) (nq + 1) nq) no np sh nw) ++ [(ao, .inl (cL, 1, .inr (.inl (vp_updL g 0 ((nI nq).toInt64)))))]) H := by simp only [hk, nx0]; exact hP
    have hD : va_D A ((Dk cI cZ h a F (nx (k1 (!decide (nq = 6))) (nq + 1) nq) no np sh nw) ++ [(ao, .inl (cL, 1, .inr (.inl (vp_updL g 0 ((nI nq).toInt64)))))]) := by simp only [hk, nx0]; exact hD
    exact w_iret (vp_updL g 0 ((nI nq).toInt64)) hx hb hr hlocks hK hP hD hS (Nat.le_of_ble_eq_true rfl) (Nat.le_of_ble_eq_true rfl) dL_addQuarter_15 ⟨hk.symm, fun _ => pk_uLs⟩
set_option maxHeartbeats 4000000 in
set_option maxRecDepth 100000 in
theorem c_L_addPerson (l : Launch) (hfl : l.flags = flags0) (G : va_G) (cI cZ cL : ClassId) (h : Nat) (a : Nat → Nat) (F : Nat → Nat → Int32) (nq no np : Nat) (sh nw : Int32) (ao : Nat) (g : Nat → Int64) (sz : Nat) (x : Int32) (hnp : np ≤ 20) : Met l yL_addPerson wsL_addPerson ({ frames := 8, cells := 2, slots := 12, locals := 124 } : Room) (va_Pc [.ref h, .int x, .ref ao] (wPreL G (ty3 cI cZ cL) ((Dk cI cZ h a F nq no np sh nw) ++ [(ao, .inl (cL, 1, .inr (.inl g)))]) sz)) (va_Qi (fun (r : Int32) (u : Nat → Int64) => r = k2 (p_in x 8) (!decide (np = 20)) ∧ (k2 (p_in x 8) (!decide (np = 20)) = 0 → u 0 = (nI np).toInt64)) (fun u => wP G (ty3 cI cZ cL) ((Dk cI cZ h a (nx (k2 (p_in x 8) (!decide (np = 20))) (n_pe F np x) F) nq no (nx (k2 (p_in x 8) (!decide (np = 20))) (np + 1) np) sh nw) ++ [(ao, .inl (cL, 1, .inr (.inl u)))]) (va_A ((Dk cI cZ h a F nq no np sh nw) ++ [(ao, .inl (cL, 1, .inr (.inl g)))]) sz)) (va_A ((Dk cI cZ h a F nq no np sh nw) ++ [(ao, .inl (cL, 1, .inr (.inl g)))]) sz)) 2 12 (va_A ((Dk cI cZ h a F nq no np sh nw) ++ [(ao, .inl (cL, 1, .inr (.inl g)))]) sz) := by
  refine w_metW (cc := cL_addPerson) (maxL := 4) (ret := (some .int)) (hh := [(0, 9, 12, 19), (0, 9, 15, 13)]) (by decide) rfl (Nat.le_of_ble_eq_true rfl) ?_
  intro pg e s m below meth cd hx hb hml hr hts hown hlocks hnm htab hZ hNn hK hsz hP hD hA hS ls hl
  have hown : s.vm.findClass RL = some m.cls := hown
  have hl : lv_has ls 4 [(0, .ref h), (1, .int x), (2, .ref ao)] := hl
  generalize hAe : va_A ((Dk cI cZ h a F nq no np sh nw) ++ [(ao, .inl (cL, 1, .inr (.inl g)))]) sz = A at hD hA hS hZ ⊢
  refine lv_aload_n hx hb dL_addPerson_0 rfl (lv_at hl 2 rfl) ?_
  refine lv_iconst (v := 0) hx hb dL_addPerson_1 (by decide) ?_
  refine lv_aload_n hx hb dL_addPerson_2 rfl (lv_at hl 0 rfl) ?_
  refine lv_iload_n hx hb dL_addPerson_3 rfl (lv_at hl 1 rfl) ?_
  refine w_cat_i (wr := [(ao, .inl (cL, 1, .inr (.inl g)))]) (vx_runV (As := [.int x]) (rest := [.int 0, .ref ao]) ⟨hx, hb, hml, hown, hts⟩ (cx_X0_addPerson l hfl G cI cZ h a F nq no np sh nw s.heap.size x (by omega)) (cwV 1 hts gL_addPerson_X0_addPerson rfl rfl rfl (by decide +kernel) ⟨(Nat.le_of_ble_eq_true rfl), (Nat.le_of_ble_eq_true rfl)⟩) ⟨wPreX_blind, va_recv hK hP (ci := 0) (q0 := 0) rfl rfl, w_preX (hK.sub [0, 1] rfl) (hP.sub [0, 1, 2, 3, 4, 5, 6, 7, 8, 9, 10, 11] rfl) (hD.sub [0, 1, 2, 3, 4, 5, 6, 7, 8, 9, 10, 11] (by decide) rfl) (va_free hD hS hA [0, 1, 2, 3, 4, 5, 6, 7, 8, 9, 10, 11] rfl) hS hZ⟩ rfl rfl hl.1 rfl (lv_room (Nat.le_of_ble_eq_true rfl)) dL_addPerson_4 ⟨(Nat.le_of_ble_eq_true rfl), (Nat.le_of_ble_eq_true rfl)⟩) hP hD hS hA [0, 1, 2, 3, 4, 5, 6, 7, 8, 9, 10, 11] [12] rfl rfl (by decide) (by decide) (fun E ce q9 H locs hbad hP hD hS hce hcv hcl => ?_) (fun r u H locs hw hP hD hS => ?_)
  · have hP := hP.sub (ws' := (Dk cI cZ h a F nq no np sh nw) ++ [(ao, .inl (cL, 1, .inr (.inl g)))]) [1, 2, 3, 4, 5, 6, 7, 8, 9, 10, 11, 12, 0] rfl
    have hD := hD.sub (ws' := (Dk cI cZ h a F nq no np sh nw) ++ [(ao, .inl (cL, 1, .inr (.inl g)))]) [1, 2, 3, 4, 5, 6, 7, 8, 9, 10, 11, 12, 0] (by decide) rfl
    rcases hbad with ⟨rfl, hk⟩ | ⟨rfl, hk⟩
    · skip
      refine vx_catch (name := "java/lang/IndexOutOfBoundsException") hown [] ⟨0, 9, 12, 19⟩ [⟨0, 9, 15, 13⟩] htab (fun z h => nomatch h) (by decide) (by decide) (hts (.classLink RL 19 "java/lang/IndexOutOfBoundsException") (by decide +kernel)) (hZ.2.2.1 (.castable xI xI) (by decide +kernel) _) hce hcv hcl ?_
      refine lv_astore_n (lv' := [(3, .ref q9), (0, .ref h), (1, .int x), (2, .ref ao)]) hx hb dL_addPerson_12 rfl hl (by decide) rfl (fun ls hl => ?_)
      refine lv_iconst (v := 1) hx hb dL_addPerson_13 (by decide) ?_
      have hP : va_P G vwCl ((Dk cI cZ h a (nx (k2 (p_in x 8) (!decide (np = 20))) (n_pe F np x) F) nq no (nx (k2 (p_in x 8) (!decide (np = 20))) (np + 1) np) sh nw) ++ [(ao, .inl (cL, 1, .inr (.inl g)))]) H := by simp only [hk, nx1]; exact hP
      have hD : va_D A ((Dk cI cZ h a (nx (k2 (p_in x 8) (!decide (np = 20))) (n_pe F np x) F) nq no (nx (k2 (p_in x 8) (!decide (np = 20))) (np + 1) np) sh nw) ++ [(ao, .inl (cL, 1, .inr (.inl g)))]) := by simp only [hk, nx1]; exact hD
      exact w_iret g hx hb hr hlocks hK hP hD hS (Nat.le_of_ble_eq_true rfl) (Nat.le_of_ble_eq_true rfl) dL_addPerson_14 ⟨hk.symm, fun hh9 => by rw [hk] at hh9; exact absurd hh9 (by decide)⟩
    · skip
      refine vx_catch (name := "java/lang/IllegalStateException") hown [⟨0, 9, 12, 19⟩] ⟨0, 9, 15, 13⟩ [] htab (fun z h => by cases List.mem_singleton.mp h; exact Or.inr ⟨by decide, "java/lang/IndexOutOfBoundsException", hts (.classLink RL 19 "java/lang/IndexOutOfBoundsException") (by decide +kernel), hNn.1⟩) (by decide) (by decide) (hts (.classLink RL 13 "java/lang/IllegalStateException") (by decide +kernel)) (hZ.2.2.1 (.castable xS xS) (by decide +kernel) _) hce hcv hcl ?_
      refine lv_astore_n (lv' := [(3, .ref q9), (0, .ref h), (1, .int x), (2, .ref ao)]) hx hb dL_addPerson_15 rfl hl (by decide) rfl (fun ls hl => ?_)
      refine lv_iconst (v := 2) hx hb dL_addPerson_16 (by decide) ?_
      have hP : va_P G vwCl ((Dk cI cZ h a (nx (k2 (p_in x 8) (!decide (np = 20))) (n_pe F np x) F) nq no (nx (k2 (p_in x 8) (!decide (np = 20))) (np + 1) np) sh nw) ++ [(ao, .inl (cL, 1, .inr (.inl g)))]) H := by simp only [hk, nx2]; exact hP
      have hD : va_D A ((Dk cI cZ h a (nx (k2 (p_in x 8) (!decide (np = 20))) (n_pe F np x) F) nq no (nx (k2 (p_in x 8) (!decide (np = 20))) (np + 1) np) sh nw) ++ [(ao, .inl (cL, 1, .inr (.inl g)))]) := by simp only [hk, nx2]; exact hD
      exact w_iret g hx hb hr hlocks hK hP hD hS (Nat.le_of_ble_eq_true rfl) (Nat.le_of_ble_eq_true rfl) dL_addPerson_17 ⟨hk.symm, fun hh9 => by rw [hk] at hh9; exact absurd hh9 (by decide)⟩
  · obtain ⟨hk, hr9⟩ := (show k2 (p_in x 8) (!decide (np = 20)) = 0 ∧ r = nI np from hw)
    subst r
    have hP := hP.sub (ws' := (Dk cI cZ h a (n_pe F np x) nq no (np + 1) sh nw) ++ [(ao, .inl (cL, 1, .inr (.inl g)))]) [1, 2, 3, 4, 5, 6, 7, 8, 9, 10, 11, 12, 0] rfl
    have hD := hD.sub (ws' := (Dk cI cZ h a (n_pe F np x) nq no (np + 1) sh nw) ++ [(ao, .inl (cL, 1, .inr (.inl g)))]) [1, 2, 3, 4, 5, 6, 7, 8, 9, 10, 11, 12, 0] (by decide) rfl
    refine lv_i2l (v := (nI np).toInt64) hx hb dL_addPerson_7 rfl ?_
    refine va_last hx hb hK hP hD hS 12 2 rfl rfl (f := g) (x := (nI np).toInt64) (show vp_in 0 1 from vp_in_nI (n := 0) (by omega) (by omega)) dL_addPerson_8 (fun H locs hP hD hS => ?_)
    rw [sb_cl0] at hP hD
    have hP : va_P G vwCl ((Dk cI cZ h a (n_pe F np x) nq no (np + 1) sh nw) ++ [(ao, .inl (cL, 1, .inr (.inl (vp_updL g 0 ((nI np).toInt64)))))]) H := hP
    have hD : va_D A ((Dk cI cZ h a (n_pe F np x) nq no (np + 1) sh nw) ++ [(ao, .inl (cL, 1, .inr (.inl (vp_updL g 0 ((nI np).toInt64)))))]) := hD
    refine lv_goto (tgt := 18) hx hb dL_addPerson_9 (by decide) ?_
    refine lv_iconst (v := 0) hx hb dL_addPerson_18 (by decide) ?_
    have hP : va_P G vwCl ((Dk cI cZ h a (nx (k2 (p_in x 8) (!decide (np = 20))) (n_pe F np x) F) nq no (nx (k2 (p_in x 8) (!decide (np = 20))) (np + 1) np) sh nw) ++ [(ao, .inl (cL, 1, .inr (.inl (vp_updL g 0 ((nI np).toInt64)))))]) H := by simp only [hk, nx0]; exact hP
    have hD : va_D A ((Dk cI cZ h a (nx (k2 (p_in x 8) (!decide (np = 20))) (n_pe F np x) F) nq no (nx (k2 (p_in x 8) (!decide (np = 20))) (np + 1) np) sh nw) ++ [(ao, .inl (cL, 1, .inr (.inl (vp_updL g 0 ((nI np).toInt64)))))]) := by simp only [hk, nx0]; exact hD
    exact w_iret (vp_updL g 0 ((nI np).toInt64)) hx hb hr hlocks hK hP hD hS (Nat.le_of_ble_eq_true rfl) (Nat.le_of_ble_eq_true rfl) dL_addPerson_19 ⟨hk.symm, fun _ => pk_uLs⟩
set_option maxHeartbeats 4000000 in
set_option maxRecDepth 100000 in
theorem c_L_addOrder (l : Launch) (hfl : l.flags = flags0) (G : va_G) (cI cZ cL : ClassId) (h : Nat) (a : Nat → Nat) (F : Nat → Nat → Int32) (nq no np : Nat) (sh nw : Int32) (ao : Nat) (g : Nat → Int64) (sz : Nat) (x : Int32) (y : Int32) (z : Int32) (v : Int32) (hnq : nq ≤ 6) (hno : no ≤ 10) : Met l yL_addOrder wsL_addOrder ({ frames := 8, cells := 5, slots := 30, locals := 129 } : Room) (va_Pc [.ref h, .int x, .int y, .int z, .int v, .ref ao] (wPreL G (ty3 cI cZ cL) ((Dk cI cZ h a F nq no np sh nw) ++ [(ao, .inl (cL, 1, .inr (.inl g)))]) sz)) (va_Qi (fun (r : Int32) (u : Nat → Int64) => r = k3 (p_in x nq && p_in v 4) (p_wi y 0 4 && p_wi z 0 4) (!decide (no = 10)) ∧ (k3 (p_in x nq && p_in v 4) (p_wi y 0 4 && p_wi z 0 4) (!decide (no = 10)) = 0 → u 0 = (nI no).toInt64)) (fun u => wP G (ty3 cI cZ cL) ((Dk cI cZ h a (nx (k3 (p_in x nq && p_in v 4) (p_wi y 0 4 && p_wi z 0 4) (!decide (no = 10))) (n_or F no x y z v) F) nq (nx (k3 (p_in x nq && p_in v 4) (p_wi y 0 4 && p_wi z 0 4) (!decide (no = 10))) (no + 1) no) np sh nw) ++ [(ao, .inl (cL, 1, .inr (.inl u)))]) (va_A ((Dk cI cZ h a F nq no np sh nw) ++ [(ao, .inl (cL, 1, .inr (.inl g)))]) sz)) (va_A ((Dk cI cZ h a F nq no np sh nw) ++ [(ao, .inl (cL, 1, .inr (.inl g)))]) sz)) 5 30 (va_A ((Dk cI cZ h a F nq no np sh nw) ++ [(ao, .inl (cL, 1, .inr (.inl g)))]) sz) := by
  refine w_metW (cc := cL_addOrder) (maxL := 7) (ret := (some .int)) (hh := [(0, 14, 17, 19), (0, 14, 21, 25), (0, 14, 25, 13)]) (by decide) rfl (Nat.le_of_ble_eq_true rfl) ?_
  intro pg e s m below meth cd hx hb hml hr hts hown hlocks hnm htab hZ hNn hK hsz hP hD hA hS ls hl
  have hown : s.vm.findClass RL = some m.cls := hown
  have hl : lv_has ls 7 [(0, .ref h), (1, .int x), (2, .int y), (3, .int z), (4, .int v), (5, .ref ao)] := hl
  generalize hAe : va_A ((Dk cI cZ h a F nq no np sh nw) ++ [(ao, .inl (cL, 1, .inr (.inl g)))]) sz = A at hD hA hS hZ ⊢
  refine lv_aload hx hb dL_addOrder_0 (lv_at hl 5 rfl) ?_
  refine lv_iconst (v := 0) hx hb dL_addOrder_2 (by decide) ?_
  refine lv_aload_n hx hb dL_addOrder_3 rfl (lv_at hl 0 rfl) ?_
  refine lv_iload_n hx hb dL_addOrder_4 rfl (lv_at hl 1 rfl) ?_
  refine lv_iload_n hx hb dL_addOrder_5 rfl (lv_at hl 2 rfl) ?_
  refine lv_iload_n hx hb dL_addOrder_6 rfl (lv_at hl 3 rfl) ?_
  refine lv_iload hx hb dL_addOrder_7 (lv_at hl 4 rfl) ?_
  refine w_cat_i (wr := [(ao, .inl (cL, 1, .inr (.inl g)))]) (vx_runV (As := [.int x, .int y, .int z, .int v]) (rest := [.int 0, .ref ao]) ⟨hx, hb, hml, hown, hts⟩ (cx_X0_addOrder l hfl G cI cZ h a F nq no np sh nw s.heap.size x y z v (by omega) (by omega)) (cwV 4 hts gL_addOrder_X0_addOrder rfl rfl rfl (by decide +kernel) ⟨(Nat.le_of_ble_eq_true rfl), (Nat.le_of_ble_eq_true rfl)⟩) ⟨wPreX_blind, va_recv hK hP (ci := 0) (q0 := 0) rfl rfl, w_preX (hK.sub [0, 1] rfl) (hP.sub [0, 1, 2, 3, 4, 5, 6, 7, 8, 9, 10, 11] rfl) (hD.sub [0, 1, 2, 3, 4, 5, 6, 7, 8, 9, 10, 11] (by decide) rfl) (va_free hD hS hA [0, 1, 2, 3, 4, 5, 6, 7, 8, 9, 10, 11] rfl) hS hZ⟩ rfl rfl hl.1 rfl (lv_room (Nat.le_of_ble_eq_true rfl)) dL_addOrder_9 ⟨(Nat.le_of_ble_eq_true rfl), (Nat.le_of_ble_eq_true rfl)⟩) hP hD hS hA [0, 1, 2, 3, 4, 5, 6, 7, 8, 9, 10, 11] [12] rfl rfl (by decide) (by decide) (fun E ce q9 H locs hbad hP hD hS hce hcv hcl => ?_) (fun r u H locs hw hP hD hS => ?_)
  · have hP := hP.sub (ws' := (Dk cI cZ h a F nq no np sh nw) ++ [(ao, .inl (cL, 1, .inr (.inl g)))]) [1, 2, 3, 4, 5, 6, 7, 8, 9, 10, 11, 12, 0] rfl
    have hD := hD.sub (ws' := (Dk cI cZ h a F nq no np sh nw) ++ [(ao, .inl (cL, 1, .inr (.inl g)))]) [1, 2, 3, 4, 5, 6, 7, 8, 9, 10, 11, 12, 0] (by decide) rfl
    rcases hbad with ⟨rfl, hk⟩ | ⟨rfl, hk⟩ | ⟨rfl, hk⟩
    · skip
      refine vx_catch (name := "java/lang/IndexOutOfBoundsException") hown [] ⟨0, 14, 17, 19⟩ [⟨0, 14, 21, 25⟩, ⟨0, 14, 25, 13⟩] htab (fun z h => nomatch h) (by decide) (by decide) (hts (.classLink RL 19 "java/lang/IndexOutOfBoundsException") (by decide +kernel)) (hZ.2.2.1 (.castable xI xI) (by decide +kernel) _) hce hcv hcl ?_
      refine lv_astore (lv' := [(6, .ref q9), (0, .ref h), (1, .int x), (2, .int y), (3, .int z), (4, .int v), (5, .ref ao)]) hx hb dL_addOrder_17 hl (by decide) rfl (fun ls hl => ?_)
      refine lv_iconst (v := 1) hx hb dL_addOrder_19 (by decide) ?_
      have hP : va_P G vwCl ((Dk cI cZ h a (nx (k3 (p_in x nq && p_in v 4) (p_wi y 0 4 && p_wi z 0 4) (!decide (no = 10))) (n_or F no x y z v) F) nq (nx (k3 (p_in x nq && p_in v 4) (p_wi y 0 4 && p_wi z 0 4) (!decide (no = 10))) (no + 1) no) np sh nw) ++ [(ao, .inl (cL, 1, .inr (.inl g)))]) H := by simp only [hk, nx1]; exact hP
      have hD : va_D A ((Dk cI cZ h a (nx (k3 (p_in x nq && p_in v 4) (p_wi y 0 4 && p_wi z 0 4) (!decide (no = 10))) (n_or F no x y z v) F) nq (nx (k3 (p_in x nq && p_in v 4) (p_wi y 0 4 && p_wi z 0 4) (!decide (no = 10))) (no + 1) no) np sh nw) ++ [(ao, .inl (cL, 1, .inr (.inl g)))]) := by simp only [hk, nx1]; exact hD
      exact w_iret g hx hb hr hlocks hK hP hD hS (Nat.le_of_ble_eq_true rfl) (Nat.le_of_ble_eq_true rfl) dL_addOrder_20 ⟨hk.symm, fun hh9 => by rw [hk] at hh9; exact absurd hh9 (by decide)⟩
    · skip
      refine vx_catch (name := "java/lang/IllegalArgumentException") hown [⟨0, 14, 17, 19⟩] ⟨0, 14, 21, 25⟩ [⟨0, 14, 25, 13⟩] htab (fun z h => by cases List.mem_singleton.mp h; exact Or.inr ⟨by decide, "java/lang/IndexOutOfBoundsException", hts (.classLink RL 19 "java/lang/IndexOutOfBoundsException") (by decide +kernel), hNn.2.1⟩) (by decide) (by decide) (hts (.classLink RL 25 "java/lang/IllegalArgumentException") (by decide +kernel)) (hZ.2.2.1 (.castable xA xA) (by decide +kernel) _) hce hcv hcl ?_
      refine lv_astore (lv' := [(6, .ref q9), (0, .ref h), (1, .int x), (2, .int y), (3, .int z), (4, .int v), (5, .ref ao)]) hx hb dL_addOrder_21 hl (by decide) rfl (fun ls hl => ?_)
      refine lv_iconst (v := 2) hx hb dL_addOrder_23 (by decide) ?_
      have hP : va_P G vwCl ((Dk cI cZ h a (nx (k3 (p_in x nq && p_in v 4) (p_wi y 0 4 && p_wi z 0 4) (!decide (no = 10))) (n_or F no x y z v) F) nq (nx (k3 (p_in x nq && p_in v 4) (p_wi y 0 4 && p_wi z 0 4) (!decide (no = 10))) (no + 1) no) np sh nw) ++ [(ao, .inl (cL, 1, .inr (.inl g)))]) H := by simp only [hk, nx2]; exact hP
      have hD : va_D A ((Dk cI cZ h a (nx (k3 (p_in x nq && p_in v 4) (p_wi y 0 4 && p_wi z 0 4) (!decide (no = 10))) (n_or F no x y z v) F) nq (nx (k3 (p_in x nq && p_in v 4) (p_wi y 0 4 && p_wi z 0 4) (!decide (no = 10))) (no + 1) no) np sh nw) ++ [(ao, .inl (cL, 1, .inr (.inl g)))]) := by simp only [hk, nx2]; exact hD
      exact w_iret g hx hb hr hlocks hK hP hD hS (Nat.le_of_ble_eq_true rfl) (Nat.le_of_ble_eq_true rfl) dL_addOrder_24 ⟨hk.symm, fun hh9 => by rw [hk] at hh9; exact absurd hh9 (by decide)⟩
    · skip
      refine vx_catch (name := "java/lang/IllegalStateException") hown [⟨0, 14, 17, 19⟩, ⟨0, 14, 21, 25⟩] ⟨0, 14, 25, 13⟩ [] htab (fun z h => by rcases List.mem_cons.mp h with rfl | h; exact Or.inr ⟨by decide, "java/lang/IndexOutOfBoundsException", hts (.classLink RL 19 "java/lang/IndexOutOfBoundsException") (by decide +kernel), hNn.1⟩; cases List.mem_singleton.mp h; exact Or.inr ⟨by decide, "java/lang/IllegalArgumentException", hts (.classLink RL 25 "java/lang/IllegalArgumentException") (by decide +kernel), hNn.2.2⟩) (by decide) (by decide) (hts (.classLink RL 13 "java/lang/IllegalStateException") (by decide +kernel)) (hZ.2.2.1 (.castable xS xS) (by decide +kernel) _) hce hcv hcl ?_
      refine lv_astore (lv' := [(6, .ref q9), (0, .ref h), (1, .int x), (2, .int y), (3, .int z), (4, .int v), (5, .ref ao)]) hx hb dL_addOrder_25 hl (by decide) rfl (fun ls hl => ?_)
      refine lv_iconst (v := 3) hx hb dL_addOrder_27 (by decide) ?_
      have hP : va_P G vwCl ((Dk cI cZ h a (nx (k3 (p_in x nq && p_in v 4) (p_wi y 0 4 && p_wi z 0 4) (!decide (no = 10))) (n_or F no x y z v) F) nq (nx (k3 (p_in x nq && p_in v 4) (p_wi y 0 4 && p_wi z 0 4) (!decide (no = 10))) (no + 1) no) np sh nw) ++ [(ao, .inl (cL, 1, .inr (.inl g)))]) H := by simp only [hk, nx3]; exact hP
      have hD : va_D A ((Dk cI cZ h a (nx (k3 (p_in x nq && p_in v 4) (p_wi y 0 4 && p_wi z 0 4) (!decide (no = 10))) (n_or F no x y z v) F) nq (nx (k3 (p_in x nq && p_in v 4) (p_wi y 0 4 && p_wi z 0 4) (!decide (no = 10))) (no + 1) no) np sh nw) ++ [(ao, .inl (cL, 1, .inr (.inl g)))]) := by simp only [hk, nx3]; exact hD
      exact w_iret g hx hb hr hlocks hK hP hD hS (Nat.le_of_ble_eq_true rfl) (Nat.le_of_ble_eq_true rfl) dL_addOrder_28 ⟨hk.symm, fun hh9 => by rw [hk] at hh9; exact absurd hh9 (by decide)⟩
  · obtain ⟨hk, hr9⟩ := (show k3 (p_in x nq && p_in v 4) (p_wi y 0 4 && p_wi z 0 4) (!decide (no = 10)) = 0 ∧ r = nI no from hw)
    subst r
    have hP := hP.sub (ws' := (Dk cI cZ h a (n_or F no x y z v) nq (no + 1) np sh nw) ++ [(ao, .inl (cL, 1, .inr (.inl g)))]) [1, 2, 3, 4, 5, 6, 7, 8, 9, 10, 11, 12, 0] rfl
    have hD := hD.sub (ws' := (Dk cI cZ h a (n_or F no x y z v) nq (no + 1) np sh nw) ++ [(ao, .inl (cL, 1, .inr (.inl g)))]) [1, 2, 3, 4, 5, 6, 7, 8, 9, 10, 11, 12, 0] (by decide) rfl
    refine lv_i2l (v := (nI no).toInt64) hx hb dL_addOrder_12 rfl ?_
    refine va_last hx hb hK hP hD hS 12 2 rfl rfl (f := g) (x := (nI no).toInt64) (show vp_in 0 1 from vp_in_nI (n := 0) (by omega) (by omega)) dL_addOrder_13 (fun H locs hP hD hS => ?_)
    rw [sb_cl0] at hP hD
    have hP : va_P G vwCl ((Dk cI cZ h a (n_or F no x y z v) nq (no + 1) np sh nw) ++ [(ao, .inl (cL, 1, .inr (.inl (vp_updL g 0 ((nI no).toInt64)))))]) H := hP
    have hD : va_D A ((Dk cI cZ h a (n_or F no x y z v) nq (no + 1) np sh nw) ++ [(ao, .inl (cL, 1, .inr (.inl (vp_updL g 0 ((nI no).toInt64)))))]) := hD
    refine lv_goto (tgt := 29) hx hb dL_addOrder_14 (by decide) ?_
    refine lv_iconst (v := 0) hx hb dL_addOrder_29 (by decide) ?_
    have hP : va_P G vwCl ((Dk cI cZ h a (nx (k3 (p_in x nq && p_in v 4) (p_wi y 0 4 && p_wi z 0 4) (!decide (no = 10))) (n_or F no x y z v) F) nq (nx (k3 (p_in x nq && p_in v 4) (p_wi y 0 4 && p_wi z 0 4) (!decide (no = 10))) (no + 1) no) np sh nw) ++ [(ao, .inl (cL, 1, .inr (.inl (vp_updL g 0 ((nI no).toInt64)))))]) H := by simp only [hk, nx0]; exact hP
    have hD : va_D A ((Dk cI cZ h a (nx (k3 (p_in x nq && p_in v 4) (p_wi y 0 4 && p_wi z 0 4) (!decide (no = 10))) (n_or F no x y z v) F) nq (nx (k3 (p_in x nq && p_in v 4) (p_wi y 0 4 && p_wi z 0 4) (!decide (no = 10))) (no + 1) no) np sh nw) ++ [(ao, .inl (cL, 1, .inr (.inl (vp_updL g 0 ((nI no).toInt64)))))]) := by simp only [hk, nx0]; exact hD
    exact w_iret (vp_updL g 0 ((nI no).toInt64)) hx hb hr hlocks hK hP hD hS (Nat.le_of_ble_eq_true rfl) (Nat.le_of_ble_eq_true rfl) dL_addOrder_30 ⟨hk.symm, fun _ => pk_uLs⟩
set_option maxHeartbeats 4000000 in
set_option maxRecDepth 100000 in
theorem c_L_turnExempt (l : Launch) (hfl : l.flags = flags0) (G : va_G) (cI cZ cL : ClassId) (h : Nat) (a : Nat → Nat) (F : Nat → Nat → Int32) (nq no np : Nat) (sh nw : Int32) (ao : Nat) (g : Nat → Int64) (sz : Nat) (x : Int32) (t : Int32) (hno : no ≤ 10) : Met l yL_turnExempt wsL_turnExempt ({ frames := 8, cells := 2, slots := 12, locals := 125 } : Room) (va_Pc [.ref h, .int x, .int t, .ref ao] (wPreL G (ty3 cI cZ cL) ((Dk cI cZ h a F nq no np sh nw) ++ [(ao, .inl (cL, 1, .inr (.inl g)))]) sz)) (va_Qi (fun (r : Int32) (u : Nat → Int64) => r = k1 (p_in x no && p_in t 8) ∧ (k1 (p_in x no && p_in t 8) = 0 → u 0 = i2z (b2i (p_ex (n_ex F x.toNatClampNeg t) x.toNatClampNeg t)))) (fun u => wP G (ty3 cI cZ cL) ((Dk cI cZ h a (nx (k1 (p_in x no && p_in t 8)) (n_ex F x.toNatClampNeg t) F) nq no np sh nw) ++ [(ao, .inl (cL, 1, .inr (.inl u)))]) (va_A ((Dk cI cZ h a F nq no np sh nw) ++ [(ao, .inl (cL, 1, .inr (.inl g)))]) sz)) (va_A ((Dk cI cZ h a F nq no np sh nw) ++ [(ao, .inl (cL, 1, .inr (.inl g)))]) sz)) 2 12 (va_A ((Dk cI cZ h a F nq no np sh nw) ++ [(ao, .inl (cL, 1, .inr (.inl g)))]) sz) := by
  refine w_metW (cc := cL_turnExempt) (maxL := 5) (ret := (some .int)) (hh := [(0, 17, 20, 19)]) (by decide) rfl (Nat.le_of_ble_eq_true rfl) ?_
  intro pg e s m below meth cd hx hb hml hr hts hown hlocks hnm htab hZ hNn hK hsz hP hD hA hS ls hl
  have hown : s.vm.findClass RL = some m.cls := hown
  have hl : lv_has ls 5 [(0, .ref h), (1, .int x), (2, .int t), (3, .ref ao)] := hl
  generalize hAe : va_A ((Dk cI cZ h a F nq no np sh nw) ++ [(ao, .inl (cL, 1, .inr (.inl g)))]) sz = A at hD hA hS hZ ⊢
  refine lv_aload_n hx hb dL_turnExempt_0 rfl (lv_at hl 3 rfl) ?_
  refine lv_iconst (v := 0) hx hb dL_turnExempt_1 (by decide) ?_
  refine lv_aload_n hx hb dL_turnExempt_2 rfl (lv_at hl 0 rfl) ?_
  refine lv_iload_n hx hb dL_turnExempt_3 rfl (lv_at hl 1 rfl) ?_
  refine lv_iload_n hx hb dL_turnExempt_4 rfl (lv_at hl 2 rfl) ?_
  refine w_cat_i (wr := [(ao, .inl (cL, 1, .inr (.inl g)))]) (vx_runV (As := [.int x, .int t]) (rest := [.int 0, .ref ao]) ⟨hx, hb, hml, hown, hts⟩ (cx_X0_turnExempt l hfl G cI cZ h a F nq no np sh nw s.heap.size x t (by omega)) (cwV 2 hts gL_turnExempt_X0_turnExempt rfl rfl rfl (by decide +kernel) ⟨(Nat.le_of_ble_eq_true rfl), (Nat.le_of_ble_eq_true rfl)⟩) ⟨wPreX_blind, va_recv hK hP (ci := 0) (q0 := 0) rfl rfl, w_preX (hK.sub [0, 1] rfl) (hP.sub [0, 1, 2, 3, 4, 5, 6, 7, 8, 9, 10, 11] rfl) (hD.sub [0, 1, 2, 3, 4, 5, 6, 7, 8, 9, 10, 11] (by decide) rfl) (va_free hD hS hA [0, 1, 2, 3, 4, 5, 6, 7, 8, 9, 10, 11] rfl) hS hZ⟩ rfl rfl hl.1 rfl (lv_room (Nat.le_of_ble_eq_true rfl)) dL_turnExempt_5 ⟨(Nat.le_of_ble_eq_true rfl), (Nat.le_of_ble_eq_true rfl)⟩) hP hD hS hA [0, 1, 2, 3, 4, 5, 6, 7, 8, 9, 10, 11] [12] rfl rfl (by decide) (by decide) (fun E ce q9 H locs hbad hP hD hS hce hcv hcl => ?_) (fun r u H locs hw hP hD hS => ?_)
  · have hP := hP.sub (ws' := (Dk cI cZ h a F nq no np sh nw) ++ [(ao, .inl (cL, 1, .inr (.inl g)))]) [1, 2, 3, 4, 5, 6, 7, 8, 9, 10, 11, 12, 0] rfl
    have hD := hD.sub (ws' := (Dk cI cZ h a F nq no np sh nw) ++ [(ao, .inl (cL, 1, .inr (.inl g)))]) [1, 2, 3, 4, 5, 6, 7, 8, 9, 10, 11, 12, 0] (by decide) rfl
    obtain ⟨rfl, hk⟩ := hbad
    refine vx_catch (name := "java/lang/IndexOutOfBoundsException") hown [] ⟨0, 17, 20, 19⟩ [] htab (fun z h => nomatch h) (by decide) (by decide) (hts (.classLink RL 19 "java/lang/IndexOutOfBoundsException") (by decide +kernel)) (hZ.2.2.1 (.castable xI xI) (by decide +kernel) _) hce hcv hcl ?_
    refine lv_astore (lv' := [(4, .ref q9), (0, .ref h), (1, .int x), (2, .int t), (3, .ref ao)]) hx hb dL_turnExempt_20 hl (by decide) rfl (fun ls hl => ?_)
    refine lv_iconst (v := 1) hx hb dL_turnExempt_22 (by decide) ?_
    have hP : va_P G vwCl ((Dk cI cZ h a (nx (k1 (p_in x no && p_in t 8)) (n_ex F x.toNatClampNeg t) F) nq no np sh nw) ++ [(ao, .inl (cL, 1, .inr (.inl g)))]) H := by simp only [hk, nx1]; exact hP
    have hD : va_D A ((Dk cI cZ h a (nx (k1 (p_in x no && p_in t 8)) (n_ex F x.toNatClampNeg t) F) nq no np sh nw) ++ [(ao, .inl (cL, 1, .inr (.inl g)))]) := by simp only [hk, nx1]; exact hD
    exact w_iret g hx hb hr hlocks hK hP hD hS (Nat.le_of_ble_eq_true rfl) (Nat.le_of_ble_eq_true rfl) dL_turnExempt_23 ⟨hk.symm, fun hh9 => by rw [hk] at hh9; exact absurd hh9 (by decide)⟩
  · obtain ⟨hk, hr9⟩ := (show k1 (p_in x no && p_in t 8) = 0 ∧ r = b2i (p_ex (n_ex F x.toNatClampNeg t) x.toNatClampNeg t) from hw)
    subst r
    have hP := hP.sub (ws' := (Dk cI cZ h a (n_ex F x.toNatClampNeg t) nq no np sh nw) ++ [(ao, .inl (cL, 1, .inr (.inl g)))]) [1, 2, 3, 4, 5, 6, 7, 8, 9, 10, 11, 12, 0] rfl
    have hD := hD.sub (ws' := (Dk cI cZ h a (n_ex F x.toNatClampNeg t) nq no np sh nw) ++ [(ao, .inl (cL, 1, .inr (.inl g)))]) [1, 2, 3, 4, 5, 6, 7, 8, 9, 10, 11, 12, 0] (by decide) rfl
    refine w_selL hx hb dL_turnExempt_8 (by decide) dL_turnExempt_11 dL_turnExempt_12 (by decide) dL_turnExempt_15 ?_
    refine va_last hx hb hK hP hD hS 12 2 rfl rfl (f := g) (x := i2z (b2i (p_ex (n_ex F x.toNatClampNeg t) x.toNatClampNeg t))) (show vp_in 0 1 from vp_in_nI (n := 0) (by omega) (by omega)) dL_turnExempt_16 (fun H locs hP hD hS => ?_)
    rw [sb_cl0] at hP hD
    have hP : va_P G vwCl ((Dk cI cZ h a (n_ex F x.toNatClampNeg t) nq no np sh nw) ++ [(ao, .inl (cL, 1, .inr (.inl (vp_updL g 0 (i2z (b2i (p_ex (n_ex F x.toNatClampNeg t) x.toNatClampNeg t)))))))]) H := hP
    have hD : va_D A ((Dk cI cZ h a (n_ex F x.toNatClampNeg t) nq no np sh nw) ++ [(ao, .inl (cL, 1, .inr (.inl (vp_updL g 0 (i2z (b2i (p_ex (n_ex F x.toNatClampNeg t) x.toNatClampNeg t)))))))]) := hD
    refine lv_goto (tgt := 24) hx hb dL_turnExempt_17 (by decide) ?_
    refine lv_iconst (v := 0) hx hb dL_turnExempt_24 (by decide) ?_
    have hP : va_P G vwCl ((Dk cI cZ h a (nx (k1 (p_in x no && p_in t 8)) (n_ex F x.toNatClampNeg t) F) nq no np sh nw) ++ [(ao, .inl (cL, 1, .inr (.inl (vp_updL g 0 (i2z (b2i (p_ex (n_ex F x.toNatClampNeg t) x.toNatClampNeg t)))))))]) H := by simp only [hk, nx0]; exact hP
    have hD : va_D A ((Dk cI cZ h a (nx (k1 (p_in x no && p_in t 8)) (n_ex F x.toNatClampNeg t) F) nq no np sh nw) ++ [(ao, .inl (cL, 1, .inr (.inl (vp_updL g 0 (i2z (b2i (p_ex (n_ex F x.toNatClampNeg t) x.toNatClampNeg t)))))))]) := by simp only [hk, nx0]; exact hD
    exact w_iret (vp_updL g 0 (i2z (b2i (p_ex (n_ex F x.toNatClampNeg t) x.toNatClampNeg t)))) hx hb hr hlocks hK hP hD hS (Nat.le_of_ble_eq_true rfl) (Nat.le_of_ble_eq_true rfl) dL_turnExempt_25 ⟨hk.symm, fun _ => pk_uLs⟩
set_option maxHeartbeats 4000000 in
set_option maxRecDepth 100000 in
theorem c_L_turnOrder (l : Launch) (hfl : l.flags = flags0) (G : va_G) (cI cZ cL : ClassId) (h : Nat) (a : Nat → Nat) (F : Nat → Nat → Int32) (nq no np : Nat) (sh nw : Int32) (ao : Nat) (g : Nat → Int64) (sz : Nat) (x : Int32) (hno : no ≤ 10) : Met l yL_turnOrder wsL_turnOrder ({ frames := 8, cells := 1, slots := 6, locals := 124 } : Room) (va_Pc [.ref h, .int x, .ref ao] (wPreL G (ty3 cI cZ cL) ((Dk cI cZ h a F nq no np sh nw) ++ [(ao, .inl (cL, 1, .inr (.inl g)))]) sz)) (va_Qi (fun (r : Int32) (u : Nat → Int64) => r = k1 (p_in x no) ∧ (k1 (p_in x no) = 0 → u 0 = i2z (b2i (decide (F 4 x.toNatClampNeg = 0))))) (fun u => wP G (ty3 cI cZ cL) ((Dk cI cZ h a (nx (k1 (p_in x no)) (n_fo F x.toNatClampNeg) F) nq no np sh nw) ++ [(ao, .inl (cL, 1, .inr (.inl u)))]) (va_A ((Dk cI cZ h a F nq no np sh nw) ++ [(ao, .inl (cL, 1, .inr (.inl g)))]) sz)) (va_A ((Dk cI cZ h a F nq no np sh nw) ++ [(ao, .inl (cL, 1, .inr (.inl g)))]) sz)) 1 6 (va_A ((Dk cI cZ h a F nq no np sh nw) ++ [(ao, .inl (cL, 1, .inr (.inl g)))]) sz) := by
  refine w_metW (cc := cL_turnOrder) (maxL := 4) (ret := (some .int)) (hh := [(0, 16, 19, 19)]) (by decide) rfl (Nat.le_of_ble_eq_true rfl) ?_
  intro pg e s m below meth cd hx hb hml hr hts hown hlocks hnm htab hZ hNn hK hsz hP hD hA hS ls hl
  have hown : s.vm.findClass RL = some m.cls := hown
  have hl : lv_has ls 4 [(0, .ref h), (1, .int x), (2, .ref ao)] := hl
  generalize hAe : va_A ((Dk cI cZ h a F nq no np sh nw) ++ [(ao, .inl (cL, 1, .inr (.inl g)))]) sz = A at hD hA hS hZ ⊢
  refine lv_aload_n hx hb dL_turnOrder_0 rfl (lv_at hl 2 rfl) ?_
  refine lv_iconst (v := 0) hx hb dL_turnOrder_1 (by decide) ?_
  refine lv_aload_n hx hb dL_turnOrder_2 rfl (lv_at hl 0 rfl) ?_
  refine lv_iload_n hx hb dL_turnOrder_3 rfl (lv_at hl 1 rfl) ?_
  refine w_cat_i (wr := [(ao, .inl (cL, 1, .inr (.inl g)))]) (vx_runV (As := [.int x]) (rest := [.int 0, .ref ao]) ⟨hx, hb, hml, hown, hts⟩ (cx_X0_turnOrder l hfl G cI cZ h a F nq no np sh nw s.heap.size x (by omega)) (cwV 1 hts gL_turnOrder_X0_turnOrder rfl rfl rfl (by decide +kernel) ⟨(Nat.le_of_ble_eq_true rfl), (Nat.le_of_ble_eq_true rfl)⟩) ⟨wPreX_blind, va_recv hK hP (ci := 0) (q0 := 0) rfl rfl, w_preX (hK.sub [0, 1] rfl) (hP.sub [0, 1, 2, 3, 4, 5, 6, 7, 8, 9, 10, 11] rfl) (hD.sub [0, 1, 2, 3, 4, 5, 6, 7, 8, 9, 10, 11] (by decide) rfl) (va_free hD hS hA [0, 1, 2, 3, 4, 5, 6, 7, 8, 9, 10, 11] rfl) hS hZ⟩ rfl rfl hl.1 rfl (lv_room (Nat.le_of_ble_eq_true rfl)) dL_turnOrder_4 ⟨(Nat.le_of_ble_eq_true rfl), (Nat.le_of_ble_eq_true rfl)⟩) hP hD hS hA [0, 1, 2, 3, 4, 5, 6, 7, 8, 9, 10, 11] [12] rfl rfl (by decide) (by decide) (fun E ce q9 H locs hbad hP hD hS hce hcv hcl => ?_) (fun r u H locs hw hP hD hS => ?_)
  · have hP := hP.sub (ws' := (Dk cI cZ h a F nq no np sh nw) ++ [(ao, .inl (cL, 1, .inr (.inl g)))]) [1, 2, 3, 4, 5, 6, 7, 8, 9, 10, 11, 12, 0] rfl
    have hD := hD.sub (ws' := (Dk cI cZ h a F nq no np sh nw) ++ [(ao, .inl (cL, 1, .inr (.inl g)))]) [1, 2, 3, 4, 5, 6, 7, 8, 9, 10, 11, 12, 0] (by decide) rfl
    obtain ⟨rfl, hk⟩ := hbad
    refine vx_catch (name := "java/lang/IndexOutOfBoundsException") hown [] ⟨0, 16, 19, 19⟩ [] htab (fun z h => nomatch h) (by decide) (by decide) (hts (.classLink RL 19 "java/lang/IndexOutOfBoundsException") (by decide +kernel)) (hZ.2.2.1 (.castable xI xI) (by decide +kernel) _) hce hcv hcl ?_
    refine lv_astore_n (lv' := [(3, .ref q9), (0, .ref h), (1, .int x), (2, .ref ao)]) hx hb dL_turnOrder_19 rfl hl (by decide) rfl (fun ls hl => ?_)
    refine lv_iconst (v := 1) hx hb dL_turnOrder_20 (by decide) ?_
    have hP : va_P G vwCl ((Dk cI cZ h a (nx (k1 (p_in x no)) (n_fo F x.toNatClampNeg) F) nq no np sh nw) ++ [(ao, .inl (cL, 1, .inr (.inl g)))]) H := by simp only [hk, nx1]; exact hP
    have hD : va_D A ((Dk cI cZ h a (nx (k1 (p_in x no)) (n_fo F x.toNatClampNeg) F) nq no np sh nw) ++ [(ao, .inl (cL, 1, .inr (.inl g)))]) := by simp only [hk, nx1]; exact hD
    exact w_iret g hx hb hr hlocks hK hP hD hS (Nat.le_of_ble_eq_true rfl) (Nat.le_of_ble_eq_true rfl) dL_turnOrder_21 ⟨hk.symm, fun hh9 => by rw [hk] at hh9; exact absurd hh9 (by decide)⟩
  · obtain ⟨hk, hr9⟩ := (show k1 (p_in x no) = 0 ∧ r = b2i (decide (F 4 x.toNatClampNeg = 0)) from hw)
    subst r
    have hP := hP.sub (ws' := (Dk cI cZ h a (n_fo F x.toNatClampNeg) nq no np sh nw) ++ [(ao, .inl (cL, 1, .inr (.inl g)))]) [1, 2, 3, 4, 5, 6, 7, 8, 9, 10, 11, 12, 0] rfl
    have hD := hD.sub (ws' := (Dk cI cZ h a (n_fo F x.toNatClampNeg) nq no np sh nw) ++ [(ao, .inl (cL, 1, .inr (.inl g)))]) [1, 2, 3, 4, 5, 6, 7, 8, 9, 10, 11, 12, 0] (by decide) rfl
    refine w_selL hx hb dL_turnOrder_7 (by decide) dL_turnOrder_10 dL_turnOrder_11 (by decide) dL_turnOrder_14 ?_
    refine va_last hx hb hK hP hD hS 12 2 rfl rfl (f := g) (x := i2z (b2i (decide (F 4 x.toNatClampNeg = 0)))) (show vp_in 0 1 from vp_in_nI (n := 0) (by omega) (by omega)) dL_turnOrder_15 (fun H locs hP hD hS => ?_)
    rw [sb_cl0] at hP hD
    have hP : va_P G vwCl ((Dk cI cZ h a (n_fo F x.toNatClampNeg) nq no np sh nw) ++ [(ao, .inl (cL, 1, .inr (.inl (vp_updL g 0 (i2z (b2i (decide (F 4 x.toNatClampNeg = 0))))))))]) H := hP
    have hD : va_D A ((Dk cI cZ h a (n_fo F x.toNatClampNeg) nq no np sh nw) ++ [(ao, .inl (cL, 1, .inr (.inl (vp_updL g 0 (i2z (b2i (decide (F 4 x.toNatClampNeg = 0))))))))]) := hD
    refine lv_goto (tgt := 22) hx hb dL_turnOrder_16 (by decide) ?_
    refine lv_iconst (v := 0) hx hb dL_turnOrder_22 (by decide) ?_
    have hP : va_P G vwCl ((Dk cI cZ h a (nx (k1 (p_in x no)) (n_fo F x.toNatClampNeg) F) nq no np sh nw) ++ [(ao, .inl (cL, 1, .inr (.inl (vp_updL g 0 (i2z (b2i (decide (F 4 x.toNatClampNeg = 0))))))))]) H := by simp only [hk, nx0]; exact hP
    have hD : va_D A ((Dk cI cZ h a (nx (k1 (p_in x no)) (n_fo F x.toNatClampNeg) F) nq no np sh nw) ++ [(ao, .inl (cL, 1, .inr (.inl (vp_updL g 0 (i2z (b2i (decide (F 4 x.toNatClampNeg = 0))))))))]) := by simp only [hk, nx0]; exact hD
    exact w_iret (vp_updL g 0 (i2z (b2i (decide (F 4 x.toNatClampNeg = 0))))) hx hb hr hlocks hK hP hD hS (Nat.le_of_ble_eq_true rfl) (Nat.le_of_ble_eq_true rfl) dL_turnOrder_23 ⟨hk.symm, fun _ => pk_uLs⟩
set_option maxHeartbeats 4000000 in
set_option maxRecDepth 100000 in
theorem c_L_setShift (l : Launch) (hfl : l.flags = flags0) (G : va_G) (cI cZ cL : ClassId) (h : Nat) (a : Nat → Nat) (F : Nat → Nat → Int32) (nq no np : Nat) (sh nw : Int32) (ao : Nat) (g : Nat → Int64) (sz : Nat) (x : Int32) : Met l yL_setShift wsL_setShift ({ frames := 8, cells := 1, slots := 6, locals := 126 } : Room) (va_Pc [.ref h, .int x, .ref ao] (wPreL G (ty3 cI cZ cL) ((Dk cI cZ h a F nq no np sh nw) ++ [(ao, .inl (cL, 1, .inr (.inl g)))]) sz)) (va_Qi (fun (r : Int32) (u : Nat → Int64) => r = k1 (p_wi x (-4) 4) ∧ (k1 (p_wi x (-4) 4) = 0 → u 0 = sh.toInt64)) (fun u => wP G (ty3 cI cZ cL) ((Dk cI cZ h a F nq no np (nx (k1 (p_wi x (-4) 4)) x sh) nw) ++ [(ao, .inl (cL, 1, .inr (.inl u)))]) (va_A ((Dk cI cZ h a F nq no np sh nw) ++ [(ao, .inl (cL, 1, .inr (.inl g)))]) sz)) (va_A ((Dk cI cZ h a F nq no np sh nw) ++ [(ao, .inl (cL, 1, .inr (.inl g)))]) sz)) 1 6 (va_A ((Dk cI cZ h a F nq no np sh nw) ++ [(ao, .inl (cL, 1, .inr (.inl g)))]) sz) := by
  refine w_metW (cc := cL_setShift) (maxL := 4) (ret := (some .int)) (hh := [(0, 9, 12, 25)]) (by decide) rfl (Nat.le_of_ble_eq_true rfl) ?_
  intro pg e s m below meth cd hx hb hml hr hts hown hlocks hnm htab hZ hNn hK hsz hP hD hA hS ls hl
  have hown : s.vm.findClass RL = some m.cls := hown
  have hl : lv_has ls 4 [(0, .ref h), (1, .int x), (2, .ref ao)] := hl
  generalize hAe : va_A ((Dk cI cZ h a F nq no np sh nw) ++ [(ao, .inl (cL, 1, .inr (.inl g)))]) sz = A at hD hA hS hZ ⊢
  refine lv_aload_n hx hb dL_setShift_0 rfl (lv_at hl 2 rfl) ?_
  refine lv_iconst (v := 0) hx hb dL_setShift_1 (by decide) ?_
  refine lv_aload_n hx hb dL_setShift_2 rfl (lv_at hl 0 rfl) ?_
  refine lv_iload_n hx hb dL_setShift_3 rfl (lv_at hl 1 rfl) ?_
  refine w_cat_i (wr := [(ao, .inl (cL, 1, .inr (.inl g)))]) (vx_runV (As := [.int x]) (rest := [.int 0, .ref ao]) ⟨hx, hb, hml, hown, hts⟩ (cx_X0_setShift l hfl G cI cZ h a F nq no np sh nw s.heap.size x ) (cwV 1 hts gL_setShift_X0_setShift rfl rfl rfl (by decide +kernel) ⟨(Nat.le_of_ble_eq_true rfl), (Nat.le_of_ble_eq_true rfl)⟩) ⟨wPreX_blind, va_recv hK hP (ci := 0) (q0 := 0) rfl rfl, w_preX (hK.sub [0, 1] rfl) (hP.sub [0, 1, 2, 3, 4, 5, 6, 7, 8, 9, 10, 11] rfl) (hD.sub [0, 1, 2, 3, 4, 5, 6, 7, 8, 9, 10, 11] (by decide) rfl) (va_free hD hS hA [0, 1, 2, 3, 4, 5, 6, 7, 8, 9, 10, 11] rfl) hS hZ⟩ rfl rfl hl.1 rfl (lv_room (Nat.le_of_ble_eq_true rfl)) dL_setShift_4 ⟨(Nat.le_of_ble_eq_true rfl), (Nat.le_of_ble_eq_true rfl)⟩) hP hD hS hA [0, 1, 2, 3, 4, 5, 6, 7, 8, 9, 10, 11] [12] rfl rfl (by decide) (by decide) (fun E ce q9 H locs hbad hP hD hS hce hcv hcl => ?_) (fun r u H locs hw hP hD hS => ?_)
  · have hP := hP.sub (ws' := (Dk cI cZ h a F nq no np sh nw) ++ [(ao, .inl (cL, 1, .inr (.inl g)))]) [1, 2, 3, 4, 5, 6, 7, 8, 9, 10, 11, 12, 0] rfl
    have hD := hD.sub (ws' := (Dk cI cZ h a F nq no np sh nw) ++ [(ao, .inl (cL, 1, .inr (.inl g)))]) [1, 2, 3, 4, 5, 6, 7, 8, 9, 10, 11, 12, 0] (by decide) rfl
    obtain ⟨rfl, hk⟩ := hbad
    refine vx_catch (name := "java/lang/IllegalArgumentException") hown [] ⟨0, 9, 12, 25⟩ [] htab (fun z h => nomatch h) (by decide) (by decide) (hts (.classLink RL 25 "java/lang/IllegalArgumentException") (by decide +kernel)) (hZ.2.2.1 (.castable xA xA) (by decide +kernel) _) hce hcv hcl ?_
    refine lv_astore_n (lv' := [(3, .ref q9), (0, .ref h), (1, .int x), (2, .ref ao)]) hx hb dL_setShift_12 rfl hl (by decide) rfl (fun ls hl => ?_)
    refine lv_iconst (v := 1) hx hb dL_setShift_13 (by decide) ?_
    have hP : va_P G vwCl ((Dk cI cZ h a F nq no np (nx (k1 (p_wi x (-4) 4)) x sh) nw) ++ [(ao, .inl (cL, 1, .inr (.inl g)))]) H := by simp only [hk, nx1]; exact hP
    have hD : va_D A ((Dk cI cZ h a F nq no np (nx (k1 (p_wi x (-4) 4)) x sh) nw) ++ [(ao, .inl (cL, 1, .inr (.inl g)))]) := by simp only [hk, nx1]; exact hD
    exact w_iret g hx hb hr hlocks hK hP hD hS (Nat.le_of_ble_eq_true rfl) (Nat.le_of_ble_eq_true rfl) dL_setShift_14 ⟨hk.symm, fun hh9 => by rw [hk] at hh9; exact absurd hh9 (by decide)⟩
  · obtain ⟨hk, hr9⟩ := (show k1 (p_wi x (-4) 4) = 0 ∧ r = sh from hw)
    subst r
    have hP := hP.sub (ws' := (Dk cI cZ h a F nq no np x nw) ++ [(ao, .inl (cL, 1, .inr (.inl g)))]) [1, 2, 3, 4, 5, 6, 7, 8, 9, 10, 11, 12, 0] rfl
    have hD := hD.sub (ws' := (Dk cI cZ h a F nq no np x nw) ++ [(ao, .inl (cL, 1, .inr (.inl g)))]) [1, 2, 3, 4, 5, 6, 7, 8, 9, 10, 11, 12, 0] (by decide) rfl
    refine lv_i2l (v := sh.toInt64) hx hb dL_setShift_7 rfl ?_
    refine va_last hx hb hK hP hD hS 12 2 rfl rfl (f := g) (x := sh.toInt64) (show vp_in 0 1 from vp_in_nI (n := 0) (by omega) (by omega)) dL_setShift_8 (fun H locs hP hD hS => ?_)
    rw [sb_cl0] at hP hD
    have hP : va_P G vwCl ((Dk cI cZ h a F nq no np x nw) ++ [(ao, .inl (cL, 1, .inr (.inl (vp_updL g 0 sh.toInt64))))]) H := hP
    have hD : va_D A ((Dk cI cZ h a F nq no np x nw) ++ [(ao, .inl (cL, 1, .inr (.inl (vp_updL g 0 sh.toInt64))))]) := hD
    refine lv_goto (tgt := 15) hx hb dL_setShift_9 (by decide) ?_
    refine lv_iconst (v := 0) hx hb dL_setShift_15 (by decide) ?_
    have hP : va_P G vwCl ((Dk cI cZ h a F nq no np (nx (k1 (p_wi x (-4) 4)) x sh) nw) ++ [(ao, .inl (cL, 1, .inr (.inl (vp_updL g 0 sh.toInt64))))]) H := by simp only [hk, nx0]; exact hP
    have hD : va_D A ((Dk cI cZ h a F nq no np (nx (k1 (p_wi x (-4) 4)) x sh) nw) ++ [(ao, .inl (cL, 1, .inr (.inl (vp_updL g 0 sh.toInt64))))]) := by simp only [hk, nx0]; exact hD
    exact w_iret (vp_updL g 0 sh.toInt64) hx hb hr hlocks hK hP hD hS (Nat.le_of_ble_eq_true rfl) (Nat.le_of_ble_eq_true rfl) dL_setShift_16 ⟨hk.symm, fun _ => pk_uLs⟩
set_option maxHeartbeats 4000000 in
set_option maxRecDepth 100000 in
theorem c_L_givePass (l : Launch) (hfl : l.flags = flags0) (G : va_G) (cI cZ cL : ClassId) (h : Nat) (a : Nat → Nat) (F : Nat → Nat → Int32) (nq no np : Nat) (sh nw : Int32) (ao : Nat) (g : Nat → Int64) (sz : Nat) (x : Int32) (y : Int32) (z : Int32) (hnp : np ≤ 20) : Met l yL_givePass wsL_givePass ({ frames := 8, cells := 3, slots := 18, locals := 128 } : Room) (va_Pc [.ref h, .int x, .int y, .int z, .ref ao] (wPreL G (ty3 cI cZ cL) ((Dk cI cZ h a F nq no np sh nw) ++ [(ao, .inl (cL, 1, .inr (.inl g)))]) sz)) (va_Qi (fun (r : Int32) (u : Nat → Int64) => r = k2 (p_in x np && p_in y 4) (p_wi z 1 9) ∧ (k2 (p_in x np && p_in y 4) (p_wi z 1 9) = 0 → u 0 = (p_cap (F 9 (p_pl x y) + z)).toInt64)) (fun u => wP G (ty3 cI cZ cL) ((Dk cI cZ h a (nx (k2 (p_in x np && p_in y 4) (p_wi z 1 9)) (n_st F (p_pl x y) (p_cap (F 9 (p_pl x y) + z))) F) nq no np sh nw) ++ [(ao, .inl (cL, 1, .inr (.inl u)))]) (va_A ((Dk cI cZ h a F nq no np sh nw) ++ [(ao, .inl (cL, 1, .inr (.inl g)))]) sz)) (va_A ((Dk cI cZ h a F nq no np sh nw) ++ [(ao, .inl (cL, 1, .inr (.inl g)))]) sz)) 3 18 (va_A ((Dk cI cZ h a F nq no np sh nw) ++ [(ao, .inl (cL, 1, .inr (.inl g)))]) sz) := by
  refine w_metW (cc := cL_givePass) (maxL := 6) (ret := (some .int)) (hh := [(0, 12, 15, 19), (0, 12, 19, 25)]) (by decide) rfl (Nat.le_of_ble_eq_true rfl) ?_
  intro pg e s m below meth cd hx hb hml hr hts hown hlocks hnm htab hZ hNn hK hsz hP hD hA hS ls hl
  have hown : s.vm.findClass RL = some m.cls := hown
  have hl : lv_has ls 6 [(0, .ref h), (1, .int x), (2, .int y), (3, .int z), (4, .ref ao)] := hl
  generalize hAe : va_A ((Dk cI cZ h a F nq no np sh nw) ++ [(ao, .inl (cL, 1, .inr (.inl g)))]) sz = A at hD hA hS hZ ⊢
  refine lv_aload hx hb dL_givePass_0 (lv_at hl 4 rfl) ?_
  refine lv_iconst (v := 0) hx hb dL_givePass_2 (by decide) ?_
  refine lv_aload_n hx hb dL_givePass_3 rfl (lv_at hl 0 rfl) ?_
  refine lv_iload_n hx hb dL_givePass_4 rfl (lv_at hl 1 rfl) ?_
  refine lv_iload_n hx hb dL_givePass_5 rfl (lv_at hl 2 rfl) ?_
  refine lv_iload_n hx hb dL_givePass_6 rfl (lv_at hl 3 rfl) ?_
  refine w_cat_i (wr := [(ao, .inl (cL, 1, .inr (.inl g)))]) (vx_runV (As := [.int x, .int y, .int z]) (rest := [.int 0, .ref ao]) ⟨hx, hb, hml, hown, hts⟩ (cx_X0_givePass l hfl G cI cZ h a F nq no np sh nw s.heap.size x y z (by omega)) (cwV 3 hts gL_givePass_X0_givePass rfl rfl rfl (by decide +kernel) ⟨(Nat.le_of_ble_eq_true rfl), (Nat.le_of_ble_eq_true rfl)⟩) ⟨wPreX_blind, va_recv hK hP (ci := 0) (q0 := 0) rfl rfl, w_preX (hK.sub [0, 1] rfl) (hP.sub [0, 1, 2, 3, 4, 5, 6, 7, 8, 9, 10, 11] rfl) (hD.sub [0, 1, 2, 3, 4, 5, 6, 7, 8, 9, 10, 11] (by decide) rfl) (va_free hD hS hA [0, 1, 2, 3, 4, 5, 6, 7, 8, 9, 10, 11] rfl) hS hZ⟩ rfl rfl hl.1 rfl (lv_room (Nat.le_of_ble_eq_true rfl)) dL_givePass_7 ⟨(Nat.le_of_ble_eq_true rfl), (Nat.le_of_ble_eq_true rfl)⟩) hP hD hS hA [0, 1, 2, 3, 4, 5, 6, 7, 8, 9, 10, 11] [12] rfl rfl (by decide) (by decide) (fun E ce q9 H locs hbad hP hD hS hce hcv hcl => ?_) (fun r u H locs hw hP hD hS => ?_)
  · have hP := hP.sub (ws' := (Dk cI cZ h a F nq no np sh nw) ++ [(ao, .inl (cL, 1, .inr (.inl g)))]) [1, 2, 3, 4, 5, 6, 7, 8, 9, 10, 11, 12, 0] rfl
    have hD := hD.sub (ws' := (Dk cI cZ h a F nq no np sh nw) ++ [(ao, .inl (cL, 1, .inr (.inl g)))]) [1, 2, 3, 4, 5, 6, 7, 8, 9, 10, 11, 12, 0] (by decide) rfl
    rcases hbad with ⟨rfl, hk⟩ | ⟨rfl, hk⟩
    · skip
      refine vx_catch (name := "java/lang/IndexOutOfBoundsException") hown [] ⟨0, 12, 15, 19⟩ [⟨0, 12, 19, 25⟩] htab (fun z h => nomatch h) (by decide) (by decide) (hts (.classLink RL 19 "java/lang/IndexOutOfBoundsException") (by decide +kernel)) (hZ.2.2.1 (.castable xI xI) (by decide +kernel) _) hce hcv hcl ?_
      refine lv_astore (lv' := [(5, .ref q9), (0, .ref h), (1, .int x), (2, .int y), (3, .int z), (4, .ref ao)]) hx hb dL_givePass_15 hl (by decide) rfl (fun ls hl => ?_)
      refine lv_iconst (v := 1) hx hb dL_givePass_17 (by decide) ?_
      have hP : va_P G vwCl ((Dk cI cZ h a (nx (k2 (p_in x np && p_in y 4) (p_wi z 1 9)) (n_st F (p_pl x y) (p_cap (F 9 (p_pl x y) + z))) F) nq no np sh nw) ++ [(ao, .inl (cL, 1, .inr (.inl g)))]) H := by simp only [hk, nx1]; exact hP
      have hD : va_D A ((Dk cI cZ h a (nx (k2 (p_in x np && p_in y 4) (p_wi z 1 9)) (n_st F (p_pl x y) (p_cap (F 9 (p_pl x y) + z))) F) nq no np sh nw) ++ [(ao, .inl (cL, 1, .inr (.inl g)))]) := by simp only [hk, nx1]; exact hD
      exact w_iret g hx hb hr hlocks hK hP hD hS (Nat.le_of_ble_eq_true rfl) (Nat.le_of_ble_eq_true rfl) dL_givePass_18 ⟨hk.symm, fun hh9 => by rw [hk] at hh9; exact absurd hh9 (by decide)⟩
    · skip
      refine vx_catch (name := "java/lang/IllegalArgumentException") hown [⟨0, 12, 15, 19⟩] ⟨0, 12, 19, 25⟩ [] htab (fun z h => by cases List.mem_singleton.mp h; exact Or.inr ⟨by decide, "java/lang/IndexOutOfBoundsException", hts (.classLink RL 19 "java/lang/IndexOutOfBoundsException") (by decide +kernel), hNn.2.1⟩) (by decide) (by decide) (hts (.classLink RL 25 "java/lang/IllegalArgumentException") (by decide +kernel)) (hZ.2.2.1 (.castable xA xA) (by decide +kernel) _) hce hcv hcl ?_
      refine lv_astore (lv' := [(5, .ref q9), (0, .ref h), (1, .int x), (2, .int y), (3, .int z), (4, .ref ao)]) hx hb dL_givePass_19 hl (by decide) rfl (fun ls hl => ?_)
      refine lv_iconst (v := 2) hx hb dL_givePass_21 (by decide) ?_
      have hP : va_P G vwCl ((Dk cI cZ h a (nx (k2 (p_in x np && p_in y 4) (p_wi z 1 9)) (n_st F (p_pl x y) (p_cap (F 9 (p_pl x y) + z))) F) nq no np sh nw) ++ [(ao, .inl (cL, 1, .inr (.inl g)))]) H := by simp only [hk, nx2]; exact hP
      have hD : va_D A ((Dk cI cZ h a (nx (k2 (p_in x np && p_in y 4) (p_wi z 1 9)) (n_st F (p_pl x y) (p_cap (F 9 (p_pl x y) + z))) F) nq no np sh nw) ++ [(ao, .inl (cL, 1, .inr (.inl g)))]) := by simp only [hk, nx2]; exact hD
      exact w_iret g hx hb hr hlocks hK hP hD hS (Nat.le_of_ble_eq_true rfl) (Nat.le_of_ble_eq_true rfl) dL_givePass_22 ⟨hk.symm, fun hh9 => by rw [hk] at hh9; exact absurd hh9 (by decide)⟩
  · obtain ⟨hk, hr9⟩ := (show k2 (p_in x np && p_in y 4) (p_wi z 1 9) = 0 ∧ r = p_cap (F 9 (p_pl x y) + z) from hw)
    subst r
    have hP := hP.sub (ws' := (Dk cI cZ h a (n_st F (p_pl x y) (p_cap (F 9 (p_pl x y) + z))) nq no np sh nw) ++ [(ao, .inl (cL, 1, .inr (.inl g)))]) [1, 2, 3, 4, 5, 6, 7, 8, 9, 10, 11, 12, 0] rfl
    have hD := hD.sub (ws' := (Dk cI cZ h a (n_st F (p_pl x y) (p_cap (F 9 (p_pl x y) + z))) nq no np sh nw) ++ [(ao, .inl (cL, 1, .inr (.inl g)))]) [1, 2, 3, 4, 5, 6, 7, 8, 9, 10, 11, 12, 0] (by decide) rfl
    refine lv_i2l (v := (p_cap (F 9 (p_pl x y) + z)).toInt64) hx hb dL_givePass_10 rfl ?_
    refine va_last hx hb hK hP hD hS 12 2 rfl rfl (f := g) (x := (p_cap (F 9 (p_pl x y) + z)).toInt64) (show vp_in 0 1 from vp_in_nI (n := 0) (by omega) (by omega)) dL_givePass_11 (fun H locs hP hD hS => ?_)
    rw [sb_cl0] at hP hD
    have hP : va_P G vwCl ((Dk cI cZ h a (n_st F (p_pl x y) (p_cap (F 9 (p_pl x y) + z))) nq no np sh nw) ++ [(ao, .inl (cL, 1, .inr (.inl (vp_updL g 0 ((p_cap (F 9 (p_pl x y) + z)).toInt64)))))]) H := hP
    have hD : va_D A ((Dk cI cZ h a (n_st F (p_pl x y) (p_cap (F 9 (p_pl x y) + z))) nq no np sh nw) ++ [(ao, .inl (cL, 1, .inr (.inl (vp_updL g 0 ((p_cap (F 9 (p_pl x y) + z)).toInt64)))))]) := hD
    refine lv_goto (tgt := 23) hx hb dL_givePass_12 (by decide) ?_
    refine lv_iconst (v := 0) hx hb dL_givePass_23 (by decide) ?_
    have hP : va_P G vwCl ((Dk cI cZ h a (nx (k2 (p_in x np && p_in y 4) (p_wi z 1 9)) (n_st F (p_pl x y) (p_cap (F 9 (p_pl x y) + z))) F) nq no np sh nw) ++ [(ao, .inl (cL, 1, .inr (.inl (vp_updL g 0 ((p_cap (F 9 (p_pl x y) + z)).toInt64)))))]) H := by simp only [hk, nx0]; exact hP
    have hD : va_D A ((Dk cI cZ h a (nx (k2 (p_in x np && p_in y 4) (p_wi z 1 9)) (n_st F (p_pl x y) (p_cap (F 9 (p_pl x y) + z))) F) nq no np sh nw) ++ [(ao, .inl (cL, 1, .inr (.inl (vp_updL g 0 ((p_cap (F 9 (p_pl x y) + z)).toInt64)))))]) := by simp only [hk, nx0]; exact hD
    exact w_iret (vp_updL g 0 ((p_cap (F 9 (p_pl x y) + z)).toInt64)) hx hb hr hlocks hK hP hD hS (Nat.le_of_ble_eq_true rfl) (Nat.le_of_ble_eq_true rfl) dL_givePass_24 ⟨hk.symm, fun _ => pk_uLs⟩
set_option maxHeartbeats 4000000 in
set_option maxRecDepth 100000 in
theorem c_L_takePass (l : Launch) (hfl : l.flags = flags0) (G : va_G) (cI cZ cL : ClassId) (h : Nat) (a : Nat → Nat) (F : Nat → Nat → Int32) (nq no np : Nat) (sh nw : Int32) (ao : Nat) (g : Nat → Int64) (sz : Nat) (x : Int32) (y : Int32) (hnp : np ≤ 20) : Met l yL_takePass wsL_takePass ({ frames := 8, cells := 2, slots := 12, locals := 127 } : Room) (va_Pc [.ref h, .int x, .int y, .ref ao] (wPreL G (ty3 cI cZ cL) ((Dk cI cZ h a F nq no np sh nw) ++ [(ao, .inl (cL, 1, .inr (.inl g)))]) sz)) (va_Qi (fun (r : Int32) (u : Nat → Int64) => r = k1 (p_in x np && p_in y 4) ∧ (k1 (p_in x np && p_in y 4) = 0 → u 0 = (F 9 (p_pl x y)).toInt64)) (fun u => wP G (ty3 cI cZ cL) ((Dk cI cZ h a (nx (k1 (p_in x np && p_in y 4)) (n_st F (p_pl x y) 0) F) nq no np sh nw) ++ [(ao, .inl (cL, 1, .inr (.inl u)))]) (va_A ((Dk cI cZ h a F nq no np sh nw) ++ [(ao, .inl (cL, 1, .inr (.inl g)))]) sz)) (va_A ((Dk cI cZ h a F nq no np sh nw) ++ [(ao, .inl (cL, 1, .inr (.inl g)))]) sz)) 2 12 (va_A ((Dk cI cZ h a F nq no np sh nw) ++ [(ao, .inl (cL, 1, .inr (.inl g)))]) sz) := by
  refine w_metW (cc := cL_takePass) (maxL := 5) (ret := (some .int)) (hh := [(0, 10, 13, 19)]) (by decide) rfl (Nat.le_of_ble_eq_true rfl) ?_
  intro pg e s m below meth cd hx hb hml hr hts hown hlocks hnm htab hZ hNn hK hsz hP hD hA hS ls hl
  have hown : s.vm.findClass RL = some m.cls := hown
  have hl : lv_has ls 5 [(0, .ref h), (1, .int x), (2, .int y), (3, .ref ao)] := hl
  generalize hAe : va_A ((Dk cI cZ h a F nq no np sh nw) ++ [(ao, .inl (cL, 1, .inr (.inl g)))]) sz = A at hD hA hS hZ ⊢
  refine lv_aload_n hx hb dL_takePass_0 rfl (lv_at hl 3 rfl) ?_
  refine lv_iconst (v := 0) hx hb dL_takePass_1 (by decide) ?_
  refine lv_aload_n hx hb dL_takePass_2 rfl (lv_at hl 0 rfl) ?_
  refine lv_iload_n hx hb dL_takePass_3 rfl (lv_at hl 1 rfl) ?_
  refine lv_iload_n hx hb dL_takePass_4 rfl (lv_at hl 2 rfl) ?_
  refine w_cat_i (wr := [(ao, .inl (cL, 1, .inr (.inl g)))]) (vx_runV (As := [.int x, .int y]) (rest := [.int 0, .ref ao]) ⟨hx, hb, hml, hown, hts⟩ (cx_X0_takePass l hfl G cI cZ h a F nq no np sh nw s.heap.size x y (by omega)) (cwV 2 hts gL_takePass_X0_takePass rfl rfl rfl (by decide +kernel) ⟨(Nat.le_of_ble_eq_true rfl), (Nat.le_of_ble_eq_true rfl)⟩) ⟨wPreX_blind, va_recv hK hP (ci := 0) (q0 := 0) rfl rfl, w_preX (hK.sub [0, 1] rfl) (hP.sub [0, 1, 2, 3, 4, 5, 6, 7, 8, 9, 10, 11] rfl) (hD.sub [0, 1, 2, 3, 4, 5, 6, 7, 8, 9, 10, 11] (by decide) rfl) (va_free hD hS hA [0, 1, 2, 3, 4, 5, 6, 7, 8, 9, 10, 11] rfl) hS hZ⟩ rfl rfl hl.1 rfl (lv_room (Nat.le_of_ble_eq_true rfl)) dL_takePass_5 ⟨(Nat.le_of_ble_eq_true rfl), (Nat.le_of_ble_eq_true rfl)⟩) hP hD hS hA [0, 1, 2, 3, 4, 5, 6, 7, 8, 9, 10, 11] [12] rfl rfl (by decide) (by decide) (fun E ce q9 H locs hbad hP hD hS hce hcv hcl => ?_) (fun r u H locs hw hP hD hS => ?_)
  · have hP := hP.sub (ws' := (Dk cI cZ h a F nq no np sh nw) ++ [(ao, .inl (cL, 1, .inr (.inl g)))]) [1, 2, 3, 4, 5, 6, 7, 8, 9, 10, 11, 12, 0] rfl
    have hD := hD.sub (ws' := (Dk cI cZ h a F nq no np sh nw) ++ [(ao, .inl (cL, 1, .inr (.inl g)))]) [1, 2, 3, 4, 5, 6, 7, 8, 9, 10, 11, 12, 0] (by decide) rfl
    obtain ⟨rfl, hk⟩ := hbad
    refine vx_catch (name := "java/lang/IndexOutOfBoundsException") hown [] ⟨0, 10, 13, 19⟩ [] htab (fun z h => nomatch h) (by decide) (by decide) (hts (.classLink RL 19 "java/lang/IndexOutOfBoundsException") (by decide +kernel)) (hZ.2.2.1 (.castable xI xI) (by decide +kernel) _) hce hcv hcl ?_
    refine lv_astore (lv' := [(4, .ref q9), (0, .ref h), (1, .int x), (2, .int y), (3, .ref ao)]) hx hb dL_takePass_13 hl (by decide) rfl (fun ls hl => ?_)
    refine lv_iconst (v := 1) hx hb dL_takePass_15 (by decide) ?_
    have hP : va_P G vwCl ((Dk cI cZ h a (nx (k1 (p_in x np && p_in y 4)) (n_st F (p_pl x y) 0) F) nq no np sh nw) ++ [(ao, .inl (cL, 1, .inr (.inl g)))]) H := by simp only [hk, nx1]; exact hP
    have hD : va_D A ((Dk cI cZ h a (nx (k1 (p_in x np && p_in y 4)) (n_st F (p_pl x y) 0) F) nq no np sh nw) ++ [(ao, .inl (cL, 1, .inr (.inl g)))]) := by simp only [hk, nx1]; exact hD
    exact w_iret g hx hb hr hlocks hK hP hD hS (Nat.le_of_ble_eq_true rfl) (Nat.le_of_ble_eq_true rfl) dL_takePass_16 ⟨hk.symm, fun hh9 => by rw [hk] at hh9; exact absurd hh9 (by decide)⟩
  · obtain ⟨hk, hr9⟩ := (show k1 (p_in x np && p_in y 4) = 0 ∧ r = F 9 (p_pl x y) from hw)
    subst r
    have hP := hP.sub (ws' := (Dk cI cZ h a (n_st F (p_pl x y) 0) nq no np sh nw) ++ [(ao, .inl (cL, 1, .inr (.inl g)))]) [1, 2, 3, 4, 5, 6, 7, 8, 9, 10, 11, 12, 0] rfl
    have hD := hD.sub (ws' := (Dk cI cZ h a (n_st F (p_pl x y) 0) nq no np sh nw) ++ [(ao, .inl (cL, 1, .inr (.inl g)))]) [1, 2, 3, 4, 5, 6, 7, 8, 9, 10, 11, 12, 0] (by decide) rfl
    refine lv_i2l (v := (F 9 (p_pl x y)).toInt64) hx hb dL_takePass_8 rfl ?_
    refine va_last hx hb hK hP hD hS 12 2 rfl rfl (f := g) (x := (F 9 (p_pl x y)).toInt64) (show vp_in 0 1 from vp_in_nI (n := 0) (by omega) (by omega)) dL_takePass_9 (fun H locs hP hD hS => ?_)
    rw [sb_cl0] at hP hD
    have hP : va_P G vwCl ((Dk cI cZ h a (n_st F (p_pl x y) 0) nq no np sh nw) ++ [(ao, .inl (cL, 1, .inr (.inl (vp_updL g 0 ((F 9 (p_pl x y)).toInt64)))))]) H := hP
    have hD : va_D A ((Dk cI cZ h a (n_st F (p_pl x y) 0) nq no np sh nw) ++ [(ao, .inl (cL, 1, .inr (.inl (vp_updL g 0 ((F 9 (p_pl x y)).toInt64)))))]) := hD
    refine lv_goto (tgt := 17) hx hb dL_takePass_10 (by decide) ?_
    refine lv_iconst (v := 0) hx hb dL_takePass_17 (by decide) ?_
    have hP : va_P G vwCl ((Dk cI cZ h a (nx (k1 (p_in x np && p_in y 4)) (n_st F (p_pl x y) 0) F) nq no np sh nw) ++ [(ao, .inl (cL, 1, .inr (.inl (vp_updL g 0 ((F 9 (p_pl x y)).toInt64)))))]) H := by simp only [hk, nx0]; exact hP
    have hD : va_D A ((Dk cI cZ h a (nx (k1 (p_in x np && p_in y 4)) (n_st F (p_pl x y) 0) F) nq no np sh nw) ++ [(ao, .inl (cL, 1, .inr (.inl (vp_updL g 0 ((F 9 (p_pl x y)).toInt64)))))]) := by simp only [hk, nx0]; exact hD
    exact w_iret (vp_updL g 0 ((F 9 (p_pl x y)).toInt64)) hx hb hr hlocks hK hP hD hS (Nat.le_of_ble_eq_true rfl) (Nat.le_of_ble_eq_true rfl) dL_takePass_18 ⟨hk.symm, fun _ => pk_uLs⟩
set_option maxHeartbeats 4000000 in
set_option maxRecDepth 100000 in
theorem c_L_goOut (l : Launch) (hfl : l.flags = flags0) (G : va_G) (cI cZ cL : ClassId) (h : Nat) (a : Nat → Nat) (F : Nat → Nat → Int32) (nq no np : Nat) (sh nw : Int32) (ao : Nat) (g : Nat → Int64) (sz : Nat) (x : Int32) (y : Int32) (hnq : nq ≤ 6) (hno : no ≤ 10) (hnp : np ≤ 20) (H3 : ∀ o, o < no → ∃ c, c < 4 ∧ F 3 o = nI c) : Met l yL_goOut wsL_goOut ({ frames := 8, cells := 2, slots := 12, locals := 127 } : Room) (va_Pc [.ref h, .int x, .int y, .ref ao] (wPreL G (ty3 cI cZ cL) ((Dk cI cZ h a F nq no np sh nw) ++ [(ao, .inl (cL, 1, .inr (.inl g)))]) sz)) (va_Qi (fun (r : Int32) (u : Nat → Int64) => r = k1 (p_in x np && p_in y nq) ∧ (k1 (p_in x np && p_in y nq) = 0 → u 0 = (a_go F sh no x.toNatClampNeg y nw).toInt64)) (fun u => wP G (ty3 cI cZ cL) ((Dk cI cZ h a (nx (k1 (p_in x np && p_in y nq)) (n_go F sh no x.toNatClampNeg y nw) F) nq no np sh nw) ++ [(ao, .inl (cL, 1, .inr (.inl u)))]) (va_A ((Dk cI cZ h a F nq no np sh nw) ++ [(ao, .inl (cL, 1, .inr (.inl g)))]) sz)) (va_A ((Dk cI cZ h a F nq no np sh nw) ++ [(ao, .inl (cL, 1, .inr (.inl g)))]) sz)) 2 12 (va_A ((Dk cI cZ h a F nq no np sh nw) ++ [(ao, .inl (cL, 1, .inr (.inl g)))]) sz) := by
  refine w_metW (cc := cL_goOut) (maxL := 5) (ret := (some .int)) (hh := [(0, 10, 13, 19)]) (by decide) rfl (Nat.le_of_ble_eq_true rfl) ?_
  intro pg e s m below meth cd hx hb hml hr hts hown hlocks hnm htab hZ hNn hK hsz hP hD hA hS ls hl
  have hown : s.vm.findClass RL = some m.cls := hown
  have hl : lv_has ls 5 [(0, .ref h), (1, .int x), (2, .int y), (3, .ref ao)] := hl
  generalize hAe : va_A ((Dk cI cZ h a F nq no np sh nw) ++ [(ao, .inl (cL, 1, .inr (.inl g)))]) sz = A at hD hA hS hZ ⊢
  refine lv_aload_n hx hb dL_goOut_0 rfl (lv_at hl 3 rfl) ?_
  refine lv_iconst (v := 0) hx hb dL_goOut_1 (by decide) ?_
  refine lv_aload_n hx hb dL_goOut_2 rfl (lv_at hl 0 rfl) ?_
  refine lv_iload_n hx hb dL_goOut_3 rfl (lv_at hl 1 rfl) ?_
  refine lv_iload_n hx hb dL_goOut_4 rfl (lv_at hl 2 rfl) ?_
  refine w_cat_i (wr := [(ao, .inl (cL, 1, .inr (.inl g)))]) (vx_runV (As := [.int x, .int y]) (rest := [.int 0, .ref ao]) ⟨hx, hb, hml, hown, hts⟩ (cx_X0_goOut l hfl G cI cZ h a F nq no np sh nw s.heap.size x y (by omega) (by omega) (by omega) H3) (cwV 2 hts gL_goOut_X0_goOut rfl rfl rfl (by decide +kernel) ⟨(Nat.le_of_ble_eq_true rfl), (Nat.le_of_ble_eq_true rfl)⟩) ⟨wPreX_blind, va_recv hK hP (ci := 0) (q0 := 0) rfl rfl, w_preX (hK.sub [0, 1] rfl) (hP.sub [0, 1, 2, 3, 4, 5, 6, 7, 8, 9, 10, 11] rfl) (hD.sub [0, 1, 2, 3, 4, 5, 6, 7, 8, 9, 10, 11] (by decide) rfl) (va_free hD hS hA [0, 1, 2, 3, 4, 5, 6, 7, 8, 9, 10, 11] rfl) hS hZ⟩ rfl rfl hl.1 rfl (lv_room (Nat.le_of_ble_eq_true rfl)) dL_goOut_5 ⟨(Nat.le_of_ble_eq_true rfl), (Nat.le_of_ble_eq_true rfl)⟩) hP hD hS hA [0, 1, 2, 3, 4, 5, 6, 7, 8, 9, 10, 11] [12] rfl rfl (by decide) (by decide) (fun E ce q9 H locs hbad hP hD hS hce hcv hcl => ?_) (fun r u H locs hw hP hD hS => ?_)
  · have hP := hP.sub (ws' := (Dk cI cZ h a F nq no np sh nw) ++ [(ao, .inl (cL, 1, .inr (.inl g)))]) [1, 2, 3, 4, 5, 6, 7, 8, 9, 10, 11, 12, 0] rfl
    have hD := hD.sub (ws' := (Dk cI cZ h a F nq no np sh nw) ++ [(ao, .inl (cL, 1, .inr (.inl g)))]) [1, 2, 3, 4, 5, 6, 7, 8, 9, 10, 11, 12, 0] (by decide) rfl
    obtain ⟨rfl, hk⟩ := hbad
    refine vx_catch (name := "java/lang/IndexOutOfBoundsException") hown [] ⟨0, 10, 13, 19⟩ [] htab (fun z h => nomatch h) (by decide) (by decide) (hts (.classLink RL 19 "java/lang/IndexOutOfBoundsException") (by decide +kernel)) (hZ.2.2.1 (.castable xI xI) (by decide +kernel) _) hce hcv hcl ?_
    refine lv_astore (lv' := [(4, .ref q9), (0, .ref h), (1, .int x), (2, .int y), (3, .ref ao)]) hx hb dL_goOut_13 hl (by decide) rfl (fun ls hl => ?_)
    refine lv_iconst (v := 1) hx hb dL_goOut_15 (by decide) ?_
    have hP : va_P G vwCl ((Dk cI cZ h a (nx (k1 (p_in x np && p_in y nq)) (n_go F sh no x.toNatClampNeg y nw) F) nq no np sh nw) ++ [(ao, .inl (cL, 1, .inr (.inl g)))]) H := by simp only [hk, nx1]; exact hP
    have hD : va_D A ((Dk cI cZ h a (nx (k1 (p_in x np && p_in y nq)) (n_go F sh no x.toNatClampNeg y nw) F) nq no np sh nw) ++ [(ao, .inl (cL, 1, .inr (.inl g)))]) := by simp only [hk, nx1]; exact hD
    exact w_iret g hx hb hr hlocks hK hP hD hS (Nat.le_of_ble_eq_true rfl) (Nat.le_of_ble_eq_true rfl) dL_goOut_16 ⟨hk.symm, fun hh9 => by rw [hk] at hh9; exact absurd hh9 (by decide)⟩
  · obtain ⟨hk, hr9⟩ := (show k1 (p_in x np && p_in y nq) = 0 ∧ r = a_go F sh no x.toNatClampNeg y nw from hw)
    subst r
    have hP := hP.sub (ws' := (Dk cI cZ h a (n_go F sh no x.toNatClampNeg y nw) nq no np sh nw) ++ [(ao, .inl (cL, 1, .inr (.inl g)))]) [1, 2, 3, 4, 5, 6, 7, 8, 9, 10, 11, 12, 0] rfl
    have hD := hD.sub (ws' := (Dk cI cZ h a (n_go F sh no x.toNatClampNeg y nw) nq no np sh nw) ++ [(ao, .inl (cL, 1, .inr (.inl g)))]) [1, 2, 3, 4, 5, 6, 7, 8, 9, 10, 11, 12, 0] (by decide) rfl
    refine lv_i2l (v := (a_go F sh no x.toNatClampNeg y nw).toInt64) hx hb dL_goOut_8 rfl ?_
    refine va_last hx hb hK hP hD hS 12 2 rfl rfl (f := g) (x := (a_go F sh no x.toNatClampNeg y nw).toInt64) (show vp_in 0 1 from vp_in_nI (n := 0) (by omega) (by omega)) dL_goOut_9 (fun H locs hP hD hS => ?_)
    rw [sb_cl0] at hP hD
    have hP : va_P G vwCl ((Dk cI cZ h a (n_go F sh no x.toNatClampNeg y nw) nq no np sh nw) ++ [(ao, .inl (cL, 1, .inr (.inl (vp_updL g 0 ((a_go F sh no x.toNatClampNeg y nw).toInt64)))))]) H := hP
    have hD : va_D A ((Dk cI cZ h a (n_go F sh no x.toNatClampNeg y nw) nq no np sh nw) ++ [(ao, .inl (cL, 1, .inr (.inl (vp_updL g 0 ((a_go F sh no x.toNatClampNeg y nw).toInt64)))))]) := hD
    refine lv_goto (tgt := 17) hx hb dL_goOut_10 (by decide) ?_
    refine lv_iconst (v := 0) hx hb dL_goOut_17 (by decide) ?_
    have hP : va_P G vwCl ((Dk cI cZ h a (nx (k1 (p_in x np && p_in y nq)) (n_go F sh no x.toNatClampNeg y nw) F) nq no np sh nw) ++ [(ao, .inl (cL, 1, .inr (.inl (vp_updL g 0 ((a_go F sh no x.toNatClampNeg y nw).toInt64)))))]) H := by simp only [hk, nx0]; exact hP
    have hD : va_D A ((Dk cI cZ h a (nx (k1 (p_in x np && p_in y nq)) (n_go F sh no x.toNatClampNeg y nw) F) nq no np sh nw) ++ [(ao, .inl (cL, 1, .inr (.inl (vp_updL g 0 ((a_go F sh no x.toNatClampNeg y nw).toInt64)))))]) := by simp only [hk, nx0]; exact hD
    exact w_iret (vp_updL g 0 ((a_go F sh no x.toNatClampNeg y nw).toInt64)) hx hb hr hlocks hK hP hD hS (Nat.le_of_ble_eq_true rfl) (Nat.le_of_ble_eq_true rfl) dL_goOut_18 ⟨hk.symm, fun _ => pk_uLs⟩
set_option maxHeartbeats 4000000 in
set_option maxRecDepth 100000 in
theorem c_L_pass (l : Launch) (hfl : l.flags = flags0) (G : va_G) (cI cZ cL : ClassId) (h : Nat) (a : Nat → Nat) (F : Nat → Nat → Int32) (nq no np : Nat) (sh nw : Int32) (ao : Nat) (g : Nat → Int64) (sz : Nat) (x : Int32) (hno : no ≤ 10) : Met l yL_pass wsL_pass ({ frames := 8, cells := 1, slots := 6, locals := 137 } : Room) (va_Pc [.ref h, .int x, .ref ao] (wPreL G (ty3 cI cZ cL) ((Dk cI cZ h a F nq no np sh nw) ++ [(ao, .inl (cL, 1, .inr (.inl g)))]) sz)) (va_Qi (fun (r : Int32) (u : Nat → Int64) => r = k1 (p_wi x 1 200) ∧ (k1 (p_wi x 1 200) = 0 → u 0 = (a_pa F sh nw no x.toNatClampNeg).toInt64)) (fun u => wP G (ty3 cI cZ cL) ((Dk cI cZ h a F nq no np sh (nx (k1 (p_wi x 1 200)) (nw + x) nw)) ++ [(ao, .inl (cL, 1, .inr (.inl u)))]) (va_A ((Dk cI cZ h a F nq no np sh nw) ++ [(ao, .inl (cL, 1, .inr (.inl g)))]) sz)) (va_A ((Dk cI cZ h a F nq no np sh nw) ++ [(ao, .inl (cL, 1, .inr (.inl g)))]) sz)) 1 6 (va_A ((Dk cI cZ h a F nq no np sh nw) ++ [(ao, .inl (cL, 1, .inr (.inl g)))]) sz) := by
  refine w_metW (cc := cL_pass) (maxL := 4) (ret := (some .int)) (hh := [(0, 9, 12, 25)]) (by decide) rfl (Nat.le_of_ble_eq_true rfl) ?_
  intro pg e s m below meth cd hx hb hml hr hts hown hlocks hnm htab hZ hNn hK hsz hP hD hA hS ls hl
  have hown : s.vm.findClass RL = some m.cls := hown
  have hl : lv_has ls 4 [(0, .ref h), (1, .int x), (2, .ref ao)] := hl
  generalize hAe : va_A ((Dk cI cZ h a F nq no np sh nw) ++ [(ao, .inl (cL, 1, .inr (.inl g)))]) sz = A at hD hA hS hZ ⊢
  refine lv_aload_n hx hb dL_pass_0 rfl (lv_at hl 2 rfl) ?_
  refine lv_iconst (v := 0) hx hb dL_pass_1 (by decide) ?_
  refine lv_aload_n hx hb dL_pass_2 rfl (lv_at hl 0 rfl) ?_
  refine lv_iload_n hx hb dL_pass_3 rfl (lv_at hl 1 rfl) ?_
  refine w_cat_i (wr := [(ao, .inl (cL, 1, .inr (.inl g)))]) (vx_runV (As := [.int x]) (rest := [.int 0, .ref ao]) ⟨hx, hb, hml, hown, hts⟩ (cx_X0_pass l hfl G cI cZ h a F nq no np sh nw s.heap.size x (by omega)) (cwV 1 hts gL_pass_X0_pass rfl rfl rfl (by decide +kernel) ⟨(Nat.le_of_ble_eq_true rfl), (Nat.le_of_ble_eq_true rfl)⟩) ⟨wPreX_blind, va_recv hK hP (ci := 0) (q0 := 0) rfl rfl, w_preX (hK.sub [0, 1] rfl) (hP.sub [0, 1, 2, 3, 4, 5, 6, 7, 8, 9, 10, 11] rfl) (hD.sub [0, 1, 2, 3, 4, 5, 6, 7, 8, 9, 10, 11] (by decide) rfl) (va_free hD hS hA [0, 1, 2, 3, 4, 5, 6, 7, 8, 9, 10, 11] rfl) hS hZ⟩ rfl rfl hl.1 rfl (lv_room (Nat.le_of_ble_eq_true rfl)) dL_pass_4 ⟨(Nat.le_of_ble_eq_true rfl), (Nat.le_of_ble_eq_true rfl)⟩) hP hD hS hA [0, 1, 2, 3, 4, 5, 6, 7, 8, 9, 10, 11] [12] rfl rfl (by decide) (by decide) (fun E ce q9 H locs hbad hP hD hS hce hcv hcl => ?_) (fun r u H locs hw hP hD hS => ?_)
  · have hP := hP.sub (ws' := (Dk cI cZ h a F nq no np sh nw) ++ [(ao, .inl (cL, 1, .inr (.inl g)))]) [1, 2, 3, 4, 5, 6, 7, 8, 9, 10, 11, 12, 0] rfl
    have hD := hD.sub (ws' := (Dk cI cZ h a F nq no np sh nw) ++ [(ao, .inl (cL, 1, .inr (.inl g)))]) [1, 2, 3, 4, 5, 6, 7, 8, 9, 10, 11, 12, 0] (by decide) rfl
    obtain ⟨rfl, hk⟩ := hbad
    refine vx_catch (name := "java/lang/IllegalArgumentException") hown [] ⟨0, 9, 12, 25⟩ [] htab (fun z h => nomatch h) (by decide) (by decide) (hts (.classLink RL 25 "java/lang/IllegalArgumentException") (by decide +kernel)) (hZ.2.2.1 (.castable xA xA) (by decide +kernel) _) hce hcv hcl ?_
    refine lv_astore_n (lv' := [(3, .ref q9), (0, .ref h), (1, .int x), (2, .ref ao)]) hx hb dL_pass_12 rfl hl (by decide) rfl (fun ls hl => ?_)
    refine lv_iconst (v := 1) hx hb dL_pass_13 (by decide) ?_
    have hP : va_P G vwCl ((Dk cI cZ h a F nq no np sh (nx (k1 (p_wi x 1 200)) (nw + x) nw)) ++ [(ao, .inl (cL, 1, .inr (.inl g)))]) H := by simp only [hk, nx1]; exact hP
    have hD : va_D A ((Dk cI cZ h a F nq no np sh (nx (k1 (p_wi x 1 200)) (nw + x) nw)) ++ [(ao, .inl (cL, 1, .inr (.inl g)))]) := by simp only [hk, nx1]; exact hD
    exact w_iret g hx hb hr hlocks hK hP hD hS (Nat.le_of_ble_eq_true rfl) (Nat.le_of_ble_eq_true rfl) dL_pass_14 ⟨hk.symm, fun hh9 => by rw [hk] at hh9; exact absurd hh9 (by decide)⟩
  · obtain ⟨hk, hr9⟩ := (show k1 (p_wi x 1 200) = 0 ∧ r = a_pa F sh nw no x.toNatClampNeg from hw)
    subst r
    have hP := hP.sub (ws' := (Dk cI cZ h a F nq no np sh (nw + x)) ++ [(ao, .inl (cL, 1, .inr (.inl g)))]) [1, 2, 3, 4, 5, 6, 7, 8, 9, 10, 11, 12, 0] rfl
    have hD := hD.sub (ws' := (Dk cI cZ h a F nq no np sh (nw + x)) ++ [(ao, .inl (cL, 1, .inr (.inl g)))]) [1, 2, 3, 4, 5, 6, 7, 8, 9, 10, 11, 12, 0] (by decide) rfl
    refine lv_i2l (v := (a_pa F sh nw no x.toNatClampNeg).toInt64) hx hb dL_pass_7 rfl ?_
    refine va_last hx hb hK hP hD hS 12 2 rfl rfl (f := g) (x := (a_pa F sh nw no x.toNatClampNeg).toInt64) (show vp_in 0 1 from vp_in_nI (n := 0) (by omega) (by omega)) dL_pass_8 (fun H locs hP hD hS => ?_)
    rw [sb_cl0] at hP hD
    have hP : va_P G vwCl ((Dk cI cZ h a F nq no np sh (nw + x)) ++ [(ao, .inl (cL, 1, .inr (.inl (vp_updL g 0 ((a_pa F sh nw no x.toNatClampNeg).toInt64)))))]) H := hP
    have hD : va_D A ((Dk cI cZ h a F nq no np sh (nw + x)) ++ [(ao, .inl (cL, 1, .inr (.inl (vp_updL g 0 ((a_pa F sh nw no x.toNatClampNeg).toInt64)))))]) := hD
    refine lv_goto (tgt := 15) hx hb dL_pass_9 (by decide) ?_
    refine lv_iconst (v := 0) hx hb dL_pass_15 (by decide) ?_
    have hP : va_P G vwCl ((Dk cI cZ h a F nq no np sh (nx (k1 (p_wi x 1 200)) (nw + x) nw)) ++ [(ao, .inl (cL, 1, .inr (.inl (vp_updL g 0 ((a_pa F sh nw no x.toNatClampNeg).toInt64)))))]) H := by simp only [hk, nx0]; exact hP
    have hD : va_D A ((Dk cI cZ h a F nq no np sh (nx (k1 (p_wi x 1 200)) (nw + x) nw)) ++ [(ao, .inl (cL, 1, .inr (.inl (vp_updL g 0 ((a_pa F sh nw no x.toNatClampNeg).toInt64)))))]) := by simp only [hk, nx0]; exact hD
    exact w_iret (vp_updL g 0 ((a_pa F sh nw no x.toNatClampNeg).toInt64)) hx hb hr hlocks hK hP hD hS (Nat.le_of_ble_eq_true rfl) (Nat.le_of_ble_eq_true rfl) dL_pass_16 ⟨hk.symm, fun _ => pk_uLs⟩
set_option maxHeartbeats 4000000 in
set_option maxRecDepth 100000 in
theorem c_L_duskIn (l : Launch) (hfl : l.flags = flags0) (G : va_G) (cI cZ cL : ClassId) (h : Nat) (a : Nat → Nat) (F : Nat → Nat → Int32) (nq no np : Nat) (sh nw : Int32) (ao : Nat) (g : Nat → Int64) (sz : Nat) (x : Int32) : Met l yL_duskIn wsL_duskIn ({ frames := 8, cells := 1, slots := 6, locals := 125 } : Room) (va_Pc [.ref h, .int x, .ref ao] (wPreL G (ty3 cI cZ cL) ((Dk cI cZ h a F nq no np sh nw) ++ [(ao, .inl (cL, 1, .inr (.inl g)))]) sz)) (va_Qi (fun (r : Int32) (u : Nat → Int64) => r = k1 (p_wi x 0 99) ∧ (k1 (p_wi x 0 99) = 0 → u 0 = (p_dusk (nw / 48 + x) sh).toInt64)) (fun u => wP G (ty3 cI cZ cL) ((Dk cI cZ h a F nq no np sh nw) ++ [(ao, .inl (cL, 1, .inr (.inl u)))]) (va_A ((Dk cI cZ h a F nq no np sh nw) ++ [(ao, .inl (cL, 1, .inr (.inl g)))]) sz)) (va_A ((Dk cI cZ h a F nq no np sh nw) ++ [(ao, .inl (cL, 1, .inr (.inl g)))]) sz)) 1 6 (va_A ((Dk cI cZ h a F nq no np sh nw) ++ [(ao, .inl (cL, 1, .inr (.inl g)))]) sz) := by
  refine w_metW (cc := cL_duskIn) (maxL := 4) (ret := (some .int)) (hh := [(0, 9, 12, 25)]) (by decide) rfl (Nat.le_of_ble_eq_true rfl) ?_
  intro pg e s m below meth cd hx hb hml hr hts hown hlocks hnm htab hZ hNn hK hsz hP hD hA hS ls hl
  have hown : s.vm.findClass RL = some m.cls := hown
  have hl : lv_has ls 4 [(0, .ref h), (1, .int x), (2, .ref ao)] := hl
  generalize hAe : va_A ((Dk cI cZ h a F nq no np sh nw) ++ [(ao, .inl (cL, 1, .inr (.inl g)))]) sz = A at hD hA hS hZ ⊢
  refine lv_aload_n hx hb dL_duskIn_0 rfl (lv_at hl 2 rfl) ?_
  refine lv_iconst (v := 0) hx hb dL_duskIn_1 (by decide) ?_
  refine lv_aload_n hx hb dL_duskIn_2 rfl (lv_at hl 0 rfl) ?_
  refine lv_iload_n hx hb dL_duskIn_3 rfl (lv_at hl 1 rfl) ?_
  refine w_cat_i (wr := [(ao, .inl (cL, 1, .inr (.inl g)))]) (vx_runV (As := [.int x]) (rest := [.int 0, .ref ao]) ⟨hx, hb, hml, hown, hts⟩ (cx_X0_duskIn l hfl G cI cZ h a F nq no np sh nw s.heap.size x ) (cwV 1 hts gL_duskIn_X0_duskIn rfl rfl rfl (by decide +kernel) ⟨(Nat.le_of_ble_eq_true rfl), (Nat.le_of_ble_eq_true rfl)⟩) ⟨wPreX_blind, va_recv hK hP (ci := 0) (q0 := 0) rfl rfl, w_preX (hK.sub [0, 1] rfl) (hP.sub [0, 1, 2, 3, 4, 5, 6, 7, 8, 9, 10, 11] rfl) (hD.sub [0, 1, 2, 3, 4, 5, 6, 7, 8, 9, 10, 11] (by decide) rfl) (va_free hD hS hA [0, 1, 2, 3, 4, 5, 6, 7, 8, 9, 10, 11] rfl) hS hZ⟩ rfl rfl hl.1 rfl (lv_room (Nat.le_of_ble_eq_true rfl)) dL_duskIn_4 ⟨(Nat.le_of_ble_eq_true rfl), (Nat.le_of_ble_eq_true rfl)⟩) hP hD hS hA [0, 1, 2, 3, 4, 5, 6, 7, 8, 9, 10, 11] [12] rfl rfl (by decide) (by decide) (fun E ce q9 H locs hbad hP hD hS hce hcv hcl => ?_) (fun r u H locs hw hP hD hS => ?_)
  · have hP := hP.sub (ws' := (Dk cI cZ h a F nq no np sh nw) ++ [(ao, .inl (cL, 1, .inr (.inl g)))]) [1, 2, 3, 4, 5, 6, 7, 8, 9, 10, 11, 12, 0] rfl
    have hD := hD.sub (ws' := (Dk cI cZ h a F nq no np sh nw) ++ [(ao, .inl (cL, 1, .inr (.inl g)))]) [1, 2, 3, 4, 5, 6, 7, 8, 9, 10, 11, 12, 0] (by decide) rfl
    obtain ⟨rfl, hk⟩ := hbad
    refine vx_catch (name := "java/lang/IllegalArgumentException") hown [] ⟨0, 9, 12, 25⟩ [] htab (fun z h => nomatch h) (by decide) (by decide) (hts (.classLink RL 25 "java/lang/IllegalArgumentException") (by decide +kernel)) (hZ.2.2.1 (.castable xA xA) (by decide +kernel) _) hce hcv hcl ?_
    refine lv_astore_n (lv' := [(3, .ref q9), (0, .ref h), (1, .int x), (2, .ref ao)]) hx hb dL_duskIn_12 rfl hl (by decide) rfl (fun ls hl => ?_)
    refine lv_iconst (v := 1) hx hb dL_duskIn_13 (by decide) ?_
    exact w_iret g hx hb hr hlocks hK hP hD hS (Nat.le_of_ble_eq_true rfl) (Nat.le_of_ble_eq_true rfl) dL_duskIn_14 ⟨hk.symm, fun hh9 => by rw [hk] at hh9; exact absurd hh9 (by decide)⟩
  · obtain ⟨hk, hr9⟩ := (show k1 (p_wi x 0 99) = 0 ∧ r = p_dusk (nw / 48 + x) sh from hw)
    subst r
    have hP := hP.sub (ws' := (Dk cI cZ h a F nq no np sh nw) ++ [(ao, .inl (cL, 1, .inr (.inl g)))]) [1, 2, 3, 4, 5, 6, 7, 8, 9, 10, 11, 12, 0] rfl
    have hD := hD.sub (ws' := (Dk cI cZ h a F nq no np sh nw) ++ [(ao, .inl (cL, 1, .inr (.inl g)))]) [1, 2, 3, 4, 5, 6, 7, 8, 9, 10, 11, 12, 0] (by decide) rfl
    refine lv_i2l (v := (p_dusk (nw / 48 + x) sh).toInt64) hx hb dL_duskIn_7 rfl ?_
    refine va_last hx hb hK hP hD hS 12 2 rfl rfl (f := g) (x := (p_dusk (nw / 48 + x) sh).toInt64) (show vp_in 0 1 from vp_in_nI (n := 0) (by omega) (by omega)) dL_duskIn_8 (fun H locs hP hD hS => ?_)
    rw [sb_cl0] at hP hD
    have hP : va_P G vwCl ((Dk cI cZ h a F nq no np sh nw) ++ [(ao, .inl (cL, 1, .inr (.inl (vp_updL g 0 ((p_dusk (nw / 48 + x) sh).toInt64)))))]) H := hP
    have hD : va_D A ((Dk cI cZ h a F nq no np sh nw) ++ [(ao, .inl (cL, 1, .inr (.inl (vp_updL g 0 ((p_dusk (nw / 48 + x) sh).toInt64)))))]) := hD
    refine lv_goto (tgt := 15) hx hb dL_duskIn_9 (by decide) ?_
    refine lv_iconst (v := 0) hx hb dL_duskIn_15 (by decide) ?_
    exact w_iret (vp_updL g 0 ((p_dusk (nw / 48 + x) sh).toInt64)) hx hb hr hlocks hK hP hD hS (Nat.le_of_ble_eq_true rfl) (Nat.le_of_ble_eq_true rfl) dL_duskIn_16 ⟨hk.symm, fun _ => pk_uLs⟩
set_option maxHeartbeats 4000000 in
set_option maxRecDepth 100000 in
theorem c_L_dawnIn (l : Launch) (hfl : l.flags = flags0) (G : va_G) (cI cZ cL : ClassId) (h : Nat) (a : Nat → Nat) (F : Nat → Nat → Int32) (nq no np : Nat) (sh nw : Int32) (ao : Nat) (g : Nat → Int64) (sz : Nat) (x : Int32) : Met l yL_dawnIn wsL_dawnIn ({ frames := 8, cells := 1, slots := 6, locals := 125 } : Room) (va_Pc [.ref h, .int x, .ref ao] (wPreL G (ty3 cI cZ cL) ((Dk cI cZ h a F nq no np sh nw) ++ [(ao, .inl (cL, 1, .inr (.inl g)))]) sz)) (va_Qi (fun (r : Int32) (u : Nat → Int64) => r = k1 (p_wi x 0 99) ∧ (k1 (p_wi x 0 99) = 0 → u 0 = (p_dawn (nw / 48 + x)).toInt64)) (fun u => wP G (ty3 cI cZ cL) ((Dk cI cZ h a F nq no np sh nw) ++ [(ao, .inl (cL, 1, .inr (.inl u)))]) (va_A ((Dk cI cZ h a F nq no np sh nw) ++ [(ao, .inl (cL, 1, .inr (.inl g)))]) sz)) (va_A ((Dk cI cZ h a F nq no np sh nw) ++ [(ao, .inl (cL, 1, .inr (.inl g)))]) sz)) 1 6 (va_A ((Dk cI cZ h a F nq no np sh nw) ++ [(ao, .inl (cL, 1, .inr (.inl g)))]) sz) := by
  refine w_metW (cc := cL_dawnIn) (maxL := 4) (ret := (some .int)) (hh := [(0, 9, 12, 25)]) (by decide) rfl (Nat.le_of_ble_eq_true rfl) ?_
  intro pg e s m below meth cd hx hb hml hr hts hown hlocks hnm htab hZ hNn hK hsz hP hD hA hS ls hl
  have hown : s.vm.findClass RL = some m.cls := hown
  have hl : lv_has ls 4 [(0, .ref h), (1, .int x), (2, .ref ao)] := hl
  generalize hAe : va_A ((Dk cI cZ h a F nq no np sh nw) ++ [(ao, .inl (cL, 1, .inr (.inl g)))]) sz = A at hD hA hS hZ ⊢
  refine lv_aload_n hx hb dL_dawnIn_0 rfl (lv_at hl 2 rfl) ?_
  refine lv_iconst (v := 0) hx hb dL_dawnIn_1 (by decide) ?_
  refine lv_aload_n hx hb dL_dawnIn_2 rfl (lv_at hl 0 rfl) ?_
  refine lv_iload_n hx hb dL_dawnIn_3 rfl (lv_at hl 1 rfl) ?_
  refine w_cat_i (wr := [(ao, .inl (cL, 1, .inr (.inl g)))]) (vx_runV (As := [.int x]) (rest := [.int 0, .ref ao]) ⟨hx, hb, hml, hown, hts⟩ (cx_X0_dawnIn l hfl G cI cZ h a F nq no np sh nw s.heap.size x ) (cwV 1 hts gL_dawnIn_X0_dawnIn rfl rfl rfl (by decide +kernel) ⟨(Nat.le_of_ble_eq_true rfl), (Nat.le_of_ble_eq_true rfl)⟩) ⟨wPreX_blind, va_recv hK hP (ci := 0) (q0 := 0) rfl rfl, w_preX (hK.sub [0, 1] rfl) (hP.sub [0, 1, 2, 3, 4, 5, 6, 7, 8, 9, 10, 11] rfl) (hD.sub [0, 1, 2, 3, 4, 5, 6, 7, 8, 9, 10, 11] (by decide) rfl) (va_free hD hS hA [0, 1, 2, 3, 4, 5, 6, 7, 8, 9, 10, 11] rfl) hS hZ⟩ rfl rfl hl.1 rfl (lv_room (Nat.le_of_ble_eq_true rfl)) dL_dawnIn_4 ⟨(Nat.le_of_ble_eq_true rfl), (Nat.le_of_ble_eq_true rfl)⟩) hP hD hS hA [0, 1, 2, 3, 4, 5, 6, 7, 8, 9, 10, 11] [12] rfl rfl (by decide) (by decide) (fun E ce q9 H locs hbad hP hD hS hce hcv hcl => ?_) (fun r u H locs hw hP hD hS => ?_)
  · have hP := hP.sub (ws' := (Dk cI cZ h a F nq no np sh nw) ++ [(ao, .inl (cL, 1, .inr (.inl g)))]) [1, 2, 3, 4, 5, 6, 7, 8, 9, 10, 11, 12, 0] rfl
    have hD := hD.sub (ws' := (Dk cI cZ h a F nq no np sh nw) ++ [(ao, .inl (cL, 1, .inr (.inl g)))]) [1, 2, 3, 4, 5, 6, 7, 8, 9, 10, 11, 12, 0] (by decide) rfl
    obtain ⟨rfl, hk⟩ := hbad
    refine vx_catch (name := "java/lang/IllegalArgumentException") hown [] ⟨0, 9, 12, 25⟩ [] htab (fun z h => nomatch h) (by decide) (by decide) (hts (.classLink RL 25 "java/lang/IllegalArgumentException") (by decide +kernel)) (hZ.2.2.1 (.castable xA xA) (by decide +kernel) _) hce hcv hcl ?_
    refine lv_astore_n (lv' := [(3, .ref q9), (0, .ref h), (1, .int x), (2, .ref ao)]) hx hb dL_dawnIn_12 rfl hl (by decide) rfl (fun ls hl => ?_)
    refine lv_iconst (v := 1) hx hb dL_dawnIn_13 (by decide) ?_
    exact w_iret g hx hb hr hlocks hK hP hD hS (Nat.le_of_ble_eq_true rfl) (Nat.le_of_ble_eq_true rfl) dL_dawnIn_14 ⟨hk.symm, fun hh9 => by rw [hk] at hh9; exact absurd hh9 (by decide)⟩
  · obtain ⟨hk, hr9⟩ := (show k1 (p_wi x 0 99) = 0 ∧ r = p_dawn (nw / 48 + x) from hw)
    subst r
    have hP := hP.sub (ws' := (Dk cI cZ h a F nq no np sh nw) ++ [(ao, .inl (cL, 1, .inr (.inl g)))]) [1, 2, 3, 4, 5, 6, 7, 8, 9, 10, 11, 12, 0] rfl
    have hD := hD.sub (ws' := (Dk cI cZ h a F nq no np sh nw) ++ [(ao, .inl (cL, 1, .inr (.inl g)))]) [1, 2, 3, 4, 5, 6, 7, 8, 9, 10, 11, 12, 0] (by decide) rfl
    refine lv_i2l (v := (p_dawn (nw / 48 + x)).toInt64) hx hb dL_dawnIn_7 rfl ?_
    refine va_last hx hb hK hP hD hS 12 2 rfl rfl (f := g) (x := (p_dawn (nw / 48 + x)).toInt64) (show vp_in 0 1 from vp_in_nI (n := 0) (by omega) (by omega)) dL_dawnIn_8 (fun H locs hP hD hS => ?_)
    rw [sb_cl0] at hP hD
    have hP : va_P G vwCl ((Dk cI cZ h a F nq no np sh nw) ++ [(ao, .inl (cL, 1, .inr (.inl (vp_updL g 0 ((p_dawn (nw / 48 + x)).toInt64)))))]) H := hP
    have hD : va_D A ((Dk cI cZ h a F nq no np sh nw) ++ [(ao, .inl (cL, 1, .inr (.inl (vp_updL g 0 ((p_dawn (nw / 48 + x)).toInt64)))))]) := hD
    refine lv_goto (tgt := 15) hx hb dL_dawnIn_9 (by decide) ?_
    refine lv_iconst (v := 0) hx hb dL_dawnIn_15 (by decide) ?_
    exact w_iret (vp_updL g 0 ((p_dawn (nw / 48 + x)).toInt64)) hx hb hr hlocks hK hP hD hS (Nat.le_of_ble_eq_true rfl) (Nat.le_of_ble_eq_true rfl) dL_dawnIn_16 ⟨hk.symm, fun _ => pk_uLs⟩
set_option maxHeartbeats 4000000 in
set_option maxRecDepth 100000 in
theorem c_L_quarterOf (l : Launch) (hfl : l.flags = flags0) (G : va_G) (cI cZ cL : ClassId) (h : Nat) (a : Nat → Nat) (F : Nat → Nat → Int32) (nq no np : Nat) (sh nw : Int32) (ao : Nat) (g : Nat → Int64) (sz : Nat) (x : Int32) (hno : no ≤ 10) : Met l yL_quarterOf wsL_quarterOf ({ frames := 8, cells := 1, slots := 6, locals := 124 } : Room) (va_Pc [.ref h, .int x, .ref ao] (wPreL G (ty3 cI cZ cL) ((Dk cI cZ h a F nq no np sh nw) ++ [(ao, .inl (cL, 1, .inr (.inl g)))]) sz)) (va_Qi (fun (r : Int32) (u : Nat → Int64) => r = k1 (p_in x no) ∧ (k1 (p_in x no) = 0 → u 0 = (F 0 x.toNatClampNeg).toInt64)) (fun u => wP G (ty3 cI cZ cL) ((Dk cI cZ h a F nq no np sh nw) ++ [(ao, .inl (cL, 1, .inr (.inl u)))]) (va_A ((Dk cI cZ h a F nq no np sh nw) ++ [(ao, .inl (cL, 1, .inr (.inl g)))]) sz)) (va_A ((Dk cI cZ h a F nq no np sh nw) ++ [(ao, .inl (cL, 1, .inr (.inl g)))]) sz)) 1 6 (va_A ((Dk cI cZ h a F nq no np sh nw) ++ [(ao, .inl (cL, 1, .inr (.inl g)))]) sz) := by
  refine w_metW (cc := cL_quarterOf) (maxL := 4) (ret := (some .int)) (hh := [(0, 9, 12, 19)]) (by decide) rfl (Nat.le_of_ble_eq_true rfl) ?_
  intro pg e s m below meth cd hx hb hml hr hts hown hlocks hnm htab hZ hNn hK hsz hP hD hA hS ls hl
  have hown : s.vm.findClass RL = some m.cls := hown
  have hl : lv_has ls 4 [(0, .ref h), (1, .int x), (2, .ref ao)] := hl
  generalize hAe : va_A ((Dk cI cZ h a F nq no np sh nw) ++ [(ao, .inl (cL, 1, .inr (.inl g)))]) sz = A at hD hA hS hZ ⊢
  refine lv_aload_n hx hb dL_quarterOf_0 rfl (lv_at hl 2 rfl) ?_
  refine lv_iconst (v := 0) hx hb dL_quarterOf_1 (by decide) ?_
  refine lv_aload_n hx hb dL_quarterOf_2 rfl (lv_at hl 0 rfl) ?_
  refine lv_iload_n hx hb dL_quarterOf_3 rfl (lv_at hl 1 rfl) ?_
  refine w_cat_i (wr := [(ao, .inl (cL, 1, .inr (.inl g)))]) (vx_runV (As := [.int x]) (rest := [.int 0, .ref ao]) ⟨hx, hb, hml, hown, hts⟩ (cx_X0_quarterOf l hfl G cI cZ h a F nq no np sh nw s.heap.size x (by omega)) (cwV 1 hts gL_quarterOf_X0_quarterOf rfl rfl rfl (by decide +kernel) ⟨(Nat.le_of_ble_eq_true rfl), (Nat.le_of_ble_eq_true rfl)⟩) ⟨wPreX_blind, va_recv hK hP (ci := 0) (q0 := 0) rfl rfl, w_preX (hK.sub [0, 1] rfl) (hP.sub [0, 1, 2, 3, 4, 5, 6, 7, 8, 9, 10, 11] rfl) (hD.sub [0, 1, 2, 3, 4, 5, 6, 7, 8, 9, 10, 11] (by decide) rfl) (va_free hD hS hA [0, 1, 2, 3, 4, 5, 6, 7, 8, 9, 10, 11] rfl) hS hZ⟩ rfl rfl hl.1 rfl (lv_room (Nat.le_of_ble_eq_true rfl)) dL_quarterOf_4 ⟨(Nat.le_of_ble_eq_true rfl), (Nat.le_of_ble_eq_true rfl)⟩) hP hD hS hA [0, 1, 2, 3, 4, 5, 6, 7, 8, 9, 10, 11] [12] rfl rfl (by decide) (by decide) (fun E ce q9 H locs hbad hP hD hS hce hcv hcl => ?_) (fun r u H locs hw hP hD hS => ?_)
  · have hP := hP.sub (ws' := (Dk cI cZ h a F nq no np sh nw) ++ [(ao, .inl (cL, 1, .inr (.inl g)))]) [1, 2, 3, 4, 5, 6, 7, 8, 9, 10, 11, 12, 0] rfl
    have hD := hD.sub (ws' := (Dk cI cZ h a F nq no np sh nw) ++ [(ao, .inl (cL, 1, .inr (.inl g)))]) [1, 2, 3, 4, 5, 6, 7, 8, 9, 10, 11, 12, 0] (by decide) rfl
    obtain ⟨rfl, hk⟩ := hbad
    refine vx_catch (name := "java/lang/IndexOutOfBoundsException") hown [] ⟨0, 9, 12, 19⟩ [] htab (fun z h => nomatch h) (by decide) (by decide) (hts (.classLink RL 19 "java/lang/IndexOutOfBoundsException") (by decide +kernel)) (hZ.2.2.1 (.castable xI xI) (by decide +kernel) _) hce hcv hcl ?_
    refine lv_astore_n (lv' := [(3, .ref q9), (0, .ref h), (1, .int x), (2, .ref ao)]) hx hb dL_quarterOf_12 rfl hl (by decide) rfl (fun ls hl => ?_)
    refine lv_iconst (v := 1) hx hb dL_quarterOf_13 (by decide) ?_
    exact w_iret g hx hb hr hlocks hK hP hD hS (Nat.le_of_ble_eq_true rfl) (Nat.le_of_ble_eq_true rfl) dL_quarterOf_14 ⟨hk.symm, fun hh9 => by rw [hk] at hh9; exact absurd hh9 (by decide)⟩
  · obtain ⟨hk, hr9⟩ := (show k1 (p_in x no) = 0 ∧ r = F 0 x.toNatClampNeg from hw)
    subst r
    have hP := hP.sub (ws' := (Dk cI cZ h a F nq no np sh nw) ++ [(ao, .inl (cL, 1, .inr (.inl g)))]) [1, 2, 3, 4, 5, 6, 7, 8, 9, 10, 11, 12, 0] rfl
    have hD := hD.sub (ws' := (Dk cI cZ h a F nq no np sh nw) ++ [(ao, .inl (cL, 1, .inr (.inl g)))]) [1, 2, 3, 4, 5, 6, 7, 8, 9, 10, 11, 12, 0] (by decide) rfl
    refine lv_i2l (v := (F 0 x.toNatClampNeg).toInt64) hx hb dL_quarterOf_7 rfl ?_
    refine va_last hx hb hK hP hD hS 12 2 rfl rfl (f := g) (x := (F 0 x.toNatClampNeg).toInt64) (show vp_in 0 1 from vp_in_nI (n := 0) (by omega) (by omega)) dL_quarterOf_8 (fun H locs hP hD hS => ?_)
    rw [sb_cl0] at hP hD
    have hP : va_P G vwCl ((Dk cI cZ h a F nq no np sh nw) ++ [(ao, .inl (cL, 1, .inr (.inl (vp_updL g 0 ((F 0 x.toNatClampNeg).toInt64)))))]) H := hP
    have hD : va_D A ((Dk cI cZ h a F nq no np sh nw) ++ [(ao, .inl (cL, 1, .inr (.inl (vp_updL g 0 ((F 0 x.toNatClampNeg).toInt64)))))]) := hD
    refine lv_goto (tgt := 15) hx hb dL_quarterOf_9 (by decide) ?_
    refine lv_iconst (v := 0) hx hb dL_quarterOf_15 (by decide) ?_
    exact w_iret (vp_updL g 0 ((F 0 x.toNatClampNeg).toInt64)) hx hb hr hlocks hK hP hD hS (Nat.le_of_ble_eq_true rfl) (Nat.le_of_ble_eq_true rfl) dL_quarterOf_16 ⟨hk.symm, fun _ => pk_uLs⟩
set_option maxHeartbeats 4000000 in
set_option maxRecDepth 100000 in
theorem c_L_colourOf (l : Launch) (hfl : l.flags = flags0) (G : va_G) (cI cZ cL : ClassId) (h : Nat) (a : Nat → Nat) (F : Nat → Nat → Int32) (nq no np : Nat) (sh nw : Int32) (ao : Nat) (g : Nat → Int64) (sz : Nat) (x : Int32) (hno : no ≤ 10) : Met l yL_colourOf wsL_colourOf ({ frames := 8, cells := 1, slots := 6, locals := 124 } : Room) (va_Pc [.ref h, .int x, .ref ao] (wPreL G (ty3 cI cZ cL) ((Dk cI cZ h a F nq no np sh nw) ++ [(ao, .inl (cL, 1, .inr (.inl g)))]) sz)) (va_Qi (fun (r : Int32) (u : Nat → Int64) => r = k1 (p_in x no) ∧ (k1 (p_in x no) = 0 → u 0 = (F 3 x.toNatClampNeg).toInt64)) (fun u => wP G (ty3 cI cZ cL) ((Dk cI cZ h a F nq no np sh nw) ++ [(ao, .inl (cL, 1, .inr (.inl u)))]) (va_A ((Dk cI cZ h a F nq no np sh nw) ++ [(ao, .inl (cL, 1, .inr (.inl g)))]) sz)) (va_A ((Dk cI cZ h a F nq no np sh nw) ++ [(ao, .inl (cL, 1, .inr (.inl g)))]) sz)) 1 6 (va_A ((Dk cI cZ h a F nq no np sh nw) ++ [(ao, .inl (cL, 1, .inr (.inl g)))]) sz) := by
  refine w_metW (cc := cL_colourOf) (maxL := 4) (ret := (some .int)) (hh := [(0, 9, 12, 19)]) (by decide) rfl (Nat.le_of_ble_eq_true rfl) ?_
  intro pg e s m below meth cd hx hb hml hr hts hown hlocks hnm htab hZ hNn hK hsz hP hD hA hS ls hl
  have hown : s.vm.findClass RL = some m.cls := hown
  have hl : lv_has ls 4 [(0, .ref h), (1, .int x), (2, .ref ao)] := hl
  generalize hAe : va_A ((Dk cI cZ h a F nq no np sh nw) ++ [(ao, .inl (cL, 1, .inr (.inl g)))]) sz = A at hD hA hS hZ ⊢
  refine lv_aload_n hx hb dL_colourOf_0 rfl (lv_at hl 2 rfl) ?_
  refine lv_iconst (v := 0) hx hb dL_colourOf_1 (by decide) ?_
  refine lv_aload_n hx hb dL_colourOf_2 rfl (lv_at hl 0 rfl) ?_
  refine lv_iload_n hx hb dL_colourOf_3 rfl (lv_at hl 1 rfl) ?_
  refine w_cat_i (wr := [(ao, .inl (cL, 1, .inr (.inl g)))]) (vx_runV (As := [.int x]) (rest := [.int 0, .ref ao]) ⟨hx, hb, hml, hown, hts⟩ (cx_X0_colourOf l hfl G cI cZ h a F nq no np sh nw s.heap.size x (by omega)) (cwV 1 hts gL_colourOf_X0_colourOf rfl rfl rfl (by decide +kernel) ⟨(Nat.le_of_ble_eq_true rfl), (Nat.le_of_ble_eq_true rfl)⟩) ⟨wPreX_blind, va_recv hK hP (ci := 0) (q0 := 0) rfl rfl, w_preX (hK.sub [0, 1] rfl) (hP.sub [0, 1, 2, 3, 4, 5, 6, 7, 8, 9, 10, 11] rfl) (hD.sub [0, 1, 2, 3, 4, 5, 6, 7, 8, 9, 10, 11] (by decide) rfl) (va_free hD hS hA [0, 1, 2, 3, 4, 5, 6, 7, 8, 9, 10, 11] rfl) hS hZ⟩ rfl rfl hl.1 rfl (lv_room (Nat.le_of_ble_eq_true rfl)) dL_colourOf_4 ⟨(Nat.le_of_ble_eq_true rfl), (Nat.le_of_ble_eq_true rfl)⟩) hP hD hS hA [0, 1, 2, 3, 4, 5, 6, 7, 8, 9, 10, 11] [12] rfl rfl (by decide) (by decide) (fun E ce q9 H locs hbad hP hD hS hce hcv hcl => ?_) (fun r u H locs hw hP hD hS => ?_)
  · have hP := hP.sub (ws' := (Dk cI cZ h a F nq no np sh nw) ++ [(ao, .inl (cL, 1, .inr (.inl g)))]) [1, 2, 3, 4, 5, 6, 7, 8, 9, 10, 11, 12, 0] rfl
    have hD := hD.sub (ws' := (Dk cI cZ h a F nq no np sh nw) ++ [(ao, .inl (cL, 1, .inr (.inl g)))]) [1, 2, 3, 4, 5, 6, 7, 8, 9, 10, 11, 12, 0] (by decide) rfl
    obtain ⟨rfl, hk⟩ := hbad
    refine vx_catch (name := "java/lang/IndexOutOfBoundsException") hown [] ⟨0, 9, 12, 19⟩ [] htab (fun z h => nomatch h) (by decide) (by decide) (hts (.classLink RL 19 "java/lang/IndexOutOfBoundsException") (by decide +kernel)) (hZ.2.2.1 (.castable xI xI) (by decide +kernel) _) hce hcv hcl ?_
    refine lv_astore_n (lv' := [(3, .ref q9), (0, .ref h), (1, .int x), (2, .ref ao)]) hx hb dL_colourOf_12 rfl hl (by decide) rfl (fun ls hl => ?_)
    refine lv_iconst (v := 1) hx hb dL_colourOf_13 (by decide) ?_
    exact w_iret g hx hb hr hlocks hK hP hD hS (Nat.le_of_ble_eq_true rfl) (Nat.le_of_ble_eq_true rfl) dL_colourOf_14 ⟨hk.symm, fun hh9 => by rw [hk] at hh9; exact absurd hh9 (by decide)⟩
  · obtain ⟨hk, hr9⟩ := (show k1 (p_in x no) = 0 ∧ r = F 3 x.toNatClampNeg from hw)
    subst r
    have hP := hP.sub (ws' := (Dk cI cZ h a F nq no np sh nw) ++ [(ao, .inl (cL, 1, .inr (.inl g)))]) [1, 2, 3, 4, 5, 6, 7, 8, 9, 10, 11, 12, 0] rfl
    have hD := hD.sub (ws' := (Dk cI cZ h a F nq no np sh nw) ++ [(ao, .inl (cL, 1, .inr (.inl g)))]) [1, 2, 3, 4, 5, 6, 7, 8, 9, 10, 11, 12, 0] (by decide) rfl
    refine lv_i2l (v := (F 3 x.toNatClampNeg).toInt64) hx hb dL_colourOf_7 rfl ?_
    refine va_last hx hb hK hP hD hS 12 2 rfl rfl (f := g) (x := (F 3 x.toNatClampNeg).toInt64) (show vp_in 0 1 from vp_in_nI (n := 0) (by omega) (by omega)) dL_colourOf_8 (fun H locs hP hD hS => ?_)
    rw [sb_cl0] at hP hD
    have hP : va_P G vwCl ((Dk cI cZ h a F nq no np sh nw) ++ [(ao, .inl (cL, 1, .inr (.inl (vp_updL g 0 ((F 3 x.toNatClampNeg).toInt64)))))]) H := hP
    have hD : va_D A ((Dk cI cZ h a F nq no np sh nw) ++ [(ao, .inl (cL, 1, .inr (.inl (vp_updL g 0 ((F 3 x.toNatClampNeg).toInt64)))))]) := hD
    refine lv_goto (tgt := 15) hx hb dL_colourOf_9 (by decide) ?_
    refine lv_iconst (v := 0) hx hb dL_colourOf_15 (by decide) ?_
    exact w_iret (vp_updL g 0 ((F 3 x.toNatClampNeg).toInt64)) hx hb hr hlocks hK hP hD hS (Nat.le_of_ble_eq_true rfl) (Nat.le_of_ble_eq_true rfl) dL_colourOf_16 ⟨hk.symm, fun _ => pk_uLs⟩
set_option maxHeartbeats 4000000 in
set_option maxRecDepth 100000 in
theorem c_L_isInForce (l : Launch) (hfl : l.flags = flags0) (G : va_G) (cI cZ cL : ClassId) (h : Nat) (a : Nat → Nat) (F : Nat → Nat → Int32) (nq no np : Nat) (sh nw : Int32) (ao : Nat) (g : Nat → Int64) (sz : Nat) (x : Int32) (hno : no ≤ 10) (H4 : ∀ j, F 4 j = 0 ∨ F 4 j = 1) : Met l yL_isInForce wsL_isInForce ({ frames := 8, cells := 1, slots := 6, locals := 124 } : Room) (va_Pc [.ref h, .int x, .ref ao] (wPreL G (ty3 cI cZ cL) ((Dk cI cZ h a F nq no np sh nw) ++ [(ao, .inl (cL, 1, .inr (.inl g)))]) sz)) (va_Qi (fun (r : Int32) (u : Nat → Int64) => r = k1 (p_in x no) ∧ (k1 (p_in x no) = 0 → u 0 = i2z (F 4 x.toNatClampNeg))) (fun u => wP G (ty3 cI cZ cL) ((Dk cI cZ h a F nq no np sh nw) ++ [(ao, .inl (cL, 1, .inr (.inl u)))]) (va_A ((Dk cI cZ h a F nq no np sh nw) ++ [(ao, .inl (cL, 1, .inr (.inl g)))]) sz)) (va_A ((Dk cI cZ h a F nq no np sh nw) ++ [(ao, .inl (cL, 1, .inr (.inl g)))]) sz)) 1 6 (va_A ((Dk cI cZ h a F nq no np sh nw) ++ [(ao, .inl (cL, 1, .inr (.inl g)))]) sz) := by
  refine w_metW (cc := cL_isInForce) (maxL := 4) (ret := (some .int)) (hh := [(0, 16, 19, 19)]) (by decide) rfl (Nat.le_of_ble_eq_true rfl) ?_
  intro pg e s m below meth cd hx hb hml hr hts hown hlocks hnm htab hZ hNn hK hsz hP hD hA hS ls hl
  have hown : s.vm.findClass RL = some m.cls := hown
  have hl : lv_has ls 4 [(0, .ref h), (1, .int x), (2, .ref ao)] := hl
  generalize hAe : va_A ((Dk cI cZ h a F nq no np sh nw) ++ [(ao, .inl (cL, 1, .inr (.inl g)))]) sz = A at hD hA hS hZ ⊢
  refine lv_aload_n hx hb dL_isInForce_0 rfl (lv_at hl 2 rfl) ?_
  refine lv_iconst (v := 0) hx hb dL_isInForce_1 (by decide) ?_
  refine lv_aload_n hx hb dL_isInForce_2 rfl (lv_at hl 0 rfl) ?_
  refine lv_iload_n hx hb dL_isInForce_3 rfl (lv_at hl 1 rfl) ?_
  refine w_cat_i (wr := [(ao, .inl (cL, 1, .inr (.inl g)))]) (vx_runV (As := [.int x]) (rest := [.int 0, .ref ao]) ⟨hx, hb, hml, hown, hts⟩ (cx_X0_isInForce l hfl G cI cZ h a F nq no np sh nw s.heap.size x (by omega) H4) (cwV 1 hts gL_isInForce_X0_isInForce rfl rfl rfl (by decide +kernel) ⟨(Nat.le_of_ble_eq_true rfl), (Nat.le_of_ble_eq_true rfl)⟩) ⟨wPreX_blind, va_recv hK hP (ci := 0) (q0 := 0) rfl rfl, w_preX (hK.sub [0, 1] rfl) (hP.sub [0, 1, 2, 3, 4, 5, 6, 7, 8, 9, 10, 11] rfl) (hD.sub [0, 1, 2, 3, 4, 5, 6, 7, 8, 9, 10, 11] (by decide) rfl) (va_free hD hS hA [0, 1, 2, 3, 4, 5, 6, 7, 8, 9, 10, 11] rfl) hS hZ⟩ rfl rfl hl.1 rfl (lv_room (Nat.le_of_ble_eq_true rfl)) dL_isInForce_4 ⟨(Nat.le_of_ble_eq_true rfl), (Nat.le_of_ble_eq_true rfl)⟩) hP hD hS hA [0, 1, 2, 3, 4, 5, 6, 7, 8, 9, 10, 11] [12] rfl rfl (by decide) (by decide) (fun E ce q9 H locs hbad hP hD hS hce hcv hcl => ?_) (fun r u H locs hw hP hD hS => ?_)
  · have hP := hP.sub (ws' := (Dk cI cZ h a F nq no np sh nw) ++ [(ao, .inl (cL, 1, .inr (.inl g)))]) [1, 2, 3, 4, 5, 6, 7, 8, 9, 10, 11, 12, 0] rfl
    have hD := hD.sub (ws' := (Dk cI cZ h a F nq no np sh nw) ++ [(ao, .inl (cL, 1, .inr (.inl g)))]) [1, 2, 3, 4, 5, 6, 7, 8, 9, 10, 11, 12, 0] (by decide) rfl
    obtain ⟨rfl, hk⟩ := hbad
    refine vx_catch (name := "java/lang/IndexOutOfBoundsException") hown [] ⟨0, 16, 19, 19⟩ [] htab (fun z h => nomatch h) (by decide) (by decide) (hts (.classLink RL 19 "java/lang/IndexOutOfBoundsException") (by decide +kernel)) (hZ.2.2.1 (.castable xI xI) (by decide +kernel) _) hce hcv hcl ?_
    refine lv_astore_n (lv' := [(3, .ref q9), (0, .ref h), (1, .int x), (2, .ref ao)]) hx hb dL_isInForce_19 rfl hl (by decide) rfl (fun ls hl => ?_)
    refine lv_iconst (v := 1) hx hb dL_isInForce_20 (by decide) ?_
    exact w_iret g hx hb hr hlocks hK hP hD hS (Nat.le_of_ble_eq_true rfl) (Nat.le_of_ble_eq_true rfl) dL_isInForce_21 ⟨hk.symm, fun hh9 => by rw [hk] at hh9; exact absurd hh9 (by decide)⟩
  · obtain ⟨hk, hr9⟩ := (show k1 (p_in x no) = 0 ∧ r = F 4 x.toNatClampNeg from hw)
    subst r
    have hP := hP.sub (ws' := (Dk cI cZ h a F nq no np sh nw) ++ [(ao, .inl (cL, 1, .inr (.inl g)))]) [1, 2, 3, 4, 5, 6, 7, 8, 9, 10, 11, 12, 0] rfl
    have hD := hD.sub (ws' := (Dk cI cZ h a F nq no np sh nw) ++ [(ao, .inl (cL, 1, .inr (.inl g)))]) [1, 2, 3, 4, 5, 6, 7, 8, 9, 10, 11, 12, 0] (by decide) rfl
    refine w_selL hx hb dL_isInForce_7 (by decide) dL_isInForce_10 dL_isInForce_11 (by decide) dL_isInForce_14 ?_
    refine va_last hx hb hK hP hD hS 12 2 rfl rfl (f := g) (x := i2z (F 4 x.toNatClampNeg)) (show vp_in 0 1 from vp_in_nI (n := 0) (by omega) (by omega)) dL_isInForce_15 (fun H locs hP hD hS => ?_)
    rw [sb_cl0] at hP hD
    have hP : va_P G vwCl ((Dk cI cZ h a F nq no np sh nw) ++ [(ao, .inl (cL, 1, .inr (.inl (vp_updL g 0 (i2z (F 4 x.toNatClampNeg))))))]) H := hP
    have hD : va_D A ((Dk cI cZ h a F nq no np sh nw) ++ [(ao, .inl (cL, 1, .inr (.inl (vp_updL g 0 (i2z (F 4 x.toNatClampNeg))))))]) := hD
    refine lv_goto (tgt := 22) hx hb dL_isInForce_16 (by decide) ?_
    refine lv_iconst (v := 0) hx hb dL_isInForce_22 (by decide) ?_
    exact w_iret (vp_updL g 0 (i2z (F 4 x.toNatClampNeg))) hx hb hr hlocks hK hP hD hS (Nat.le_of_ble_eq_true rfl) (Nat.le_of_ble_eq_true rfl) dL_isInForce_23 ⟨hk.symm, fun _ => pk_uLs⟩
set_option maxHeartbeats 4000000 in
set_option maxRecDepth 100000 in
theorem c_L_isOn (l : Launch) (hfl : l.flags = flags0) (G : va_G) (cI cZ cL : ClassId) (h : Nat) (a : Nat → Nat) (F : Nat → Nat → Int32) (nq no np : Nat) (sh nw : Int32) (ao : Nat) (g : Nat → Int64) (sz : Nat) (x : Int32) (hno : no ≤ 10) : Met l yL_isOn wsL_isOn ({ frames := 8, cells := 1, slots := 6, locals := 124 } : Room) (va_Pc [.ref h, .int x, .ref ao] (wPreL G (ty3 cI cZ cL) ((Dk cI cZ h a F nq no np sh nw) ++ [(ao, .inl (cL, 1, .inr (.inl g)))]) sz)) (va_Qi (fun (r : Int32) (u : Nat → Int64) => r = k1 (p_in x no) ∧ (k1 (p_in x no) = 0 → u 0 = i2z (b2i (p_on F sh x.toNatClampNeg nw)))) (fun u => wP G (ty3 cI cZ cL) ((Dk cI cZ h a F nq no np sh nw) ++ [(ao, .inl (cL, 1, .inr (.inl u)))]) (va_A ((Dk cI cZ h a F nq no np sh nw) ++ [(ao, .inl (cL, 1, .inr (.inl g)))]) sz)) (va_A ((Dk cI cZ h a F nq no np sh nw) ++ [(ao, .inl (cL, 1, .inr (.inl g)))]) sz)) 1 6 (va_A ((Dk cI cZ h a F nq no np sh nw) ++ [(ao, .inl (cL, 1, .inr (.inl g)))]) sz) := by
  refine w_metW (cc := cL_isOn) (maxL := 4) (ret := (some .int)) (hh := [(0, 16, 19, 19)]) (by decide) rfl (Nat.le_of_ble_eq_true rfl) ?_
  intro pg e s m below meth cd hx hb hml hr hts hown hlocks hnm htab hZ hNn hK hsz hP hD hA hS ls hl
  have hown : s.vm.findClass RL = some m.cls := hown
  have hl : lv_has ls 4 [(0, .ref h), (1, .int x), (2, .ref ao)] := hl
  generalize hAe : va_A ((Dk cI cZ h a F nq no np sh nw) ++ [(ao, .inl (cL, 1, .inr (.inl g)))]) sz = A at hD hA hS hZ ⊢
  refine lv_aload_n hx hb dL_isOn_0 rfl (lv_at hl 2 rfl) ?_
  refine lv_iconst (v := 0) hx hb dL_isOn_1 (by decide) ?_
  refine lv_aload_n hx hb dL_isOn_2 rfl (lv_at hl 0 rfl) ?_
  refine lv_iload_n hx hb dL_isOn_3 rfl (lv_at hl 1 rfl) ?_
  refine w_cat_i (wr := [(ao, .inl (cL, 1, .inr (.inl g)))]) (vx_runV (As := [.int x]) (rest := [.int 0, .ref ao]) ⟨hx, hb, hml, hown, hts⟩ (cx_X0_isOn l hfl G cI cZ h a F nq no np sh nw s.heap.size x (by omega)) (cwV 1 hts gL_isOn_X0_isOn rfl rfl rfl (by decide +kernel) ⟨(Nat.le_of_ble_eq_true rfl), (Nat.le_of_ble_eq_true rfl)⟩) ⟨wPreX_blind, va_recv hK hP (ci := 0) (q0 := 0) rfl rfl, w_preX (hK.sub [0, 1] rfl) (hP.sub [0, 1, 2, 3, 4, 5, 6, 7, 8, 9, 10, 11] rfl) (hD.sub [0, 1, 2, 3, 4, 5, 6, 7, 8, 9, 10, 11] (by decide) rfl) (va_free hD hS hA [0, 1, 2, 3, 4, 5, 6, 7, 8, 9, 10, 11] rfl) hS hZ⟩ rfl rfl hl.1 rfl (lv_room (Nat.le_of_ble_eq_true rfl)) dL_isOn_4 ⟨(Nat.le_of_ble_eq_true rfl), (Nat.le_of_ble_eq_true rfl)⟩) hP hD hS hA [0, 1, 2, 3, 4, 5, 6, 7, 8, 9, 10, 11] [12] rfl rfl (by decide) (by decide) (fun E ce q9 H locs hbad hP hD hS hce hcv hcl => ?_) (fun r u H locs hw hP hD hS => ?_)
  · have hP := hP.sub (ws' := (Dk cI cZ h a F nq no np sh nw) ++ [(ao, .inl (cL, 1, .inr (.inl g)))]) [1, 2, 3, 4, 5, 6, 7, 8, 9, 10, 11, 12, 0] rfl
    have hD := hD.sub (ws' := (Dk cI cZ h a F nq no np sh nw) ++ [(ao, .inl (cL, 1, .inr (.inl g)))]) [1, 2, 3, 4, 5, 6, 7, 8, 9, 10, 11, 12, 0] (by decide) rfl
    obtain ⟨rfl, hk⟩ := hbad
    refine vx_catch (name := "java/lang/IndexOutOfBoundsException") hown [] ⟨0, 16, 19, 19⟩ [] htab (fun z h => nomatch h) (by decide) (by decide) (hts (.classLink RL 19 "java/lang/IndexOutOfBoundsException") (by decide +kernel)) (hZ.2.2.1 (.castable xI xI) (by decide +kernel) _) hce hcv hcl ?_
    refine lv_astore_n (lv' := [(3, .ref q9), (0, .ref h), (1, .int x), (2, .ref ao)]) hx hb dL_isOn_19 rfl hl (by decide) rfl (fun ls hl => ?_)
    refine lv_iconst (v := 1) hx hb dL_isOn_20 (by decide) ?_
    exact w_iret g hx hb hr hlocks hK hP hD hS (Nat.le_of_ble_eq_true rfl) (Nat.le_of_ble_eq_true rfl) dL_isOn_21 ⟨hk.symm, fun hh9 => by rw [hk] at hh9; exact absurd hh9 (by decide)⟩
  · obtain ⟨hk, hr9⟩ := (show k1 (p_in x no) = 0 ∧ r = b2i (p_on F sh x.toNatClampNeg nw) from hw)
    subst r
    have hP := hP.sub (ws' := (Dk cI cZ h a F nq no np sh nw) ++ [(ao, .inl (cL, 1, .inr (.inl g)))]) [1, 2, 3, 4, 5, 6, 7, 8, 9, 10, 11, 12, 0] rfl
    have hD := hD.sub (ws' := (Dk cI cZ h a F nq no np sh nw) ++ [(ao, .inl (cL, 1, .inr (.inl g)))]) [1, 2, 3, 4, 5, 6, 7, 8, 9, 10, 11, 12, 0] (by decide) rfl
    refine w_selL hx hb dL_isOn_7 (by decide) dL_isOn_10 dL_isOn_11 (by decide) dL_isOn_14 ?_
    refine va_last hx hb hK hP hD hS 12 2 rfl rfl (f := g) (x := i2z (b2i (p_on F sh x.toNatClampNeg nw))) (show vp_in 0 1 from vp_in_nI (n := 0) (by omega) (by omega)) dL_isOn_15 (fun H locs hP hD hS => ?_)
    rw [sb_cl0] at hP hD
    have hP : va_P G vwCl ((Dk cI cZ h a F nq no np sh nw) ++ [(ao, .inl (cL, 1, .inr (.inl (vp_updL g 0 (i2z (b2i (p_on F sh x.toNatClampNeg nw)))))))]) H := hP
    have hD : va_D A ((Dk cI cZ h a F nq no np sh nw) ++ [(ao, .inl (cL, 1, .inr (.inl (vp_updL g 0 (i2z (b2i (p_on F sh x.toNatClampNeg nw)))))))]) := hD
    refine lv_goto (tgt := 22) hx hb dL_isOn_16 (by decide) ?_
    refine lv_iconst (v := 0) hx hb dL_isOn_22 (by decide) ?_
    exact w_iret (vp_updL g 0 (i2z (b2i (p_on F sh x.toNatClampNeg nw)))) hx hb hr hlocks hK hP hD hS (Nat.le_of_ble_eq_true rfl) (Nat.le_of_ble_eq_true rfl) dL_isOn_23 ⟨hk.symm, fun _ => pk_uLs⟩
set_option maxHeartbeats 4000000 in
set_option maxRecDepth 100000 in
theorem c_L_isExempt (l : Launch) (hfl : l.flags = flags0) (G : va_G) (cI cZ cL : ClassId) (h : Nat) (a : Nat → Nat) (F : Nat → Nat → Int32) (nq no np : Nat) (sh nw : Int32) (ao : Nat) (g : Nat → Int64) (sz : Nat) (x : Int32) (t : Int32) (hno : no ≤ 10) : Met l yL_isExempt wsL_isExempt ({ frames := 8, cells := 2, slots := 12, locals := 125 } : Room) (va_Pc [.ref h, .int x, .int t, .ref ao] (wPreL G (ty3 cI cZ cL) ((Dk cI cZ h a F nq no np sh nw) ++ [(ao, .inl (cL, 1, .inr (.inl g)))]) sz)) (va_Qi (fun (r : Int32) (u : Nat → Int64) => r = k1 (p_in x no && p_in t 8) ∧ (k1 (p_in x no && p_in t 8) = 0 → u 0 = i2z (b2i (p_ex F x.toNatClampNeg t)))) (fun u => wP G (ty3 cI cZ cL) ((Dk cI cZ h a F nq no np sh nw) ++ [(ao, .inl (cL, 1, .inr (.inl u)))]) (va_A ((Dk cI cZ h a F nq no np sh nw) ++ [(ao, .inl (cL, 1, .inr (.inl g)))]) sz)) (va_A ((Dk cI cZ h a F nq no np sh nw) ++ [(ao, .inl (cL, 1, .inr (.inl g)))]) sz)) 2 12 (va_A ((Dk cI cZ h a F nq no np sh nw) ++ [(ao, .inl (cL, 1, .inr (.inl g)))]) sz) := by
  refine w_metW (cc := cL_isExempt) (maxL := 5) (ret := (some .int)) (hh := [(0, 17, 20, 19)]) (by decide) rfl (Nat.le_of_ble_eq_true rfl) ?_
  intro pg e s m below meth cd hx hb hml hr hts hown hlocks hnm htab hZ hNn hK hsz hP hD hA hS ls hl
  have hown : s.vm.findClass RL = some m.cls := hown
  have hl : lv_has ls 5 [(0, .ref h), (1, .int x), (2, .int t), (3, .ref ao)] := hl
  generalize hAe : va_A ((Dk cI cZ h a F nq no np sh nw) ++ [(ao, .inl (cL, 1, .inr (.inl g)))]) sz = A at hD hA hS hZ ⊢
  refine lv_aload_n hx hb dL_isExempt_0 rfl (lv_at hl 3 rfl) ?_
  refine lv_iconst (v := 0) hx hb dL_isExempt_1 (by decide) ?_
  refine lv_aload_n hx hb dL_isExempt_2 rfl (lv_at hl 0 rfl) ?_
  refine lv_iload_n hx hb dL_isExempt_3 rfl (lv_at hl 1 rfl) ?_
  refine lv_iload_n hx hb dL_isExempt_4 rfl (lv_at hl 2 rfl) ?_
  refine w_cat_i (wr := [(ao, .inl (cL, 1, .inr (.inl g)))]) (vx_runV (As := [.int x, .int t]) (rest := [.int 0, .ref ao]) ⟨hx, hb, hml, hown, hts⟩ (cx_X0_isExempt l hfl G cI cZ h a F nq no np sh nw s.heap.size x t (by omega)) (cwV 2 hts gL_isExempt_X0_isExempt rfl rfl rfl (by decide +kernel) ⟨(Nat.le_of_ble_eq_true rfl), (Nat.le_of_ble_eq_true rfl)⟩) ⟨wPreX_blind, va_recv hK hP (ci := 0) (q0 := 0) rfl rfl, w_preX (hK.sub [0, 1] rfl) (hP.sub [0, 1, 2, 3, 4, 5, 6, 7, 8, 9, 10, 11] rfl) (hD.sub [0, 1, 2, 3, 4, 5, 6, 7, 8, 9, 10, 11] (by decide) rfl) (va_free hD hS hA [0, 1, 2, 3, 4, 5, 6, 7, 8, 9, 10, 11] rfl) hS hZ⟩ rfl rfl hl.1 rfl (lv_room (Nat.le_of_ble_eq_true rfl)) dL_isExempt_5 ⟨(Nat.le_of_ble_eq_true rfl), (Nat.le_of_ble_eq_true rfl)⟩) hP hD hS hA [0, 1, 2, 3, 4, 5, 6, 7, 8, 9, 10, 11] [12] rfl rfl (by decide) (by decide) (fun E ce q9 H locs hbad hP hD hS hce hcv hcl => ?_) (fun r u H locs hw hP hD hS => ?_)
  · have hP := hP.sub (ws' := (Dk cI cZ h a F nq no np sh nw) ++ [(ao, .inl (cL, 1, .inr (.inl g)))]) [1, 2, 3, 4, 5, 6, 7, 8, 9, 10, 11, 12, 0] rfl
    have hD := hD.sub (ws' := (Dk cI cZ h a F nq no np sh nw) ++ [(ao, .inl (cL, 1, .inr (.inl g)))]) [1, 2, 3, 4, 5, 6, 7, 8, 9, 10, 11, 12, 0] (by decide) rfl
    obtain ⟨rfl, hk⟩ := hbad
    refine vx_catch (name := "java/lang/IndexOutOfBoundsException") hown [] ⟨0, 17, 20, 19⟩ [] htab (fun z h => nomatch h) (by decide) (by decide) (hts (.classLink RL 19 "java/lang/IndexOutOfBoundsException") (by decide +kernel)) (hZ.2.2.1 (.castable xI xI) (by decide +kernel) _) hce hcv hcl ?_
    refine lv_astore (lv' := [(4, .ref q9), (0, .ref h), (1, .int x), (2, .int t), (3, .ref ao)]) hx hb dL_isExempt_20 hl (by decide) rfl (fun ls hl => ?_)
    refine lv_iconst (v := 1) hx hb dL_isExempt_22 (by decide) ?_
    exact w_iret g hx hb hr hlocks hK hP hD hS (Nat.le_of_ble_eq_true rfl) (Nat.le_of_ble_eq_true rfl) dL_isExempt_23 ⟨hk.symm, fun hh9 => by rw [hk] at hh9; exact absurd hh9 (by decide)⟩
  · obtain ⟨hk, hr9⟩ := (show k1 (p_in x no && p_in t 8) = 0 ∧ r = b2i (p_ex F x.toNatClampNeg t) from hw)
    subst r
    have hP := hP.sub (ws' := (Dk cI cZ h a F nq no np sh nw) ++ [(ao, .inl (cL, 1, .inr (.inl g)))]) [1, 2, 3, 4, 5, 6, 7, 8, 9, 10, 11, 12, 0] rfl
    have hD := hD.sub (ws' := (Dk cI cZ h a F nq no np sh nw) ++ [(ao, .inl (cL, 1, .inr (.inl g)))]) [1, 2, 3, 4, 5, 6, 7, 8, 9, 10, 11, 12, 0] (by decide) rfl
    refine w_selL hx hb dL_isExempt_8 (by decide) dL_isExempt_11 dL_isExempt_12 (by decide) dL_isExempt_15 ?_
    refine va_last hx hb hK hP hD hS 12 2 rfl rfl (f := g) (x := i2z (b2i (p_ex F x.toNatClampNeg t))) (show vp_in 0 1 from vp_in_nI (n := 0) (by omega) (by omega)) dL_isExempt_16 (fun H locs hP hD hS => ?_)
    rw [sb_cl0] at hP hD
    have hP : va_P G vwCl ((Dk cI cZ h a F nq no np sh nw) ++ [(ao, .inl (cL, 1, .inr (.inl (vp_updL g 0 (i2z (b2i (p_ex F x.toNatClampNeg t)))))))]) H := hP
    have hD : va_D A ((Dk cI cZ h a F nq no np sh nw) ++ [(ao, .inl (cL, 1, .inr (.inl (vp_updL g 0 (i2z (b2i (p_ex F x.toNatClampNeg t)))))))]) := hD
    refine lv_goto (tgt := 24) hx hb dL_isExempt_17 (by decide) ?_
    refine lv_iconst (v := 0) hx hb dL_isExempt_24 (by decide) ?_
    exact w_iret (vp_updL g 0 (i2z (b2i (p_ex F x.toNatClampNeg t)))) hx hb hr hlocks hK hP hD hS (Nat.le_of_ble_eq_true rfl) (Nat.le_of_ble_eq_true rfl) dL_isExempt_25 ⟨hk.symm, fun _ => pk_uLs⟩
set_option maxHeartbeats 4000000 in
set_option maxRecDepth 100000 in
theorem c_L_barredBy (l : Launch) (hfl : l.flags = flags0) (G : va_G) (cI cZ cL : ClassId) (h : Nat) (a : Nat → Nat) (F : Nat → Nat → Int32) (nq no np : Nat) (sh nw : Int32) (ao : Nat) (g : Nat → Int64) (sz : Nat) (x : Int32) (hno : no ≤ 10) (hnp : np ≤ 20) : Met l yL_barredBy wsL_barredBy ({ frames := 8, cells := 1, slots := 6, locals := 126 } : Room) (va_Pc [.ref h, .int x, .ref ao] (wPreL G (ty3 cI cZ cL) ((Dk cI cZ h a F nq no np sh nw) ++ [(ao, .inl (cL, 1, .inr (.inl g)))]) sz)) (va_Qi (fun (r : Int32) (u : Nat → Int64) => r = k1 (p_in x no) ∧ (k1 (p_in x no) = 0 → u 0 = (nI (p_bd F sh np x.toNatClampNeg nw)).toInt64)) (fun u => wP G (ty3 cI cZ cL) ((Dk cI cZ h a F nq no np sh nw) ++ [(ao, .inl (cL, 1, .inr (.inl u)))]) (va_A ((Dk cI cZ h a F nq no np sh nw) ++ [(ao, .inl (cL, 1, .inr (.inl g)))]) sz)) (va_A ((Dk cI cZ h a F nq no np sh nw) ++ [(ao, .inl (cL, 1, .inr (.inl g)))]) sz)) 1 6 (va_A ((Dk cI cZ h a F nq no np sh nw) ++ [(ao, .inl (cL, 1, .inr (.inl g)))]) sz) := by
  refine w_metW (cc := cL_barredBy) (maxL := 4) (ret := (some .int)) (hh := [(0, 9, 12, 19)]) (by decide) rfl (Nat.le_of_ble_eq_true rfl) ?_
  intro pg e s m below meth cd hx hb hml hr hts hown hlocks hnm htab hZ hNn hK hsz hP hD hA hS ls hl
  have hown : s.vm.findClass RL = some m.cls := hown
  have hl : lv_has ls 4 [(0, .ref h), (1, .int x), (2, .ref ao)] := hl
  generalize hAe : va_A ((Dk cI cZ h a F nq no np sh nw) ++ [(ao, .inl (cL, 1, .inr (.inl g)))]) sz = A at hD hA hS hZ ⊢
  refine lv_aload_n hx hb dL_barredBy_0 rfl (lv_at hl 2 rfl) ?_
  refine lv_iconst (v := 0) hx hb dL_barredBy_1 (by decide) ?_
  refine lv_aload_n hx hb dL_barredBy_2 rfl (lv_at hl 0 rfl) ?_
  refine lv_iload_n hx hb dL_barredBy_3 rfl (lv_at hl 1 rfl) ?_
  refine w_cat_i (wr := [(ao, .inl (cL, 1, .inr (.inl g)))]) (vx_runV (As := [.int x]) (rest := [.int 0, .ref ao]) ⟨hx, hb, hml, hown, hts⟩ (cx_X0_barredBy l hfl G cI cZ h a F nq no np sh nw s.heap.size x (by omega) (by omega)) (cwV 1 hts gL_barredBy_X0_barredBy rfl rfl rfl (by decide +kernel) ⟨(Nat.le_of_ble_eq_true rfl), (Nat.le_of_ble_eq_true rfl)⟩) ⟨wPreX_blind, va_recv hK hP (ci := 0) (q0 := 0) rfl rfl, w_preX (hK.sub [0, 1] rfl) (hP.sub [0, 1, 2, 3, 4, 5, 6, 7, 8, 9, 10, 11] rfl) (hD.sub [0, 1, 2, 3, 4, 5, 6, 7, 8, 9, 10, 11] (by decide) rfl) (va_free hD hS hA [0, 1, 2, 3, 4, 5, 6, 7, 8, 9, 10, 11] rfl) hS hZ⟩ rfl rfl hl.1 rfl (lv_room (Nat.le_of_ble_eq_true rfl)) dL_barredBy_4 ⟨(Nat.le_of_ble_eq_true rfl), (Nat.le_of_ble_eq_true rfl)⟩) hP hD hS hA [0, 1, 2, 3, 4, 5, 6, 7, 8, 9, 10, 11] [12] rfl rfl (by decide) (by decide) (fun E ce q9 H locs hbad hP hD hS hce hcv hcl => ?_) (fun r u H locs hw hP hD hS => ?_)
  · have hP := hP.sub (ws' := (Dk cI cZ h a F nq no np sh nw) ++ [(ao, .inl (cL, 1, .inr (.inl g)))]) [1, 2, 3, 4, 5, 6, 7, 8, 9, 10, 11, 12, 0] rfl
    have hD := hD.sub (ws' := (Dk cI cZ h a F nq no np sh nw) ++ [(ao, .inl (cL, 1, .inr (.inl g)))]) [1, 2, 3, 4, 5, 6, 7, 8, 9, 10, 11, 12, 0] (by decide) rfl
    obtain ⟨rfl, hk⟩ := hbad
    refine vx_catch (name := "java/lang/IndexOutOfBoundsException") hown [] ⟨0, 9, 12, 19⟩ [] htab (fun z h => nomatch h) (by decide) (by decide) (hts (.classLink RL 19 "java/lang/IndexOutOfBoundsException") (by decide +kernel)) (hZ.2.2.1 (.castable xI xI) (by decide +kernel) _) hce hcv hcl ?_
    refine lv_astore_n (lv' := [(3, .ref q9), (0, .ref h), (1, .int x), (2, .ref ao)]) hx hb dL_barredBy_12 rfl hl (by decide) rfl (fun ls hl => ?_)
    refine lv_iconst (v := 1) hx hb dL_barredBy_13 (by decide) ?_
    exact w_iret g hx hb hr hlocks hK hP hD hS (Nat.le_of_ble_eq_true rfl) (Nat.le_of_ble_eq_true rfl) dL_barredBy_14 ⟨hk.symm, fun hh9 => by rw [hk] at hh9; exact absurd hh9 (by decide)⟩
  · obtain ⟨hk, hr9⟩ := (show k1 (p_in x no) = 0 ∧ r = nI (p_bd F sh np x.toNatClampNeg nw) from hw)
    subst r
    have hP := hP.sub (ws' := (Dk cI cZ h a F nq no np sh nw) ++ [(ao, .inl (cL, 1, .inr (.inl g)))]) [1, 2, 3, 4, 5, 6, 7, 8, 9, 10, 11, 12, 0] rfl
    have hD := hD.sub (ws' := (Dk cI cZ h a F nq no np sh nw) ++ [(ao, .inl (cL, 1, .inr (.inl g)))]) [1, 2, 3, 4, 5, 6, 7, 8, 9, 10, 11, 12, 0] (by decide) rfl
    refine lv_i2l (v := (nI (p_bd F sh np x.toNatClampNeg nw)).toInt64) hx hb dL_barredBy_7 rfl ?_
    refine va_last hx hb hK hP hD hS 12 2 rfl rfl (f := g) (x := (nI (p_bd F sh np x.toNatClampNeg nw)).toInt64) (show vp_in 0 1 from vp_in_nI (n := 0) (by omega) (by omega)) dL_barredBy_8 (fun H locs hP hD hS => ?_)
    rw [sb_cl0] at hP hD
    have hP : va_P G vwCl ((Dk cI cZ h a F nq no np sh nw) ++ [(ao, .inl (cL, 1, .inr (.inl (vp_updL g 0 ((nI (p_bd F sh np x.toNatClampNeg nw)).toInt64)))))]) H := hP
    have hD : va_D A ((Dk cI cZ h a F nq no np sh nw) ++ [(ao, .inl (cL, 1, .inr (.inl (vp_updL g 0 ((nI (p_bd F sh np x.toNatClampNeg nw)).toInt64)))))]) := hD
    refine lv_goto (tgt := 15) hx hb dL_barredBy_9 (by decide) ?_
    refine lv_iconst (v := 0) hx hb dL_barredBy_15 (by decide) ?_
    exact w_iret (vp_updL g 0 ((nI (p_bd F sh np x.toNatClampNeg nw)).toInt64)) hx hb hr hlocks hK hP hD hS (Nat.le_of_ble_eq_true rfl) (Nat.le_of_ble_eq_true rfl) dL_barredBy_16 ⟨hk.symm, fun _ => pk_uLs⟩
set_option maxHeartbeats 4000000 in
set_option maxRecDepth 100000 in
theorem c_L_tradeOf (l : Launch) (hfl : l.flags = flags0) (G : va_G) (cI cZ cL : ClassId) (h : Nat) (a : Nat → Nat) (F : Nat → Nat → Int32) (nq no np : Nat) (sh nw : Int32) (ao : Nat) (g : Nat → Int64) (sz : Nat) (x : Int32) (hnp : np ≤ 20) : Met l yL_tradeOf wsL_tradeOf ({ frames := 8, cells := 1, slots := 6, locals := 124 } : Room) (va_Pc [.ref h, .int x, .ref ao] (wPreL G (ty3 cI cZ cL) ((Dk cI cZ h a F nq no np sh nw) ++ [(ao, .inl (cL, 1, .inr (.inl g)))]) sz)) (va_Qi (fun (r : Int32) (u : Nat → Int64) => r = k1 (p_in x np) ∧ (k1 (p_in x np) = 0 → u 0 = (F 6 x.toNatClampNeg).toInt64)) (fun u => wP G (ty3 cI cZ cL) ((Dk cI cZ h a F nq no np sh nw) ++ [(ao, .inl (cL, 1, .inr (.inl u)))]) (va_A ((Dk cI cZ h a F nq no np sh nw) ++ [(ao, .inl (cL, 1, .inr (.inl g)))]) sz)) (va_A ((Dk cI cZ h a F nq no np sh nw) ++ [(ao, .inl (cL, 1, .inr (.inl g)))]) sz)) 1 6 (va_A ((Dk cI cZ h a F nq no np sh nw) ++ [(ao, .inl (cL, 1, .inr (.inl g)))]) sz) := by
  refine w_metW (cc := cL_tradeOf) (maxL := 4) (ret := (some .int)) (hh := [(0, 9, 12, 19)]) (by decide) rfl (Nat.le_of_ble_eq_true rfl) ?_
  intro pg e s m below meth cd hx hb hml hr hts hown hlocks hnm htab hZ hNn hK hsz hP hD hA hS ls hl
  have hown : s.vm.findClass RL = some m.cls := hown
  have hl : lv_has ls 4 [(0, .ref h), (1, .int x), (2, .ref ao)] := hl
  generalize hAe : va_A ((Dk cI cZ h a F nq no np sh nw) ++ [(ao, .inl (cL, 1, .inr (.inl g)))]) sz = A at hD hA hS hZ ⊢
  refine lv_aload_n hx hb dL_tradeOf_0 rfl (lv_at hl 2 rfl) ?_
  refine lv_iconst (v := 0) hx hb dL_tradeOf_1 (by decide) ?_
  refine lv_aload_n hx hb dL_tradeOf_2 rfl (lv_at hl 0 rfl) ?_
  refine lv_iload_n hx hb dL_tradeOf_3 rfl (lv_at hl 1 rfl) ?_
  refine w_cat_i (wr := [(ao, .inl (cL, 1, .inr (.inl g)))]) (vx_runV (As := [.int x]) (rest := [.int 0, .ref ao]) ⟨hx, hb, hml, hown, hts⟩ (cx_X0_tradeOf l hfl G cI cZ h a F nq no np sh nw s.heap.size x (by omega)) (cwV 1 hts gL_tradeOf_X0_tradeOf rfl rfl rfl (by decide +kernel) ⟨(Nat.le_of_ble_eq_true rfl), (Nat.le_of_ble_eq_true rfl)⟩) ⟨wPreX_blind, va_recv hK hP (ci := 0) (q0 := 0) rfl rfl, w_preX (hK.sub [0, 1] rfl) (hP.sub [0, 1, 2, 3, 4, 5, 6, 7, 8, 9, 10, 11] rfl) (hD.sub [0, 1, 2, 3, 4, 5, 6, 7, 8, 9, 10, 11] (by decide) rfl) (va_free hD hS hA [0, 1, 2, 3, 4, 5, 6, 7, 8, 9, 10, 11] rfl) hS hZ⟩ rfl rfl hl.1 rfl (lv_room (Nat.le_of_ble_eq_true rfl)) dL_tradeOf_4 ⟨(Nat.le_of_ble_eq_true rfl), (Nat.le_of_ble_eq_true rfl)⟩) hP hD hS hA [0, 1, 2, 3, 4, 5, 6, 7, 8, 9, 10, 11] [12] rfl rfl (by decide) (by decide) (fun E ce q9 H locs hbad hP hD hS hce hcv hcl => ?_) (fun r u H locs hw hP hD hS => ?_)
  · have hP := hP.sub (ws' := (Dk cI cZ h a F nq no np sh nw) ++ [(ao, .inl (cL, 1, .inr (.inl g)))]) [1, 2, 3, 4, 5, 6, 7, 8, 9, 10, 11, 12, 0] rfl
    have hD := hD.sub (ws' := (Dk cI cZ h a F nq no np sh nw) ++ [(ao, .inl (cL, 1, .inr (.inl g)))]) [1, 2, 3, 4, 5, 6, 7, 8, 9, 10, 11, 12, 0] (by decide) rfl
    obtain ⟨rfl, hk⟩ := hbad
    refine vx_catch (name := "java/lang/IndexOutOfBoundsException") hown [] ⟨0, 9, 12, 19⟩ [] htab (fun z h => nomatch h) (by decide) (by decide) (hts (.classLink RL 19 "java/lang/IndexOutOfBoundsException") (by decide +kernel)) (hZ.2.2.1 (.castable xI xI) (by decide +kernel) _) hce hcv hcl ?_
    refine lv_astore_n (lv' := [(3, .ref q9), (0, .ref h), (1, .int x), (2, .ref ao)]) hx hb dL_tradeOf_12 rfl hl (by decide) rfl (fun ls hl => ?_)
    refine lv_iconst (v := 1) hx hb dL_tradeOf_13 (by decide) ?_
    exact w_iret g hx hb hr hlocks hK hP hD hS (Nat.le_of_ble_eq_true rfl) (Nat.le_of_ble_eq_true rfl) dL_tradeOf_14 ⟨hk.symm, fun hh9 => by rw [hk] at hh9; exact absurd hh9 (by decide)⟩
  · obtain ⟨hk, hr9⟩ := (show k1 (p_in x np) = 0 ∧ r = F 6 x.toNatClampNeg from hw)
    subst r
    have hP := hP.sub (ws' := (Dk cI cZ h a F nq no np sh nw) ++ [(ao, .inl (cL, 1, .inr (.inl g)))]) [1, 2, 3, 4, 5, 6, 7, 8, 9, 10, 11, 12, 0] rfl
    have hD := hD.sub (ws' := (Dk cI cZ h a F nq no np sh nw) ++ [(ao, .inl (cL, 1, .inr (.inl g)))]) [1, 2, 3, 4, 5, 6, 7, 8, 9, 10, 11, 12, 0] (by decide) rfl
    refine lv_i2l (v := (F 6 x.toNatClampNeg).toInt64) hx hb dL_tradeOf_7 rfl ?_
    refine va_last hx hb hK hP hD hS 12 2 rfl rfl (f := g) (x := (F 6 x.toNatClampNeg).toInt64) (show vp_in 0 1 from vp_in_nI (n := 0) (by omega) (by omega)) dL_tradeOf_8 (fun H locs hP hD hS => ?_)
    rw [sb_cl0] at hP hD
    have hP : va_P G vwCl ((Dk cI cZ h a F nq no np sh nw) ++ [(ao, .inl (cL, 1, .inr (.inl (vp_updL g 0 ((F 6 x.toNatClampNeg).toInt64)))))]) H := hP
    have hD : va_D A ((Dk cI cZ h a F nq no np sh nw) ++ [(ao, .inl (cL, 1, .inr (.inl (vp_updL g 0 ((F 6 x.toNatClampNeg).toInt64)))))]) := hD
    refine lv_goto (tgt := 15) hx hb dL_tradeOf_9 (by decide) ?_
    refine lv_iconst (v := 0) hx hb dL_tradeOf_15 (by decide) ?_
    exact w_iret (vp_updL g 0 ((F 6 x.toNatClampNeg).toInt64)) hx hb hr hlocks hK hP hD hS (Nat.le_of_ble_eq_true rfl) (Nat.le_of_ble_eq_true rfl) dL_tradeOf_16 ⟨hk.symm, fun _ => pk_uLs⟩
set_option maxHeartbeats 4000000 in
set_option maxRecDepth 100000 in
theorem c_L_stampsOf (l : Launch) (hfl : l.flags = flags0) (G : va_G) (cI cZ cL : ClassId) (h : Nat) (a : Nat → Nat) (F : Nat → Nat → Int32) (nq no np : Nat) (sh nw : Int32) (ao : Nat) (g : Nat → Int64) (sz : Nat) (x : Int32) (y : Int32) (hnp : np ≤ 20) : Met l yL_stampsOf wsL_stampsOf ({ frames := 8, cells := 2, slots := 12, locals := 125 } : Room) (va_Pc [.ref h, .int x, .int y, .ref ao] (wPreL G (ty3 cI cZ cL) ((Dk cI cZ h a F nq no np sh nw) ++ [(ao, .inl (cL, 1, .inr (.inl g)))]) sz)) (va_Qi (fun (r : Int32) (u : Nat → Int64) => r = k1 (p_in x np && p_in y 4) ∧ (k1 (p_in x np && p_in y 4) = 0 → u 0 = (F 9 (p_pl x y)).toInt64)) (fun u => wP G (ty3 cI cZ cL) ((Dk cI cZ h a F nq no np sh nw) ++ [(ao, .inl (cL, 1, .inr (.inl u)))]) (va_A ((Dk cI cZ h a F nq no np sh nw) ++ [(ao, .inl (cL, 1, .inr (.inl g)))]) sz)) (va_A ((Dk cI cZ h a F nq no np sh nw) ++ [(ao, .inl (cL, 1, .inr (.inl g)))]) sz)) 2 12 (va_A ((Dk cI cZ h a F nq no np sh nw) ++ [(ao, .inl (cL, 1, .inr (.inl g)))]) sz) := by
  refine w_metW (cc := cL_stampsOf) (maxL := 5) (ret := (some .int)) (hh := [(0, 10, 13, 19)]) (by decide) rfl (Nat.le_of_ble_eq_true rfl) ?_
  intro pg e s m below meth cd hx hb hml hr hts hown hlocks hnm htab hZ hNn hK hsz hP hD hA hS ls hl
  have hown : s.vm.findClass RL = some m.cls := hown
  have hl : lv_has ls 5 [(0, .ref h), (1, .int x), (2, .int y), (3, .ref ao)] := hl
  generalize hAe : va_A ((Dk cI cZ h a F nq no np sh nw) ++ [(ao, .inl (cL, 1, .inr (.inl g)))]) sz = A at hD hA hS hZ ⊢
  refine lv_aload_n hx hb dL_stampsOf_0 rfl (lv_at hl 3 rfl) ?_
  refine lv_iconst (v := 0) hx hb dL_stampsOf_1 (by decide) ?_
  refine lv_aload_n hx hb dL_stampsOf_2 rfl (lv_at hl 0 rfl) ?_
  refine lv_iload_n hx hb dL_stampsOf_3 rfl (lv_at hl 1 rfl) ?_
  refine lv_iload_n hx hb dL_stampsOf_4 rfl (lv_at hl 2 rfl) ?_
  refine w_cat_i (wr := [(ao, .inl (cL, 1, .inr (.inl g)))]) (vx_runV (As := [.int x, .int y]) (rest := [.int 0, .ref ao]) ⟨hx, hb, hml, hown, hts⟩ (cx_X0_stampsOf l hfl G cI cZ h a F nq no np sh nw s.heap.size x y (by omega)) (cwV 2 hts gL_stampsOf_X0_stampsOf rfl rfl rfl (by decide +kernel) ⟨(Nat.le_of_ble_eq_true rfl), (Nat.le_of_ble_eq_true rfl)⟩) ⟨wPreX_blind, va_recv hK hP (ci := 0) (q0 := 0) rfl rfl, w_preX (hK.sub [0, 1] rfl) (hP.sub [0, 1, 2, 3, 4, 5, 6, 7, 8, 9, 10, 11] rfl) (hD.sub [0, 1, 2, 3, 4, 5, 6, 7, 8, 9, 10, 11] (by decide) rfl) (va_free hD hS hA [0, 1, 2, 3, 4, 5, 6, 7, 8, 9, 10, 11] rfl) hS hZ⟩ rfl rfl hl.1 rfl (lv_room (Nat.le_of_ble_eq_true rfl)) dL_stampsOf_5 ⟨(Nat.le_of_ble_eq_true rfl), (Nat.le_of_ble_eq_true rfl)⟩) hP hD hS hA [0, 1, 2, 3, 4, 5, 6, 7, 8, 9, 10, 11] [12] rfl rfl (by decide) (by decide) (fun E ce q9 H locs hbad hP hD hS hce hcv hcl => ?_) (fun r u H locs hw hP hD hS => ?_)
  · have hP := hP.sub (ws' := (Dk cI cZ h a F nq no np sh nw) ++ [(ao, .inl (cL, 1, .inr (.inl g)))]) [1, 2, 3, 4, 5, 6, 7, 8, 9, 10, 11, 12, 0] rfl
    have hD := hD.sub (ws' := (Dk cI cZ h a F nq no np sh nw) ++ [(ao, .inl (cL, 1, .inr (.inl g)))]) [1, 2, 3, 4, 5, 6, 7, 8, 9, 10, 11, 12, 0] (by decide) rfl
    obtain ⟨rfl, hk⟩ := hbad
    refine vx_catch (name := "java/lang/IndexOutOfBoundsException") hown [] ⟨0, 10, 13, 19⟩ [] htab (fun z h => nomatch h) (by decide) (by decide) (hts (.classLink RL 19 "java/lang/IndexOutOfBoundsException") (by decide +kernel)) (hZ.2.2.1 (.castable xI xI) (by decide +kernel) _) hce hcv hcl ?_
    refine lv_astore (lv' := [(4, .ref q9), (0, .ref h), (1, .int x), (2, .int y), (3, .ref ao)]) hx hb dL_stampsOf_13 hl (by decide) rfl (fun ls hl => ?_)
    refine lv_iconst (v := 1) hx hb dL_stampsOf_15 (by decide) ?_
    exact w_iret g hx hb hr hlocks hK hP hD hS (Nat.le_of_ble_eq_true rfl) (Nat.le_of_ble_eq_true rfl) dL_stampsOf_16 ⟨hk.symm, fun hh9 => by rw [hk] at hh9; exact absurd hh9 (by decide)⟩
  · obtain ⟨hk, hr9⟩ := (show k1 (p_in x np && p_in y 4) = 0 ∧ r = F 9 (p_pl x y) from hw)
    subst r
    have hP := hP.sub (ws' := (Dk cI cZ h a F nq no np sh nw) ++ [(ao, .inl (cL, 1, .inr (.inl g)))]) [1, 2, 3, 4, 5, 6, 7, 8, 9, 10, 11, 12, 0] rfl
    have hD := hD.sub (ws' := (Dk cI cZ h a F nq no np sh nw) ++ [(ao, .inl (cL, 1, .inr (.inl g)))]) [1, 2, 3, 4, 5, 6, 7, 8, 9, 10, 11, 12, 0] (by decide) rfl
    refine lv_i2l (v := (F 9 (p_pl x y)).toInt64) hx hb dL_stampsOf_8 rfl ?_
    refine va_last hx hb hK hP hD hS 12 2 rfl rfl (f := g) (x := (F 9 (p_pl x y)).toInt64) (show vp_in 0 1 from vp_in_nI (n := 0) (by omega) (by omega)) dL_stampsOf_9 (fun H locs hP hD hS => ?_)
    rw [sb_cl0] at hP hD
    have hP : va_P G vwCl ((Dk cI cZ h a F nq no np sh nw) ++ [(ao, .inl (cL, 1, .inr (.inl (vp_updL g 0 ((F 9 (p_pl x y)).toInt64)))))]) H := hP
    have hD : va_D A ((Dk cI cZ h a F nq no np sh nw) ++ [(ao, .inl (cL, 1, .inr (.inl (vp_updL g 0 ((F 9 (p_pl x y)).toInt64)))))]) := hD
    refine lv_goto (tgt := 17) hx hb dL_stampsOf_10 (by decide) ?_
    refine lv_iconst (v := 0) hx hb dL_stampsOf_17 (by decide) ?_
    exact w_iret (vp_updL g 0 ((F 9 (p_pl x y)).toInt64)) hx hb hr hlocks hK hP hD hS (Nat.le_of_ble_eq_true rfl) (Nat.le_of_ble_eq_true rfl) dL_stampsOf_18 ⟨hk.symm, fun _ => pk_uLs⟩
set_option maxHeartbeats 4000000 in
set_option maxRecDepth 100000 in
theorem c_L_owes (l : Launch) (hfl : l.flags = flags0) (G : va_G) (cI cZ cL : ClassId) (h : Nat) (a : Nat → Nat) (F : Nat → Nat → Int32) (nq no np : Nat) (sh nw : Int32) (ao : Nat) (g : Nat → Int64) (sz : Nat) (x : Int32) (hnp : np ≤ 20) : Met l yL_owes wsL_owes ({ frames := 8, cells := 1, slots := 6, locals := 124 } : Room) (va_Pc [.ref h, .int x, .ref ao] (wPreL G (ty3 cI cZ cL) ((Dk cI cZ h a F nq no np sh nw) ++ [(ao, .inl (cL, 1, .inr (.inl g)))]) sz)) (va_Qi (fun (r : Int32) (u : Nat → Int64) => r = k1 (p_in x np) ∧ (k1 (p_in x np) = 0 → u 0 = (F 8 x.toNatClampNeg).toInt64)) (fun u => wP G (ty3 cI cZ cL) ((Dk cI cZ h a F nq no np sh nw) ++ [(ao, .inl (cL, 1, .inr (.inl u)))]) (va_A ((Dk cI cZ h a F nq no np sh nw) ++ [(ao, .inl (cL, 1, .inr (.inl g)))]) sz)) (va_A ((Dk cI cZ h a F nq no np sh nw) ++ [(ao, .inl (cL, 1, .inr (.inl g)))]) sz)) 1 6 (va_A ((Dk cI cZ h a F nq no np sh nw) ++ [(ao, .inl (cL, 1, .inr (.inl g)))]) sz) := by
  refine w_metW (cc := cL_owes) (maxL := 4) (ret := (some .int)) (hh := [(0, 9, 12, 19)]) (by decide) rfl (Nat.le_of_ble_eq_true rfl) ?_
  intro pg e s m below meth cd hx hb hml hr hts hown hlocks hnm htab hZ hNn hK hsz hP hD hA hS ls hl
  have hown : s.vm.findClass RL = some m.cls := hown
  have hl : lv_has ls 4 [(0, .ref h), (1, .int x), (2, .ref ao)] := hl
  generalize hAe : va_A ((Dk cI cZ h a F nq no np sh nw) ++ [(ao, .inl (cL, 1, .inr (.inl g)))]) sz = A at hD hA hS hZ ⊢
  refine lv_aload_n hx hb dL_owes_0 rfl (lv_at hl 2 rfl) ?_
  refine lv_iconst (v := 0) hx hb dL_owes_1 (by decide) ?_
  refine lv_aload_n hx hb dL_owes_2 rfl (lv_at hl 0 rfl) ?_
  refine lv_iload_n hx hb dL_owes_3 rfl (lv_at hl 1 rfl) ?_
  refine w_cat_i (wr := [(ao, .inl (cL, 1, .inr (.inl g)))]) (vx_runV (As := [.int x]) (rest := [.int 0, .ref ao]) ⟨hx, hb, hml, hown, hts⟩ (cx_X0_owes l hfl G cI cZ h a F nq no np sh nw s.heap.size x (by omega)) (cwV 1 hts gL_owes_X0_owes rfl rfl rfl (by decide +kernel) ⟨(Nat.le_of_ble_eq_true rfl), (Nat.le_of_ble_eq_true rfl)⟩) ⟨wPreX_blind, va_recv hK hP (ci := 0) (q0 := 0) rfl rfl, w_preX (hK.sub [0, 1] rfl) (hP.sub [0, 1, 2, 3, 4, 5, 6, 7, 8, 9, 10, 11] rfl) (hD.sub [0, 1, 2, 3, 4, 5, 6, 7, 8, 9, 10, 11] (by decide) rfl) (va_free hD hS hA [0, 1, 2, 3, 4, 5, 6, 7, 8, 9, 10, 11] rfl) hS hZ⟩ rfl rfl hl.1 rfl (lv_room (Nat.le_of_ble_eq_true rfl)) dL_owes_4 ⟨(Nat.le_of_ble_eq_true rfl), (Nat.le_of_ble_eq_true rfl)⟩) hP hD hS hA [0, 1, 2, 3, 4, 5, 6, 7, 8, 9, 10, 11] [12] rfl rfl (by decide) (by decide) (fun E ce q9 H locs hbad hP hD hS hce hcv hcl => ?_) (fun r u H locs hw hP hD hS => ?_)
  · have hP := hP.sub (ws' := (Dk cI cZ h a F nq no np sh nw) ++ [(ao, .inl (cL, 1, .inr (.inl g)))]) [1, 2, 3, 4, 5, 6, 7, 8, 9, 10, 11, 12, 0] rfl
    have hD := hD.sub (ws' := (Dk cI cZ h a F nq no np sh nw) ++ [(ao, .inl (cL, 1, .inr (.inl g)))]) [1, 2, 3, 4, 5, 6, 7, 8, 9, 10, 11, 12, 0] (by decide) rfl
    obtain ⟨rfl, hk⟩ := hbad
    refine vx_catch (name := "java/lang/IndexOutOfBoundsException") hown [] ⟨0, 9, 12, 19⟩ [] htab (fun z h => nomatch h) (by decide) (by decide) (hts (.classLink RL 19 "java/lang/IndexOutOfBoundsException") (by decide +kernel)) (hZ.2.2.1 (.castable xI xI) (by decide +kernel) _) hce hcv hcl ?_
    refine lv_astore_n (lv' := [(3, .ref q9), (0, .ref h), (1, .int x), (2, .ref ao)]) hx hb dL_owes_12 rfl hl (by decide) rfl (fun ls hl => ?_)
    refine lv_iconst (v := 1) hx hb dL_owes_13 (by decide) ?_
    exact w_iret g hx hb hr hlocks hK hP hD hS (Nat.le_of_ble_eq_true rfl) (Nat.le_of_ble_eq_true rfl) dL_owes_14 ⟨hk.symm, fun hh9 => by rw [hk] at hh9; exact absurd hh9 (by decide)⟩
  · obtain ⟨hk, hr9⟩ := (show k1 (p_in x np) = 0 ∧ r = F 8 x.toNatClampNeg from hw)
    subst r
    have hP := hP.sub (ws' := (Dk cI cZ h a F nq no np sh nw) ++ [(ao, .inl (cL, 1, .inr (.inl g)))]) [1, 2, 3, 4, 5, 6, 7, 8, 9, 10, 11, 12, 0] rfl
    have hD := hD.sub (ws' := (Dk cI cZ h a F nq no np sh nw) ++ [(ao, .inl (cL, 1, .inr (.inl g)))]) [1, 2, 3, 4, 5, 6, 7, 8, 9, 10, 11, 12, 0] (by decide) rfl
    refine lv_i2l (v := (F 8 x.toNatClampNeg).toInt64) hx hb dL_owes_7 rfl ?_
    refine va_last hx hb hK hP hD hS 12 2 rfl rfl (f := g) (x := (F 8 x.toNatClampNeg).toInt64) (show vp_in 0 1 from vp_in_nI (n := 0) (by omega) (by omega)) dL_owes_8 (fun H locs hP hD hS => ?_)
    rw [sb_cl0] at hP hD
    have hP : va_P G vwCl ((Dk cI cZ h a F nq no np sh nw) ++ [(ao, .inl (cL, 1, .inr (.inl (vp_updL g 0 ((F 8 x.toNatClampNeg).toInt64)))))]) H := hP
    have hD : va_D A ((Dk cI cZ h a F nq no np sh nw) ++ [(ao, .inl (cL, 1, .inr (.inl (vp_updL g 0 ((F 8 x.toNatClampNeg).toInt64)))))]) := hD
    refine lv_goto (tgt := 15) hx hb dL_owes_9 (by decide) ?_
    refine lv_iconst (v := 0) hx hb dL_owes_15 (by decide) ?_
    exact w_iret (vp_updL g 0 ((F 8 x.toNatClampNeg).toInt64)) hx hb hr hlocks hK hP hD hS (Nat.le_of_ble_eq_true rfl) (Nat.le_of_ble_eq_true rfl) dL_owes_16 ⟨hk.symm, fun _ => pk_uLs⟩
set_option maxHeartbeats 4000000 in
set_option maxRecDepth 100000 in
theorem c_L_timesFined (l : Launch) (hfl : l.flags = flags0) (G : va_G) (cI cZ cL : ClassId) (h : Nat) (a : Nat → Nat) (F : Nat → Nat → Int32) (nq no np : Nat) (sh nw : Int32) (ao : Nat) (g : Nat → Int64) (sz : Nat) (x : Int32) (hnp : np ≤ 20) : Met l yL_timesFined wsL_timesFined ({ frames := 8, cells := 1, slots := 6, locals := 124 } : Room) (va_Pc [.ref h, .int x, .ref ao] (wPreL G (ty3 cI cZ cL) ((Dk cI cZ h a F nq no np sh nw) ++ [(ao, .inl (cL, 1, .inr (.inl g)))]) sz)) (va_Qi (fun (r : Int32) (u : Nat → Int64) => r = k1 (p_in x np) ∧ (k1 (p_in x np) = 0 → u 0 = (F 7 x.toNatClampNeg).toInt64)) (fun u => wP G (ty3 cI cZ cL) ((Dk cI cZ h a F nq no np sh nw) ++ [(ao, .inl (cL, 1, .inr (.inl u)))]) (va_A ((Dk cI cZ h a F nq no np sh nw) ++ [(ao, .inl (cL, 1, .inr (.inl g)))]) sz)) (va_A ((Dk cI cZ h a F nq no np sh nw) ++ [(ao, .inl (cL, 1, .inr (.inl g)))]) sz)) 1 6 (va_A ((Dk cI cZ h a F nq no np sh nw) ++ [(ao, .inl (cL, 1, .inr (.inl g)))]) sz) := by
  refine w_metW (cc := cL_timesFined) (maxL := 4) (ret := (some .int)) (hh := [(0, 9, 12, 19)]) (by decide) rfl (Nat.le_of_ble_eq_true rfl) ?_
  intro pg e s m below meth cd hx hb hml hr hts hown hlocks hnm htab hZ hNn hK hsz hP hD hA hS ls hl
  have hown : s.vm.findClass RL = some m.cls := hown
  have hl : lv_has ls 4 [(0, .ref h), (1, .int x), (2, .ref ao)] := hl
  generalize hAe : va_A ((Dk cI cZ h a F nq no np sh nw) ++ [(ao, .inl (cL, 1, .inr (.inl g)))]) sz = A at hD hA hS hZ ⊢
  refine lv_aload_n hx hb dL_timesFined_0 rfl (lv_at hl 2 rfl) ?_
  refine lv_iconst (v := 0) hx hb dL_timesFined_1 (by decide) ?_
  refine lv_aload_n hx hb dL_timesFined_2 rfl (lv_at hl 0 rfl) ?_
  refine lv_iload_n hx hb dL_timesFined_3 rfl (lv_at hl 1 rfl) ?_
  refine w_cat_i (wr := [(ao, .inl (cL, 1, .inr (.inl g)))]) (vx_runV (As := [.int x]) (rest := [.int 0, .ref ao]) ⟨hx, hb, hml, hown, hts⟩ (cx_X0_timesFined l hfl G cI cZ h a F nq no np sh nw s.heap.size x (by omega)) (cwV 1 hts gL_timesFined_X0_timesFined rfl rfl rfl (by decide +kernel) ⟨(Nat.le_of_ble_eq_true rfl), (Nat.le_of_ble_eq_true rfl)⟩) ⟨wPreX_blind, va_recv hK hP (ci := 0) (q0 := 0) rfl rfl, w_preX (hK.sub [0, 1] rfl) (hP.sub [0, 1, 2, 3, 4, 5, 6, 7, 8, 9, 10, 11] rfl) (hD.sub [0, 1, 2, 3, 4, 5, 6, 7, 8, 9, 10, 11] (by decide) rfl) (va_free hD hS hA [0, 1, 2, 3, 4, 5, 6, 7, 8, 9, 10, 11] rfl) hS hZ⟩ rfl rfl hl.1 rfl (lv_room (Nat.le_of_ble_eq_true rfl)) dL_timesFined_4 ⟨(Nat.le_of_ble_eq_true rfl), (Nat.le_of_ble_eq_true rfl)⟩) hP hD hS hA [0, 1, 2, 3, 4, 5, 6, 7, 8, 9, 10, 11] [12] rfl rfl (by decide) (by decide) (fun E ce q9 H locs hbad hP hD hS hce hcv hcl => ?_) (fun r u H locs hw hP hD hS => ?_)
  · have hP := hP.sub (ws' := (Dk cI cZ h a F nq no np sh nw) ++ [(ao, .inl (cL, 1, .inr (.inl g)))]) [1, 2, 3, 4, 5, 6, 7, 8, 9, 10, 11, 12, 0] rfl
    have hD := hD.sub (ws' := (Dk cI cZ h a F nq no np sh nw) ++ [(ao, .inl (cL, 1, .inr (.inl g)))]) [1, 2, 3, 4, 5, 6, 7, 8, 9, 10, 11, 12, 0] (by decide) rfl
    obtain ⟨rfl, hk⟩ := hbad
    refine vx_catch (name := "java/lang/IndexOutOfBoundsException") hown [] ⟨0, 9, 12, 19⟩ [] htab (fun z h => nomatch h) (by decide) (by decide) (hts (.classLink RL 19 "java/lang/IndexOutOfBoundsException") (by decide +kernel)) (hZ.2.2.1 (.castable xI xI) (by decide +kernel) _) hce hcv hcl ?_
    refine lv_astore_n (lv' := [(3, .ref q9), (0, .ref h), (1, .int x), (2, .ref ao)]) hx hb dL_timesFined_12 rfl hl (by decide) rfl (fun ls hl => ?_)
    refine lv_iconst (v := 1) hx hb dL_timesFined_13 (by decide) ?_
    exact w_iret g hx hb hr hlocks hK hP hD hS (Nat.le_of_ble_eq_true rfl) (Nat.le_of_ble_eq_true rfl) dL_timesFined_14 ⟨hk.symm, fun hh9 => by rw [hk] at hh9; exact absurd hh9 (by decide)⟩
  · obtain ⟨hk, hr9⟩ := (show k1 (p_in x np) = 0 ∧ r = F 7 x.toNatClampNeg from hw)
    subst r
    have hP := hP.sub (ws' := (Dk cI cZ h a F nq no np sh nw) ++ [(ao, .inl (cL, 1, .inr (.inl g)))]) [1, 2, 3, 4, 5, 6, 7, 8, 9, 10, 11, 12, 0] rfl
    have hD := hD.sub (ws' := (Dk cI cZ h a F nq no np sh nw) ++ [(ao, .inl (cL, 1, .inr (.inl g)))]) [1, 2, 3, 4, 5, 6, 7, 8, 9, 10, 11, 12, 0] (by decide) rfl
    refine lv_i2l (v := (F 7 x.toNatClampNeg).toInt64) hx hb dL_timesFined_7 rfl ?_
    refine va_last hx hb hK hP hD hS 12 2 rfl rfl (f := g) (x := (F 7 x.toNatClampNeg).toInt64) (show vp_in 0 1 from vp_in_nI (n := 0) (by omega) (by omega)) dL_timesFined_8 (fun H locs hP hD hS => ?_)
    rw [sb_cl0] at hP hD
    have hP : va_P G vwCl ((Dk cI cZ h a F nq no np sh nw) ++ [(ao, .inl (cL, 1, .inr (.inl (vp_updL g 0 ((F 7 x.toNatClampNeg).toInt64)))))]) H := hP
    have hD : va_D A ((Dk cI cZ h a F nq no np sh nw) ++ [(ao, .inl (cL, 1, .inr (.inl (vp_updL g 0 ((F 7 x.toNatClampNeg).toInt64)))))]) := hD
    refine lv_goto (tgt := 15) hx hb dL_timesFined_9 (by decide) ?_
    refine lv_iconst (v := 0) hx hb dL_timesFined_15 (by decide) ?_
    exact w_iret (vp_updL g 0 ((F 7 x.toNatClampNeg).toInt64)) hx hb hr hlocks hK hP hD hS (Nat.le_of_ble_eq_true rfl) (Nat.le_of_ble_eq_true rfl) dL_timesFined_16 ⟨hk.symm, fun _ => pk_uLs⟩
set_option maxHeartbeats 4000000 in
set_option maxRecDepth 100000 in
theorem c_L_ordersAgainst (l : Launch) (hfl : l.flags = flags0) (G : va_G) (cI cZ cL : ClassId) (h : Nat) (a : Nat → Nat) (F : Nat → Nat → Int32) (nq no np : Nat) (sh nw : Int32) (ao : Nat) (g : Nat → Int64) (sz : Nat) (x : Int32) (y : Int32) (hnq : nq ≤ 6) (hno : no ≤ 10) (hnp : np ≤ 20) : Met l yL_ordersAgainst wsL_ordersAgainst ({ frames := 8, cells := 2, slots := 12, locals := 127 } : Room) (va_Pc [.ref h, .int x, .int y, .ref ao] (wPreL G (ty3 cI cZ cL) ((Dk cI cZ h a F nq no np sh nw) ++ [(ao, .inl (cL, 1, .inr (.inl g)))]) sz)) (va_Qi (fun (r : Int32) (u : Nat → Int64) => r = k1 (p_in x np && p_in y nq) ∧ (k1 (p_in x np && p_in y nq) = 0 → u 0 = (nI (p_ag F sh no x.toNatClampNeg y nw)).toInt64)) (fun u => wP G (ty3 cI cZ cL) ((Dk cI cZ h a F nq no np sh nw) ++ [(ao, .inl (cL, 1, .inr (.inl u)))]) (va_A ((Dk cI cZ h a F nq no np sh nw) ++ [(ao, .inl (cL, 1, .inr (.inl g)))]) sz)) (va_A ((Dk cI cZ h a F nq no np sh nw) ++ [(ao, .inl (cL, 1, .inr (.inl g)))]) sz)) 2 12 (va_A ((Dk cI cZ h a F nq no np sh nw) ++ [(ao, .inl (cL, 1, .inr (.inl g)))]) sz) := by
  refine w_metW (cc := cL_ordersAgainst) (maxL := 5) (ret := (some .int)) (hh := [(0, 10, 13, 19)]) (by decide) rfl (Nat.le_of_ble_eq_true rfl) ?_
  intro pg e s m below meth cd hx hb hml hr hts hown hlocks hnm htab hZ hNn hK hsz hP hD hA hS ls hl
  have hown : s.vm.findClass RL = some m.cls := hown
  have hl : lv_has ls 5 [(0, .ref h), (1, .int x), (2, .int y), (3, .ref ao)] := hl
  generalize hAe : va_A ((Dk cI cZ h a F nq no np sh nw) ++ [(ao, .inl (cL, 1, .inr (.inl g)))]) sz = A at hD hA hS hZ ⊢
  refine lv_aload_n hx hb dL_ordersAgainst_0 rfl (lv_at hl 3 rfl) ?_
  refine lv_iconst (v := 0) hx hb dL_ordersAgainst_1 (by decide) ?_
  refine lv_aload_n hx hb dL_ordersAgainst_2 rfl (lv_at hl 0 rfl) ?_
  refine lv_iload_n hx hb dL_ordersAgainst_3 rfl (lv_at hl 1 rfl) ?_
  refine lv_iload_n hx hb dL_ordersAgainst_4 rfl (lv_at hl 2 rfl) ?_
  refine w_cat_i (wr := [(ao, .inl (cL, 1, .inr (.inl g)))]) (vx_runV (As := [.int x, .int y]) (rest := [.int 0, .ref ao]) ⟨hx, hb, hml, hown, hts⟩ (cx_X0_ordersAgainst l hfl G cI cZ h a F nq no np sh nw s.heap.size x y (by omega) (by omega) (by omega)) (cwV 2 hts gL_ordersAgainst_X0_ordersAgainst rfl rfl rfl (by decide +kernel) ⟨(Nat.le_of_ble_eq_true rfl), (Nat.le_of_ble_eq_true rfl)⟩) ⟨wPreX_blind, va_recv hK hP (ci := 0) (q0 := 0) rfl rfl, w_preX (hK.sub [0, 1] rfl) (hP.sub [0, 1, 2, 3, 4, 5, 6, 7, 8, 9, 10, 11] rfl) (hD.sub [0, 1, 2, 3, 4, 5, 6, 7, 8, 9, 10, 11] (by decide) rfl) (va_free hD hS hA [0, 1, 2, 3, 4, 5, 6, 7, 8, 9, 10, 11] rfl) hS hZ⟩ rfl rfl hl.1 rfl (lv_room (Nat.le_of_ble_eq_true rfl)) dL_ordersAgainst_5 ⟨(Nat.le_of_ble_eq_true rfl), (Nat.le_of_ble_eq_true rfl)⟩) hP hD hS hA [0, 1, 2, 3, 4, 5, 6, 7, 8, 9, 10, 11] [12] rfl rfl (by decide) (by decide) (fun E ce q9 H locs hbad hP hD hS hce hcv hcl => ?_) (fun r u H locs hw hP hD hS => ?_)
  · have hP := hP.sub (ws' := (Dk cI cZ h a F nq no np sh nw) ++ [(ao, .inl (cL, 1, .inr (.inl g)))]) [1, 2, 3, 4, 5, 6, 7, 8, 9, 10, 11, 12, 0] rfl
    have hD := hD.sub (ws' := (Dk cI cZ h a F nq no np sh nw) ++ [(ao, .inl (cL, 1, .inr (.inl g)))]) [1, 2, 3, 4, 5, 6, 7, 8, 9, 10, 11, 12, 0] (by decide) rfl
    obtain ⟨rfl, hk⟩ := hbad
    refine vx_catch (name := "java/lang/IndexOutOfBoundsException") hown [] ⟨0, 10, 13, 19⟩ [] htab (fun z h => nomatch h) (by decide) (by decide) (hts (.classLink RL 19 "java/lang/IndexOutOfBoundsException") (by decide +kernel)) (hZ.2.2.1 (.castable xI xI) (by decide +kernel) _) hce hcv hcl ?_
    refine lv_astore (lv' := [(4, .ref q9), (0, .ref h), (1, .int x), (2, .int y), (3, .ref ao)]) hx hb dL_ordersAgainst_13 hl (by decide) rfl (fun ls hl => ?_)
    refine lv_iconst (v := 1) hx hb dL_ordersAgainst_15 (by decide) ?_
    exact w_iret g hx hb hr hlocks hK hP hD hS (Nat.le_of_ble_eq_true rfl) (Nat.le_of_ble_eq_true rfl) dL_ordersAgainst_16 ⟨hk.symm, fun hh9 => by rw [hk] at hh9; exact absurd hh9 (by decide)⟩
  · obtain ⟨hk, hr9⟩ := (show k1 (p_in x np && p_in y nq) = 0 ∧ r = nI (p_ag F sh no x.toNatClampNeg y nw) from hw)
    subst r
    have hP := hP.sub (ws' := (Dk cI cZ h a F nq no np sh nw) ++ [(ao, .inl (cL, 1, .inr (.inl g)))]) [1, 2, 3, 4, 5, 6, 7, 8, 9, 10, 11, 12, 0] rfl
    have hD := hD.sub (ws' := (Dk cI cZ h a F nq no np sh nw) ++ [(ao, .inl (cL, 1, .inr (.inl g)))]) [1, 2, 3, 4, 5, 6, 7, 8, 9, 10, 11, 12, 0] (by decide) rfl
    refine lv_i2l (v := (nI (p_ag F sh no x.toNatClampNeg y nw)).toInt64) hx hb dL_ordersAgainst_8 rfl ?_
    refine va_last hx hb hK hP hD hS 12 2 rfl rfl (f := g) (x := (nI (p_ag F sh no x.toNatClampNeg y nw)).toInt64) (show vp_in 0 1 from vp_in_nI (n := 0) (by omega) (by omega)) dL_ordersAgainst_9 (fun H locs hP hD hS => ?_)
    rw [sb_cl0] at hP hD
    have hP : va_P G vwCl ((Dk cI cZ h a F nq no np sh nw) ++ [(ao, .inl (cL, 1, .inr (.inl (vp_updL g 0 ((nI (p_ag F sh no x.toNatClampNeg y nw)).toInt64)))))]) H := hP
    have hD : va_D A ((Dk cI cZ h a F nq no np sh nw) ++ [(ao, .inl (cL, 1, .inr (.inl (vp_updL g 0 ((nI (p_ag F sh no x.toNatClampNeg y nw)).toInt64)))))]) := hD
    refine lv_goto (tgt := 17) hx hb dL_ordersAgainst_10 (by decide) ?_
    refine lv_iconst (v := 0) hx hb dL_ordersAgainst_17 (by decide) ?_
    exact w_iret (vp_updL g 0 ((nI (p_ag F sh no x.toNatClampNeg y nw)).toInt64)) hx hb hr hlocks hK hP hD hS (Nat.le_of_ble_eq_true rfl) (Nat.le_of_ble_eq_true rfl) dL_ordersAgainst_18 ⟨hk.symm, fun _ => pk_uLs⟩
set_option maxHeartbeats 4000000 in
set_option maxRecDepth 100000 in
theorem c_L_mayGo (l : Launch) (hfl : l.flags = flags0) (G : va_G) (cI cZ cL : ClassId) (h : Nat) (a : Nat → Nat) (F : Nat → Nat → Int32) (nq no np : Nat) (sh nw : Int32) (ao : Nat) (g : Nat → Int64) (sz : Nat) (x : Int32) (y : Int32) (hnq : nq ≤ 6) (hno : no ≤ 10) (hnp : np ≤ 20) : Met l yL_mayGo wsL_mayGo ({ frames := 8, cells := 2, slots := 12, locals := 139 } : Room) (va_Pc [.ref h, .int x, .int y, .ref ao] (wPreL G (ty3 cI cZ cL) ((Dk cI cZ h a F nq no np sh nw) ++ [(ao, .inl (cL, 1, .inr (.inl g)))]) sz)) (va_Qi (fun (r : Int32) (u : Nat → Int64) => r = k1 (p_in x np && p_in y nq) ∧ (k1 (p_in x np && p_in y nq) = 0 → u 0 = i2z (b2i (decide (p_miss F sh no x.toNatClampNeg y nw (-1) = 0))))) (fun u => wP G (ty3 cI cZ cL) ((Dk cI cZ h a F nq no np sh nw) ++ [(ao, .inl (cL, 1, .inr (.inl u)))]) (va_A ((Dk cI cZ h a F nq no np sh nw) ++ [(ao, .inl (cL, 1, .inr (.inl g)))]) sz)) (va_A ((Dk cI cZ h a F nq no np sh nw) ++ [(ao, .inl (cL, 1, .inr (.inl g)))]) sz)) 2 12 (va_A ((Dk cI cZ h a F nq no np sh nw) ++ [(ao, .inl (cL, 1, .inr (.inl g)))]) sz) := by
  refine w_metW (cc := cL_mayGo) (maxL := 5) (ret := (some .int)) (hh := [(0, 17, 20, 19)]) (by decide) rfl (Nat.le_of_ble_eq_true rfl) ?_
  intro pg e s m below meth cd hx hb hml hr hts hown hlocks hnm htab hZ hNn hK hsz hP hD hA hS ls hl
  have hown : s.vm.findClass RL = some m.cls := hown
  have hl : lv_has ls 5 [(0, .ref h), (1, .int x), (2, .int y), (3, .ref ao)] := hl
  generalize hAe : va_A ((Dk cI cZ h a F nq no np sh nw) ++ [(ao, .inl (cL, 1, .inr (.inl g)))]) sz = A at hD hA hS hZ ⊢
  refine lv_aload_n hx hb dL_mayGo_0 rfl (lv_at hl 3 rfl) ?_
  refine lv_iconst (v := 0) hx hb dL_mayGo_1 (by decide) ?_
  refine lv_aload_n hx hb dL_mayGo_2 rfl (lv_at hl 0 rfl) ?_
  refine lv_iload_n hx hb dL_mayGo_3 rfl (lv_at hl 1 rfl) ?_
  refine lv_iload_n hx hb dL_mayGo_4 rfl (lv_at hl 2 rfl) ?_
  refine w_cat_i (wr := [(ao, .inl (cL, 1, .inr (.inl g)))]) (vx_runV (As := [.int x, .int y]) (rest := [.int 0, .ref ao]) ⟨hx, hb, hml, hown, hts⟩ (cx_X0_mayGo l hfl G cI cZ h a F nq no np sh nw s.heap.size x y (by omega) (by omega) (by omega)) (cwV 2 hts gL_mayGo_X0_mayGo rfl rfl rfl (by decide +kernel) ⟨(Nat.le_of_ble_eq_true rfl), (Nat.le_of_ble_eq_true rfl)⟩) ⟨wPreX_blind, va_recv hK hP (ci := 0) (q0 := 0) rfl rfl, w_preX (hK.sub [0, 1] rfl) (hP.sub [0, 1, 2, 3, 4, 5, 6, 7, 8, 9, 10, 11] rfl) (hD.sub [0, 1, 2, 3, 4, 5, 6, 7, 8, 9, 10, 11] (by decide) rfl) (va_free hD hS hA [0, 1, 2, 3, 4, 5, 6, 7, 8, 9, 10, 11] rfl) hS hZ⟩ rfl rfl hl.1 rfl (lv_room (Nat.le_of_ble_eq_true rfl)) dL_mayGo_5 ⟨(Nat.le_of_ble_eq_true rfl), (Nat.le_of_ble_eq_true rfl)⟩) hP hD hS hA [0, 1, 2, 3, 4, 5, 6, 7, 8, 9, 10, 11] [12] rfl rfl (by decide) (by decide) (fun E ce q9 H locs hbad hP hD hS hce hcv hcl => ?_) (fun r u H locs hw hP hD hS => ?_)
  · have hP := hP.sub (ws' := (Dk cI cZ h a F nq no np sh nw) ++ [(ao, .inl (cL, 1, .inr (.inl g)))]) [1, 2, 3, 4, 5, 6, 7, 8, 9, 10, 11, 12, 0] rfl
    have hD := hD.sub (ws' := (Dk cI cZ h a F nq no np sh nw) ++ [(ao, .inl (cL, 1, .inr (.inl g)))]) [1, 2, 3, 4, 5, 6, 7, 8, 9, 10, 11, 12, 0] (by decide) rfl
    obtain ⟨rfl, hk⟩ := hbad
    refine vx_catch (name := "java/lang/IndexOutOfBoundsException") hown [] ⟨0, 17, 20, 19⟩ [] htab (fun z h => nomatch h) (by decide) (by decide) (hts (.classLink RL 19 "java/lang/IndexOutOfBoundsException") (by decide +kernel)) (hZ.2.2.1 (.castable xI xI) (by decide +kernel) _) hce hcv hcl ?_
    refine lv_astore (lv' := [(4, .ref q9), (0, .ref h), (1, .int x), (2, .int y), (3, .ref ao)]) hx hb dL_mayGo_20 hl (by decide) rfl (fun ls hl => ?_)
    refine lv_iconst (v := 1) hx hb dL_mayGo_22 (by decide) ?_
    exact w_iret g hx hb hr hlocks hK hP hD hS (Nat.le_of_ble_eq_true rfl) (Nat.le_of_ble_eq_true rfl) dL_mayGo_23 ⟨hk.symm, fun hh9 => by rw [hk] at hh9; exact absurd hh9 (by decide)⟩
  · obtain ⟨hk, hr9⟩ := (show k1 (p_in x np && p_in y nq) = 0 ∧ r = b2i (decide (p_miss F sh no x.toNatClampNeg y nw (-1) = 0)) from hw)
    subst r
    have hP := hP.sub (ws' := (Dk cI cZ h a F nq no np sh nw) ++ [(ao, .inl (cL, 1, .inr (.inl g)))]) [1, 2, 3, 4, 5, 6, 7, 8, 9, 10, 11, 12, 0] rfl
    have hD := hD.sub (ws' := (Dk cI cZ h a F nq no np sh nw) ++ [(ao, .inl (cL, 1, .inr (.inl g)))]) [1, 2, 3, 4, 5, 6, 7, 8, 9, 10, 11, 12, 0] (by decide) rfl
    refine w_selL hx hb dL_mayGo_8 (by decide) dL_mayGo_11 dL_mayGo_12 (by decide) dL_mayGo_15 ?_
    refine va_last hx hb hK hP hD hS 12 2 rfl rfl (f := g) (x := i2z (b2i (decide (p_miss F sh no x.toNatClampNeg y nw (-1) = 0)))) (show vp_in 0 1 from vp_in_nI (n := 0) (by omega) (by omega)) dL_mayGo_16 (fun H locs hP hD hS => ?_)
    rw [sb_cl0] at hP hD
    have hP : va_P G vwCl ((Dk cI cZ h a F nq no np sh nw) ++ [(ao, .inl (cL, 1, .inr (.inl (vp_updL g 0 (i2z (b2i (decide (p_miss F sh no x.toNatClampNeg y nw (-1) = 0))))))))]) H := hP
    have hD : va_D A ((Dk cI cZ h a F nq no np sh nw) ++ [(ao, .inl (cL, 1, .inr (.inl (vp_updL g 0 (i2z (b2i (decide (p_miss F sh no x.toNatClampNeg y nw (-1) = 0))))))))]) := hD
    refine lv_goto (tgt := 24) hx hb dL_mayGo_17 (by decide) ?_
    refine lv_iconst (v := 0) hx hb dL_mayGo_24 (by decide) ?_
    exact w_iret (vp_updL g 0 (i2z (b2i (decide (p_miss F sh no x.toNatClampNeg y nw (-1) = 0))))) hx hb hr hlocks hK hP hD hS (Nat.le_of_ble_eq_true rfl) (Nat.le_of_ble_eq_true rfl) dL_mayGo_25 ⟨hk.symm, fun _ => pk_uLs⟩
set_option maxHeartbeats 4000000 in
set_option maxRecDepth 100000 in
theorem c_L_stampsMissing (l : Launch) (hfl : l.flags = flags0) (G : va_G) (cI cZ cL : ClassId) (h : Nat) (a : Nat → Nat) (F : Nat → Nat → Int32) (nq no np : Nat) (sh nw : Int32) (ao : Nat) (g : Nat → Int64) (sz : Nat) (x : Int32) (y : Int32) (hnq : nq ≤ 6) (hno : no ≤ 10) (hnp : np ≤ 20) : Met l yL_stampsMissing wsL_stampsMissing ({ frames := 8, cells := 2, slots := 12, locals := 139 } : Room) (va_Pc [.ref h, .int x, .int y, .ref ao] (wPreL G (ty3 cI cZ cL) ((Dk cI cZ h a F nq no np sh nw) ++ [(ao, .inl (cL, 1, .inr (.inl g)))]) sz)) (va_Qi (fun (r : Int32) (u : Nat → Int64) => r = k1 (p_in x np && p_in y nq) ∧ (k1 (p_in x np && p_in y nq) = 0 → u 0 = (p_miss F sh no x.toNatClampNeg y nw (-1)).toInt64)) (fun u => wP G (ty3 cI cZ cL) ((Dk cI cZ h a F nq no np sh nw) ++ [(ao, .inl (cL, 1, .inr (.inl u)))]) (va_A ((Dk cI cZ h a F nq no np sh nw) ++ [(ao, .inl (cL, 1, .inr (.inl g)))]) sz)) (va_A ((Dk cI cZ h a F nq no np sh nw) ++ [(ao, .inl (cL, 1, .inr (.inl g)))]) sz)) 2 12 (va_A ((Dk cI cZ h a F nq no np sh nw) ++ [(ao, .inl (cL, 1, .inr (.inl g)))]) sz) := by
  refine w_metW (cc := cL_stampsMissing) (maxL := 5) (ret := (some .int)) (hh := [(0, 10, 13, 19)]) (by decide) rfl (Nat.le_of_ble_eq_true rfl) ?_
  intro pg e s m below meth cd hx hb hml hr hts hown hlocks hnm htab hZ hNn hK hsz hP hD hA hS ls hl
  have hown : s.vm.findClass RL = some m.cls := hown
  have hl : lv_has ls 5 [(0, .ref h), (1, .int x), (2, .int y), (3, .ref ao)] := hl
  generalize hAe : va_A ((Dk cI cZ h a F nq no np sh nw) ++ [(ao, .inl (cL, 1, .inr (.inl g)))]) sz = A at hD hA hS hZ ⊢
  refine lv_aload_n hx hb dL_stampsMissing_0 rfl (lv_at hl 3 rfl) ?_
  refine lv_iconst (v := 0) hx hb dL_stampsMissing_1 (by decide) ?_
  refine lv_aload_n hx hb dL_stampsMissing_2 rfl (lv_at hl 0 rfl) ?_
  refine lv_iload_n hx hb dL_stampsMissing_3 rfl (lv_at hl 1 rfl) ?_
  refine lv_iload_n hx hb dL_stampsMissing_4 rfl (lv_at hl 2 rfl) ?_
  refine w_cat_i (wr := [(ao, .inl (cL, 1, .inr (.inl g)))]) (vx_runV (As := [.int x, .int y]) (rest := [.int 0, .ref ao]) ⟨hx, hb, hml, hown, hts⟩ (cx_X0_stampsMissing l hfl G cI cZ h a F nq no np sh nw s.heap.size x y (by omega) (by omega) (by omega)) (cwV 2 hts gL_stampsMissing_X0_stampsMissing rfl rfl rfl (by decide +kernel) ⟨(Nat.le_of_ble_eq_true rfl), (Nat.le_of_ble_eq_true rfl)⟩) ⟨wPreX_blind, va_recv hK hP (ci := 0) (q0 := 0) rfl rfl, w_preX (hK.sub [0, 1] rfl) (hP.sub [0, 1, 2, 3, 4, 5, 6, 7, 8, 9, 10, 11] rfl) (hD.sub [0, 1, 2, 3, 4, 5, 6, 7, 8, 9, 10, 11] (by decide) rfl) (va_free hD hS hA [0, 1, 2, 3, 4, 5, 6, 7, 8, 9, 10, 11] rfl) hS hZ⟩ rfl rfl hl.1 rfl (lv_room (Nat.le_of_ble_eq_true rfl)) dL_stampsMissing_5 ⟨(Nat.le_of_ble_eq_true rfl), (Nat.le_of_ble_eq_true rfl)⟩) hP hD hS hA [0, 1, 2, 3, 4, 5, 6, 7, 8, 9, 10, 11] [12] rfl rfl (by decide) (by decide) (fun E ce q9 H locs hbad hP hD hS hce hcv hcl => ?_) (fun r u H locs hw hP hD hS => ?_)
  · have hP := hP.sub (ws' := (Dk cI cZ h a F nq no np sh nw) ++ [(ao, .inl (cL, 1, .inr (.inl g)))]) [1, 2, 3, 4, 5, 6, 7, 8, 9, 10, 11, 12, 0] rfl
    have hD := hD.sub (ws' := (Dk cI cZ h a F nq no np sh nw) ++ [(ao, .inl (cL, 1, .inr (.inl g)))]) [1, 2, 3, 4, 5, 6, 7, 8, 9, 10, 11, 12, 0] (by decide) rfl
    obtain ⟨rfl, hk⟩ := hbad
    refine vx_catch (name := "java/lang/IndexOutOfBoundsException") hown [] ⟨0, 10, 13, 19⟩ [] htab (fun z h => nomatch h) (by decide) (by decide) (hts (.classLink RL 19 "java/lang/IndexOutOfBoundsException") (by decide +kernel)) (hZ.2.2.1 (.castable xI xI) (by decide +kernel) _) hce hcv hcl ?_
    refine lv_astore (lv' := [(4, .ref q9), (0, .ref h), (1, .int x), (2, .int y), (3, .ref ao)]) hx hb dL_stampsMissing_13 hl (by decide) rfl (fun ls hl => ?_)
    refine lv_iconst (v := 1) hx hb dL_stampsMissing_15 (by decide) ?_
    exact w_iret g hx hb hr hlocks hK hP hD hS (Nat.le_of_ble_eq_true rfl) (Nat.le_of_ble_eq_true rfl) dL_stampsMissing_16 ⟨hk.symm, fun hh9 => by rw [hk] at hh9; exact absurd hh9 (by decide)⟩
  · obtain ⟨hk, hr9⟩ := (show k1 (p_in x np && p_in y nq) = 0 ∧ r = p_miss F sh no x.toNatClampNeg y nw (-1) from hw)
    subst r
    have hP := hP.sub (ws' := (Dk cI cZ h a F nq no np sh nw) ++ [(ao, .inl (cL, 1, .inr (.inl g)))]) [1, 2, 3, 4, 5, 6, 7, 8, 9, 10, 11, 12, 0] rfl
    have hD := hD.sub (ws' := (Dk cI cZ h a F nq no np sh nw) ++ [(ao, .inl (cL, 1, .inr (.inl g)))]) [1, 2, 3, 4, 5, 6, 7, 8, 9, 10, 11, 12, 0] (by decide) rfl
    refine lv_i2l (v := (p_miss F sh no x.toNatClampNeg y nw (-1)).toInt64) hx hb dL_stampsMissing_8 rfl ?_
    refine va_last hx hb hK hP hD hS 12 2 rfl rfl (f := g) (x := (p_miss F sh no x.toNatClampNeg y nw (-1)).toInt64) (show vp_in 0 1 from vp_in_nI (n := 0) (by omega) (by omega)) dL_stampsMissing_9 (fun H locs hP hD hS => ?_)
    rw [sb_cl0] at hP hD
    have hP : va_P G vwCl ((Dk cI cZ h a F nq no np sh nw) ++ [(ao, .inl (cL, 1, .inr (.inl (vp_updL g 0 ((p_miss F sh no x.toNatClampNeg y nw (-1)).toInt64)))))]) H := hP
    have hD : va_D A ((Dk cI cZ h a F nq no np sh nw) ++ [(ao, .inl (cL, 1, .inr (.inl (vp_updL g 0 ((p_miss F sh no x.toNatClampNeg y nw (-1)).toInt64)))))]) := hD
    refine lv_goto (tgt := 17) hx hb dL_stampsMissing_10 (by decide) ?_
    refine lv_iconst (v := 0) hx hb dL_stampsMissing_17 (by decide) ?_
    exact w_iret (vp_updL g 0 ((p_miss F sh no x.toNatClampNeg y nw (-1)).toInt64)) hx hb hr hlocks hK hP hD hS (Nat.le_of_ble_eq_true rfl) (Nat.le_of_ble_eq_true rfl) dL_stampsMissing_18 ⟨hk.symm, fun _ => pk_uLs⟩
set_option maxHeartbeats 4000000 in
set_option maxRecDepth 100000 in
theorem c_L_stampsUsed (l : Launch) (hfl : l.flags = flags0) (G : va_G) (cI cZ cL : ClassId) (h : Nat) (a : Nat → Nat) (F : Nat → Nat → Int32) (nq no np : Nat) (sh nw : Int32) (ao : Nat) (g : Nat → Int64) (sz : Nat) (x : Int32) : Met l yL_stampsUsed wsL_stampsUsed ({ frames := 8, cells := 1, slots := 6, locals := 123 } : Room) (va_Pc [.ref h, .int x, .ref ao] (wPreL G (ty3 cI cZ cL) ((Dk cI cZ h a F nq no np sh nw) ++ [(ao, .inl (cL, 1, .inr (.inl g)))]) sz)) (va_Qi (fun (r : Int32) (u : Nat → Int64) => r = k1 (p_in x 4) ∧ (k1 (p_in x 4) = 0 → u 0 = (F 10 x.toNatClampNeg).toInt64)) (fun u => wP G (ty3 cI cZ cL) ((Dk cI cZ h a F nq no np sh nw) ++ [(ao, .inl (cL, 1, .inr (.inl u)))]) (va_A ((Dk cI cZ h a F nq no np sh nw) ++ [(ao, .inl (cL, 1, .inr (.inl g)))]) sz)) (va_A ((Dk cI cZ h a F nq no np sh nw) ++ [(ao, .inl (cL, 1, .inr (.inl g)))]) sz)) 1 6 (va_A ((Dk cI cZ h a F nq no np sh nw) ++ [(ao, .inl (cL, 1, .inr (.inl g)))]) sz) := by
  refine w_metW (cc := cL_stampsUsed) (maxL := 4) (ret := (some .int)) (hh := [(0, 9, 12, 19)]) (by decide) rfl (Nat.le_of_ble_eq_true rfl) ?_
  intro pg e s m below meth cd hx hb hml hr hts hown hlocks hnm htab hZ hNn hK hsz hP hD hA hS ls hl
  have hown : s.vm.findClass RL = some m.cls := hown
  have hl : lv_has ls 4 [(0, .ref h), (1, .int x), (2, .ref ao)] := hl
  generalize hAe : va_A ((Dk cI cZ h a F nq no np sh nw) ++ [(ao, .inl (cL, 1, .inr (.inl g)))]) sz = A at hD hA hS hZ ⊢
  refine lv_aload_n hx hb dL_stampsUsed_0 rfl (lv_at hl 2 rfl) ?_
  refine lv_iconst (v := 0) hx hb dL_stampsUsed_1 (by decide) ?_
  refine lv_aload_n hx hb dL_stampsUsed_2 rfl (lv_at hl 0 rfl) ?_
  refine lv_iload_n hx hb dL_stampsUsed_3 rfl (lv_at hl 1 rfl) ?_
  refine w_cat_i (wr := [(ao, .inl (cL, 1, .inr (.inl g)))]) (vx_runV (As := [.int x]) (rest := [.int 0, .ref ao]) ⟨hx, hb, hml, hown, hts⟩ (cx_X0_stampsUsed l hfl G cI cZ h a F nq no np sh nw s.heap.size x ) (cwV 1 hts gL_stampsUsed_X0_stampsUsed rfl rfl rfl (by decide +kernel) ⟨(Nat.le_of_ble_eq_true rfl), (Nat.le_of_ble_eq_true rfl)⟩) ⟨wPreX_blind, va_recv hK hP (ci := 0) (q0 := 0) rfl rfl, w_preX (hK.sub [0, 1] rfl) (hP.sub [0, 1, 2, 3, 4, 5, 6, 7, 8, 9, 10, 11] rfl) (hD.sub [0, 1, 2, 3, 4, 5, 6, 7, 8, 9, 10, 11] (by decide) rfl) (va_free hD hS hA [0, 1, 2, 3, 4, 5, 6, 7, 8, 9, 10, 11] rfl) hS hZ⟩ rfl rfl hl.1 rfl (lv_room (Nat.le_of_ble_eq_true rfl)) dL_stampsUsed_4 ⟨(Nat.le_of_ble_eq_true rfl), (Nat.le_of_ble_eq_true rfl)⟩) hP hD hS hA [0, 1, 2, 3, 4, 5, 6, 7, 8, 9, 10, 11] [12] rfl rfl (by decide) (by decide) (fun E ce q9 H locs hbad hP hD hS hce hcv hcl => ?_) (fun r u H locs hw hP hD hS => ?_)
  · have hP := hP.sub (ws' := (Dk cI cZ h a F nq no np sh nw) ++ [(ao, .inl (cL, 1, .inr (.inl g)))]) [1, 2, 3, 4, 5, 6, 7, 8, 9, 10, 11, 12, 0] rfl
    have hD := hD.sub (ws' := (Dk cI cZ h a F nq no np sh nw) ++ [(ao, .inl (cL, 1, .inr (.inl g)))]) [1, 2, 3, 4, 5, 6, 7, 8, 9, 10, 11, 12, 0] (by decide) rfl
    obtain ⟨rfl, hk⟩ := hbad
    refine vx_catch (name := "java/lang/IndexOutOfBoundsException") hown [] ⟨0, 9, 12, 19⟩ [] htab (fun z h => nomatch h) (by decide) (by decide) (hts (.classLink RL 19 "java/lang/IndexOutOfBoundsException") (by decide +kernel)) (hZ.2.2.1 (.castable xI xI) (by decide +kernel) _) hce hcv hcl ?_
    refine lv_astore_n (lv' := [(3, .ref q9), (0, .ref h), (1, .int x), (2, .ref ao)]) hx hb dL_stampsUsed_12 rfl hl (by decide) rfl (fun ls hl => ?_)
    refine lv_iconst (v := 1) hx hb dL_stampsUsed_13 (by decide) ?_
    exact w_iret g hx hb hr hlocks hK hP hD hS (Nat.le_of_ble_eq_true rfl) (Nat.le_of_ble_eq_true rfl) dL_stampsUsed_14 ⟨hk.symm, fun hh9 => by rw [hk] at hh9; exact absurd hh9 (by decide)⟩
  · obtain ⟨hk, hr9⟩ := (show k1 (p_in x 4) = 0 ∧ r = F 10 x.toNatClampNeg from hw)
    subst r
    have hP := hP.sub (ws' := (Dk cI cZ h a F nq no np sh nw) ++ [(ao, .inl (cL, 1, .inr (.inl g)))]) [1, 2, 3, 4, 5, 6, 7, 8, 9, 10, 11, 12, 0] rfl
    have hD := hD.sub (ws' := (Dk cI cZ h a F nq no np sh nw) ++ [(ao, .inl (cL, 1, .inr (.inl g)))]) [1, 2, 3, 4, 5, 6, 7, 8, 9, 10, 11, 12, 0] (by decide) rfl
    refine lv_i2l (v := (F 10 x.toNatClampNeg).toInt64) hx hb dL_stampsUsed_7 rfl ?_
    refine va_last hx hb hK hP hD hS 12 2 rfl rfl (f := g) (x := (F 10 x.toNatClampNeg).toInt64) (show vp_in 0 1 from vp_in_nI (n := 0) (by omega) (by omega)) dL_stampsUsed_8 (fun H locs hP hD hS => ?_)
    rw [sb_cl0] at hP hD
    have hP : va_P G vwCl ((Dk cI cZ h a F nq no np sh nw) ++ [(ao, .inl (cL, 1, .inr (.inl (vp_updL g 0 ((F 10 x.toNatClampNeg).toInt64)))))]) H := hP
    have hD : va_D A ((Dk cI cZ h a F nq no np sh nw) ++ [(ao, .inl (cL, 1, .inr (.inl (vp_updL g 0 ((F 10 x.toNatClampNeg).toInt64)))))]) := hD
    refine lv_goto (tgt := 15) hx hb dL_stampsUsed_9 (by decide) ?_
    refine lv_iconst (v := 0) hx hb dL_stampsUsed_15 (by decide) ?_
    exact w_iret (vp_updL g 0 ((F 10 x.toNatClampNeg).toInt64)) hx hb hr hlocks hK hP hD hS (Nat.le_of_ble_eq_true rfl) (Nat.le_of_ble_eq_true rfl) dL_stampsUsed_16 ⟨hk.symm, fun _ => pk_uLs⟩
set_option maxHeartbeats 4000000 in
set_option maxRecDepth 100000 in
theorem c_L_halfHoursUntilFree (l : Launch) (hfl : l.flags = flags0) (G : va_G) (cI cZ cL : ClassId) (h : Nat) (a : Nat → Nat) (F : Nat → Nat → Int32) (nq no np : Nat) (sh nw : Int32) (ao : Nat) (g : Nat → Int64) (sz : Nat) (x : Int32) (y : Int32) (hnq : nq ≤ 6) (hno : no ≤ 10) (hnp : np ≤ 20) : Met l yL_halfHoursUntilFree wsL_halfHoursUntilFree ({ frames := 8, cells := 2, slots := 12, locals := 137 } : Room) (va_Pc [.ref h, .int x, .int y, .ref ao] (wPreL G (ty3 cI cZ cL) ((Dk cI cZ h a F nq no np sh nw) ++ [(ao, .inl (cL, 1, .inr (.inl g)))]) sz)) (va_Qi (fun (r : Int32) (u : Nat → Int64) => r = k1 (p_in x np && p_in y nq) ∧ (k1 (p_in x np && p_in y nq) = 0 → u 0 = (a_hu F sh nw no x.toNatClampNeg y).toInt64)) (fun u => wP G (ty3 cI cZ cL) ((Dk cI cZ h a F nq no np sh nw) ++ [(ao, .inl (cL, 1, .inr (.inl u)))]) (va_A ((Dk cI cZ h a F nq no np sh nw) ++ [(ao, .inl (cL, 1, .inr (.inl g)))]) sz)) (va_A ((Dk cI cZ h a F nq no np sh nw) ++ [(ao, .inl (cL, 1, .inr (.inl g)))]) sz)) 2 12 (va_A ((Dk cI cZ h a F nq no np sh nw) ++ [(ao, .inl (cL, 1, .inr (.inl g)))]) sz) := by
  refine w_metW (cc := cL_halfHoursUntilFree) (maxL := 5) (ret := (some .int)) (hh := [(0, 10, 13, 19)]) (by decide) rfl (Nat.le_of_ble_eq_true rfl) ?_
  intro pg e s m below meth cd hx hb hml hr hts hown hlocks hnm htab hZ hNn hK hsz hP hD hA hS ls hl
  have hown : s.vm.findClass RL = some m.cls := hown
  have hl : lv_has ls 5 [(0, .ref h), (1, .int x), (2, .int y), (3, .ref ao)] := hl
  generalize hAe : va_A ((Dk cI cZ h a F nq no np sh nw) ++ [(ao, .inl (cL, 1, .inr (.inl g)))]) sz = A at hD hA hS hZ ⊢
  refine lv_aload_n hx hb dL_halfHoursUntilFree_0 rfl (lv_at hl 3 rfl) ?_
  refine lv_iconst (v := 0) hx hb dL_halfHoursUntilFree_1 (by decide) ?_
  refine lv_aload_n hx hb dL_halfHoursUntilFree_2 rfl (lv_at hl 0 rfl) ?_
  refine lv_iload_n hx hb dL_halfHoursUntilFree_3 rfl (lv_at hl 1 rfl) ?_
  refine lv_iload_n hx hb dL_halfHoursUntilFree_4 rfl (lv_at hl 2 rfl) ?_
  refine w_cat_i (wr := [(ao, .inl (cL, 1, .inr (.inl g)))]) (vx_runV (As := [.int x, .int y]) (rest := [.int 0, .ref ao]) ⟨hx, hb, hml, hown, hts⟩ (cx_X0_halfHoursUntilFree l hfl G cI cZ h a F nq no np sh nw s.heap.size x y (by omega) (by omega) (by omega)) (cwV 2 hts gL_halfHoursUntilFree_X0_halfHoursUntilFree rfl rfl rfl (by decide +kernel) ⟨(Nat.le_of_ble_eq_true rfl), (Nat.le_of_ble_eq_true rfl)⟩) ⟨wPreX_blind, va_recv hK hP (ci := 0) (q0 := 0) rfl rfl, w_preX (hK.sub [0, 1] rfl) (hP.sub [0, 1, 2, 3, 4, 5, 6, 7, 8, 9, 10, 11] rfl) (hD.sub [0, 1, 2, 3, 4, 5, 6, 7, 8, 9, 10, 11] (by decide) rfl) (va_free hD hS hA [0, 1, 2, 3, 4, 5, 6, 7, 8, 9, 10, 11] rfl) hS hZ⟩ rfl rfl hl.1 rfl (lv_room (Nat.le_of_ble_eq_true rfl)) dL_halfHoursUntilFree_5 ⟨(Nat.le_of_ble_eq_true rfl), (Nat.le_of_ble_eq_true rfl)⟩) hP hD hS hA [0, 1, 2, 3, 4, 5, 6, 7, 8, 9, 10, 11] [12] rfl rfl (by decide) (by decide) (fun E ce q9 H locs hbad hP hD hS hce hcv hcl => ?_) (fun r u H locs hw hP hD hS => ?_)
  · have hP := hP.sub (ws' := (Dk cI cZ h a F nq no np sh nw) ++ [(ao, .inl (cL, 1, .inr (.inl g)))]) [1, 2, 3, 4, 5, 6, 7, 8, 9, 10, 11, 12, 0] rfl
    have hD := hD.sub (ws' := (Dk cI cZ h a F nq no np sh nw) ++ [(ao, .inl (cL, 1, .inr (.inl g)))]) [1, 2, 3, 4, 5, 6, 7, 8, 9, 10, 11, 12, 0] (by decide) rfl
    obtain ⟨rfl, hk⟩ := hbad
    refine vx_catch (name := "java/lang/IndexOutOfBoundsException") hown [] ⟨0, 10, 13, 19⟩ [] htab (fun z h => nomatch h) (by decide) (by decide) (hts (.classLink RL 19 "java/lang/IndexOutOfBoundsException") (by decide +kernel)) (hZ.2.2.1 (.castable xI xI) (by decide +kernel) _) hce hcv hcl ?_
    refine lv_astore (lv' := [(4, .ref q9), (0, .ref h), (1, .int x), (2, .int y), (3, .ref ao)]) hx hb dL_halfHoursUntilFree_13 hl (by decide) rfl (fun ls hl => ?_)
    refine lv_iconst (v := 1) hx hb dL_halfHoursUntilFree_15 (by decide) ?_
    exact w_iret g hx hb hr hlocks hK hP hD hS (Nat.le_of_ble_eq_true rfl) (Nat.le_of_ble_eq_true rfl) dL_halfHoursUntilFree_16 ⟨hk.symm, fun hh9 => by rw [hk] at hh9; exact absurd hh9 (by decide)⟩
  · obtain ⟨hk, hr9⟩ := (show k1 (p_in x np && p_in y nq) = 0 ∧ r = a_hu F sh nw no x.toNatClampNeg y from hw)
    subst r
    have hP := hP.sub (ws' := (Dk cI cZ h a F nq no np sh nw) ++ [(ao, .inl (cL, 1, .inr (.inl g)))]) [1, 2, 3, 4, 5, 6, 7, 8, 9, 10, 11, 12, 0] rfl
    have hD := hD.sub (ws' := (Dk cI cZ h a F nq no np sh nw) ++ [(ao, .inl (cL, 1, .inr (.inl g)))]) [1, 2, 3, 4, 5, 6, 7, 8, 9, 10, 11, 12, 0] (by decide) rfl
    refine lv_i2l (v := (a_hu F sh nw no x.toNatClampNeg y).toInt64) hx hb dL_halfHoursUntilFree_8 rfl ?_
    refine va_last hx hb hK hP hD hS 12 2 rfl rfl (f := g) (x := (a_hu F sh nw no x.toNatClampNeg y).toInt64) (show vp_in 0 1 from vp_in_nI (n := 0) (by omega) (by omega)) dL_halfHoursUntilFree_9 (fun H locs hP hD hS => ?_)
    rw [sb_cl0] at hP hD
    have hP : va_P G vwCl ((Dk cI cZ h a F nq no np sh nw) ++ [(ao, .inl (cL, 1, .inr (.inl (vp_updL g 0 ((a_hu F sh nw no x.toNatClampNeg y).toInt64)))))]) H := hP
    have hD : va_D A ((Dk cI cZ h a F nq no np sh nw) ++ [(ao, .inl (cL, 1, .inr (.inl (vp_updL g 0 ((a_hu F sh nw no x.toNatClampNeg y).toInt64)))))]) := hD
    refine lv_goto (tgt := 17) hx hb dL_halfHoursUntilFree_10 (by decide) ?_
    refine lv_iconst (v := 0) hx hb dL_halfHoursUntilFree_17 (by decide) ?_
    exact w_iret (vp_updL g 0 ((a_hu F sh nw no x.toNatClampNeg y).toInt64)) hx hb hr hlocks hK hP hD hS (Nat.le_of_ble_eq_true rfl) (Nat.le_of_ble_eq_true rfl) dL_halfHoursUntilFree_18 ⟨hk.symm, fun _ => pk_uLs⟩
set_option maxHeartbeats 4000000 in
set_option maxRecDepth 100000 in
theorem c_L_halfHoursOn (l : Launch) (hfl : l.flags = flags0) (G : va_G) (cI cZ cL : ClassId) (h : Nat) (a : Nat → Nat) (F : Nat → Nat → Int32) (nq no np : Nat) (sh nw : Int32) (ao : Nat) (g : Nat → Int64) (sz : Nat) (x : Int32) (hno : no ≤ 10) : Met l yL_halfHoursOn wsL_halfHoursOn ({ frames := 8, cells := 1, slots := 6, locals := 126 } : Room) (va_Pc [.ref h, .int x, .ref ao] (wPreL G (ty3 cI cZ cL) ((Dk cI cZ h a F nq no np sh nw) ++ [(ao, .inl (cL, 1, .inr (.inl g)))]) sz)) (va_Qi (fun (r : Int32) (u : Nat → Int64) => r = k1 (p_in x no) ∧ (k1 (p_in x no) = 0 → u 0 = (nI (p_ct (p_hB F sh nw x.toNatClampNeg) 48)).toInt64)) (fun u => wP G (ty3 cI cZ cL) ((Dk cI cZ h a F nq no np sh nw) ++ [(ao, .inl (cL, 1, .inr (.inl u)))]) (va_A ((Dk cI cZ h a F nq no np sh nw) ++ [(ao, .inl (cL, 1, .inr (.inl g)))]) sz)) (va_A ((Dk cI cZ h a F nq no np sh nw) ++ [(ao, .inl (cL, 1, .inr (.inl g)))]) sz)) 1 6 (va_A ((Dk cI cZ h a F nq no np sh nw) ++ [(ao, .inl (cL, 1, .inr (.inl g)))]) sz) := by
  refine w_metW (cc := cL_halfHoursOn) (maxL := 4) (ret := (some .int)) (hh := [(0, 9, 12, 19)]) (by decide) rfl (Nat.le_of_ble_eq_true rfl) ?_
  intro pg e s m below meth cd hx hb hml hr hts hown hlocks hnm htab hZ hNn hK hsz hP hD hA hS ls hl
  have hown : s.vm.findClass RL = some m.cls := hown
  have hl : lv_has ls 4 [(0, .ref h), (1, .int x), (2, .ref ao)] := hl
  generalize hAe : va_A ((Dk cI cZ h a F nq no np sh nw) ++ [(ao, .inl (cL, 1, .inr (.inl g)))]) sz = A at hD hA hS hZ ⊢
  refine lv_aload_n hx hb dL_halfHoursOn_0 rfl (lv_at hl 2 rfl) ?_
  refine lv_iconst (v := 0) hx hb dL_halfHoursOn_1 (by decide) ?_
  refine lv_aload_n hx hb dL_halfHoursOn_2 rfl (lv_at hl 0 rfl) ?_
  refine lv_iload_n hx hb dL_halfHoursOn_3 rfl (lv_at hl 1 rfl) ?_
  refine w_cat_i (wr := [(ao, .inl (cL, 1, .inr (.inl g)))]) (vx_runV (As := [.int x]) (rest := [.int 0, .ref ao]) ⟨hx, hb, hml, hown, hts⟩ (cx_X0_halfHoursOn l hfl G cI cZ h a F nq no np sh nw s.heap.size x (by omega)) (cwV 1 hts gL_halfHoursOn_X0_halfHoursOn rfl rfl rfl (by decide +kernel) ⟨(Nat.le_of_ble_eq_true rfl), (Nat.le_of_ble_eq_true rfl)⟩) ⟨wPreX_blind, va_recv hK hP (ci := 0) (q0 := 0) rfl rfl, w_preX (hK.sub [0, 1] rfl) (hP.sub [0, 1, 2, 3, 4, 5, 6, 7, 8, 9, 10, 11] rfl) (hD.sub [0, 1, 2, 3, 4, 5, 6, 7, 8, 9, 10, 11] (by decide) rfl) (va_free hD hS hA [0, 1, 2, 3, 4, 5, 6, 7, 8, 9, 10, 11] rfl) hS hZ⟩ rfl rfl hl.1 rfl (lv_room (Nat.le_of_ble_eq_true rfl)) dL_halfHoursOn_4 ⟨(Nat.le_of_ble_eq_true rfl), (Nat.le_of_ble_eq_true rfl)⟩) hP hD hS hA [0, 1, 2, 3, 4, 5, 6, 7, 8, 9, 10, 11] [12] rfl rfl (by decide) (by decide) (fun E ce q9 H locs hbad hP hD hS hce hcv hcl => ?_) (fun r u H locs hw hP hD hS => ?_)
  · have hP := hP.sub (ws' := (Dk cI cZ h a F nq no np sh nw) ++ [(ao, .inl (cL, 1, .inr (.inl g)))]) [1, 2, 3, 4, 5, 6, 7, 8, 9, 10, 11, 12, 0] rfl
    have hD := hD.sub (ws' := (Dk cI cZ h a F nq no np sh nw) ++ [(ao, .inl (cL, 1, .inr (.inl g)))]) [1, 2, 3, 4, 5, 6, 7, 8, 9, 10, 11, 12, 0] (by decide) rfl
    obtain ⟨rfl, hk⟩ := hbad
    refine vx_catch (name := "java/lang/IndexOutOfBoundsException") hown [] ⟨0, 9, 12, 19⟩ [] htab (fun z h => nomatch h) (by decide) (by decide) (hts (.classLink RL 19 "java/lang/IndexOutOfBoundsException") (by decide +kernel)) (hZ.2.2.1 (.castable xI xI) (by decide +kernel) _) hce hcv hcl ?_
    refine lv_astore_n (lv' := [(3, .ref q9), (0, .ref h), (1, .int x), (2, .ref ao)]) hx hb dL_halfHoursOn_12 rfl hl (by decide) rfl (fun ls hl => ?_)
    refine lv_iconst (v := 1) hx hb dL_halfHoursOn_13 (by decide) ?_
    exact w_iret g hx hb hr hlocks hK hP hD hS (Nat.le_of_ble_eq_true rfl) (Nat.le_of_ble_eq_true rfl) dL_halfHoursOn_14 ⟨hk.symm, fun hh9 => by rw [hk] at hh9; exact absurd hh9 (by decide)⟩
  · obtain ⟨hk, hr9⟩ := (show k1 (p_in x no) = 0 ∧ r = nI (p_ct (p_hB F sh nw x.toNatClampNeg) 48) from hw)
    subst r
    have hP := hP.sub (ws' := (Dk cI cZ h a F nq no np sh nw) ++ [(ao, .inl (cL, 1, .inr (.inl g)))]) [1, 2, 3, 4, 5, 6, 7, 8, 9, 10, 11, 12, 0] rfl
    have hD := hD.sub (ws' := (Dk cI cZ h a F nq no np sh nw) ++ [(ao, .inl (cL, 1, .inr (.inl g)))]) [1, 2, 3, 4, 5, 6, 7, 8, 9, 10, 11, 12, 0] (by decide) rfl
    refine lv_i2l (v := (nI (p_ct (p_hB F sh nw x.toNatClampNeg) 48)).toInt64) hx hb dL_halfHoursOn_7 rfl ?_
    refine va_last hx hb hK hP hD hS 12 2 rfl rfl (f := g) (x := (nI (p_ct (p_hB F sh nw x.toNatClampNeg) 48)).toInt64) (show vp_in 0 1 from vp_in_nI (n := 0) (by omega) (by omega)) dL_halfHoursOn_8 (fun H locs hP hD hS => ?_)
    rw [sb_cl0] at hP hD
    have hP : va_P G vwCl ((Dk cI cZ h a F nq no np sh nw) ++ [(ao, .inl (cL, 1, .inr (.inl (vp_updL g 0 ((nI (p_ct (p_hB F sh nw x.toNatClampNeg) 48)).toInt64)))))]) H := hP
    have hD : va_D A ((Dk cI cZ h a F nq no np sh nw) ++ [(ao, .inl (cL, 1, .inr (.inl (vp_updL g 0 ((nI (p_ct (p_hB F sh nw x.toNatClampNeg) 48)).toInt64)))))]) := hD
    refine lv_goto (tgt := 15) hx hb dL_halfHoursOn_9 (by decide) ?_
    refine lv_iconst (v := 0) hx hb dL_halfHoursOn_15 (by decide) ?_
    exact w_iret (vp_updL g 0 ((nI (p_ct (p_hB F sh nw x.toNatClampNeg) 48)).toInt64)) hx hb hr hlocks hK hP hD hS (Nat.le_of_ble_eq_true rfl) (Nat.le_of_ble_eq_true rfl) dL_halfHoursOn_16 ⟨hk.symm, fun _ => pk_uLs⟩
