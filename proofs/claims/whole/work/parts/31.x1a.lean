set_option maxHeartbeats 4000000 in
set_option maxRecDepth 100000 in
theorem c_X1_fail (l : Launch) (G : va_G) (cI cZ : ClassId) (h : Nat) (a : Nat → Nat) (F : Nat → Nat → Int32) (nq no np : Nat) (sh nw : Int32) (th : Int32) (wt : Nat → Int32) (sz : Nat) (k : Int32) : Met l yX1_fail wsX1_fail ({ frames := 0, cells := 0, slots := 0, locals := 0 } : Room) (va_Pc [.ref h, .int k] (wPre G (ty2 cI cZ) (Mk cI cZ h a F nq no np sh nw th wt) sz)) (va_Qi (fun (r : Int32) (_ : Unit) => r = 0) (fun _ => wP G (ty2 cI cZ) (Mk cI cZ h a F nq no np sh nw k wt) (va_A (Mk cI cZ h a F nq no np sh nw th wt) sz)) (va_A (Mk cI cZ h a F nq no np sh nw th wt) sz)) 0 0 (va_A (Mk cI cZ h a F nq no np sh nw th wt) sz) := by
  refine w_met (cc := cX1_fail) (maxL := 2) (ret := (some .int)) (by decide) rfl (Nat.le_of_ble_eq_true rfl) ?_
  intro pg e s m below meth cd hx hb hml hr hts hown hlocks hnm hK hsz hP hD hA hS ls hl
  have hown : s.vm.findClass RX1 = some m.cls := hown
  have hin : ∀ w ∈ wsX10, w ∈ wsX1_fail := by decide +kernel
  have hl : lv_has ls 2 [(0, .ref h), (1, .int k)] := hl
  generalize hAe : va_A (Mk cI cZ h a F nq no np sh nw th wt) sz = A at hD hA hS ⊢
  refine lv_aload_n hx hb dX1_fail_0 rfl (lv_at hl 0 rfl) ?_
  refine lv_iload_n hx hb dX1_fail_1 rfl (lv_at hl 1 rfl) ?_
  refine va_put (ci := 1) (v := .int k) (ty := .int) (C := RX1) (T := TX1) (N := 18) hx hb hts hin tyX1 tyX1_ok nmX1 hown hK hP hD hS 0 rfl rfl 0 (by decide) (hts (.fieldLink RX1 47 "CurfewDeskModel" "thrown" "I") (by decide +kernel)) (fun _ h9 => h9) rfl (by decide +kernel) rfl rfl (Nat.le_of_ble_eq_true rfl) dX1_fail_2 (fun H locs hP hD hS => ?_)
  have hP : va_P G vwCl (Mk cI cZ h a F nq no np sh nw k wt) H := hP
  have hD : va_D A (Mk cI cZ h a F nq no np sh nw k wt) := hD
  refine lv_iconst (v := 0) hx hb dX1_fail_5 (by decide) ?_
  exact w_iret () hx hb hr hlocks hK hP hD hS (Nat.le_of_ble_eq_true rfl) (Nat.le_of_ble_eq_true rfl) dX1_fail_6 (show 0 = 0 from by rfl)
set_option maxHeartbeats 4000000 in
set_option maxRecDepth 100000 in
theorem c_X1_failed (l : Launch) (G : va_G) (cI cZ : ClassId) (h : Nat) (a : Nat → Nat) (F : Nat → Nat → Int32) (nq no np : Nat) (sh nw : Int32) (th : Int32) (wt : Nat → Int32) (sz : Nat) (k : Int32) : Met l yX1_failed wsX1_failed ({ frames := 0, cells := 0, slots := 0, locals := 0 } : Room) (va_Pc [.ref h, .int k] (wPre G (ty2 cI cZ) (Mk cI cZ h a F nq no np sh nw th wt) sz)) (va_Qi (fun (r : Int32) (_ : Unit) => r = 0) (fun _ => wP G (ty2 cI cZ) (Mk cI cZ h a F nq no np sh nw k wt) (va_A (Mk cI cZ h a F nq no np sh nw th wt) sz)) (va_A (Mk cI cZ h a F nq no np sh nw th wt) sz)) 0 0 (va_A (Mk cI cZ h a F nq no np sh nw th wt) sz) := by
  refine w_met (cc := cX1_failed) (maxL := 2) (ret := (some .boolean)) (by decide) rfl (Nat.le_of_ble_eq_true rfl) ?_
  intro pg e s m below meth cd hx hb hml hr hts hown hlocks hnm hK hsz hP hD hA hS ls hl
  have hown : s.vm.findClass RX1 = some m.cls := hown
  have hin : ∀ w ∈ wsX10, w ∈ wsX1_failed := by decide +kernel
  have hl : lv_has ls 2 [(0, .ref h), (1, .int k)] := hl
  generalize hAe : va_A (Mk cI cZ h a F nq no np sh nw th wt) sz = A at hD hA hS ⊢
  refine lv_aload_n hx hb dX1_failed_0 rfl (lv_at hl 0 rfl) ?_
  refine lv_iload_n hx hb dX1_failed_1 rfl (lv_at hl 1 rfl) ?_
  refine va_put (ci := 1) (v := .int k) (ty := .int) (C := RX1) (T := TX1) (N := 18) hx hb hts hin tyX1 tyX1_ok nmX1 hown hK hP hD hS 0 rfl rfl 0 (by decide) (hts (.fieldLink RX1 47 "CurfewDeskModel" "thrown" "I") (by decide +kernel)) (fun _ h9 => h9) rfl (by decide +kernel) rfl rfl (Nat.le_of_ble_eq_true rfl) dX1_failed_2 (fun H locs hP hD hS => ?_)
  have hP : va_P G vwCl (Mk cI cZ h a F nq no np sh nw k wt) H := hP
  have hD : va_D A (Mk cI cZ h a F nq no np sh nw k wt) := hD
  refine lv_iconst (v := 0) hx hb dX1_failed_5 (by decide) ?_
  exact w_zret () hx hb hr hlocks hK hP hD hS (Nat.le_of_ble_eq_true rfl) (Nat.le_of_ble_eq_true rfl) dX1_failed_6 rfl (show 0 = 0 from by rfl)
set_option maxHeartbeats 4000000 in
set_option maxRecDepth 100000 in
theorem c_X1_thrown (l : Launch) (G : va_G) (cI cZ : ClassId) (h : Nat) (a : Nat → Nat) (F : Nat → Nat → Int32) (nq no np : Nat) (sh nw : Int32) (th : Int32) (wt : Nat → Int32) (sz : Nat) : Met l yX1_thrown wsX1_thrown ({ frames := 0, cells := 0, slots := 0, locals := 0 } : Room) (va_Pc [.ref h] (wPre G (ty2 cI cZ) (Mk cI cZ h a F nq no np sh nw th wt) sz)) (va_Qi (fun (r : Int32) (_ : Unit) => r = th) (fun _ => wP G (ty2 cI cZ) (Mk cI cZ h a F nq no np sh nw th wt) (va_A (Mk cI cZ h a F nq no np sh nw th wt) sz)) (va_A (Mk cI cZ h a F nq no np sh nw th wt) sz)) 0 0 (va_A (Mk cI cZ h a F nq no np sh nw th wt) sz) := by
  refine w_met (cc := cX1_thrown) (maxL := 1) (ret := (some .int)) (by decide) rfl (Nat.le_of_ble_eq_true rfl) ?_
  intro pg e s m below meth cd hx hb hml hr hts hown hlocks hnm hK hsz hP hD hA hS ls hl
  have hown : s.vm.findClass RX1 = some m.cls := hown
  have hin : ∀ w ∈ wsX10, w ∈ wsX1_thrown := by decide +kernel
  have hl : lv_has ls 1 [(0, .ref h)] := hl
  generalize hAe : va_A (Mk cI cZ h a F nq no np sh nw th wt) sz = A at hD hA hS ⊢
  refine lv_aload_n hx hb dX1_thrown_0 rfl (lv_at hl 0 rfl) ?_
  refine va_get (ci := 1) (v := .int th) (C := RX1) (T := TX1) (N := 18) hx hb hts hin hown hK hP 0 rfl rfl 0 (by decide) (hts (.fieldLink RX1 47 "CurfewDeskModel" "thrown" "I") (by decide +kernel)) (fun _ h9 => h9) rfl dX1_thrown_1 ?_
  exact w_iret () hx hb hr hlocks hK hP hD hS (Nat.le_of_ble_eq_true rfl) (Nat.le_of_ble_eq_true rfl) dX1_thrown_4 (show th = th from by rfl)
set_option maxHeartbeats 4000000 in
set_option maxRecDepth 100000 in
theorem c_X1_isIn (l : Launch) (G : va_G) (sz : Nat) (x : Int32) (a9 : Int32) (b9 : Int32) : Met l yX1_isIn wsX1_isIn ({ frames := 0, cells := 0, slots := 0, locals := 0 } : Room) (va_Pc [.int x, .int a9, .int b9] (wPre G [] [] sz)) (va_Qi (fun (r : Int32) (_ : Unit) => r = b2i (p_wi x a9 b9)) (fun _ => wP G [] [] (va_A [] sz)) (va_A [] sz)) 0 0 (va_A [] sz) := by
  refine w_met (cc := cX1_isIn) (maxL := 3) (ret := (some .boolean)) (by decide) rfl (Nat.le_of_ble_eq_true rfl) ?_
  intro pg e s m below meth cd hx hb hml hr hts hown hlocks hnm hK hsz hP hD hA hS ls hl
  have hown : s.vm.findClass RX1 = some m.cls := hown
  have hl : lv_has ls 3 [(0, .int x), (1, .int a9), (2, .int b9)] := hl
  generalize hAe : va_A [] sz = A at hD hA hS ⊢
  refine lv_iload_n hx hb dX1_isIn_0 rfl (lv_at hl 0 rfl) ?_
  refine lv_iload_n hx hb dX1_isIn_1 rfl (lv_at hl 1 rfl) ?_
  refine lv_icmp_lt (tgt := 14) hx hb dX1_isIn_2 (by decide) (fun c2 => ?_) (fun c2 => ?_)
  · refine lv_iconst (v := 0) hx hb dX1_isIn_14 (by decide) ?_
    exact w_zret () hx hb hr hlocks hK hP hD hS (Nat.le_of_ble_eq_true rfl) (Nat.le_of_ble_eq_true rfl) dX1_isIn_15 rfl (show 0 = b2i (p_wi x a9 b9) from by first | (rw [pwi_lt c2]; rfl) | (rw [pwi_gt2 c7]; rfl) | (rw [pwi_ok2 c2 c7]; rfl))
  · refine lv_iload_n hx hb dX1_isIn_5 rfl (lv_at hl 0 rfl) ?_
    refine lv_iload_n hx hb dX1_isIn_6 rfl (lv_at hl 2 rfl) ?_
    refine lv_icmp_gt (tgt := 14) hx hb dX1_isIn_7 (by decide) (fun c7 => ?_) (fun c7 => ?_)
    · refine lv_iconst (v := 0) hx hb dX1_isIn_14 (by decide) ?_
      exact w_zret () hx hb hr hlocks hK hP hD hS (Nat.le_of_ble_eq_true rfl) (Nat.le_of_ble_eq_true rfl) dX1_isIn_15 rfl (show 0 = b2i (p_wi x a9 b9) from by first | (rw [pwi_lt c2]; rfl) | (rw [pwi_gt2 c7]; rfl) | (rw [pwi_ok2 c2 c7]; rfl))
    · refine lv_iconst (v := 1) hx hb dX1_isIn_10 (by decide) ?_
      refine lv_goto (tgt := 15) hx hb dX1_isIn_11 (by decide) ?_
      exact w_zret () hx hb hr hlocks hK hP hD hS (Nat.le_of_ble_eq_true rfl) (Nat.le_of_ble_eq_true rfl) dX1_isIn_15 rfl (show 1 = b2i (p_wi x a9 b9) from by first | (rw [pwi_lt c2]; rfl) | (rw [pwi_gt2 c7]; rfl) | (rw [pwi_ok2 c2 c7]; rfl))
set_option maxHeartbeats 4000000 in
set_option maxRecDepth 100000 in
theorem c_X1_isQuarter (l : Launch) (G : va_G) (cI cZ : ClassId) (h : Nat) (a : Nat → Nat) (F : Nat → Nat → Int32) (nq no np : Nat) (sh nw : Int32) (th : Int32) (wt : Nat → Int32) (sz : Nat) (x : Int32) (hnq : nq ≤ 6) : Met l yX1_isQuarter wsX1_isQuarter ({ frames := 1, cells := 0, slots := 0, locals := 22 } : Room) (va_Pc [.ref h, .int x] (wPre G (ty2 cI cZ) (Mk cI cZ h a F nq no np sh nw th wt) sz)) (va_Qi (fun (r : Int32) (_ : Unit) => r = b2i (p_in x nq)) (fun _ => wP G (ty2 cI cZ) (Mk cI cZ h a F nq no np sh nw th wt) (va_A (Mk cI cZ h a F nq no np sh nw th wt) sz)) (va_A (Mk cI cZ h a F nq no np sh nw th wt) sz)) 0 0 (va_A (Mk cI cZ h a F nq no np sh nw th wt) sz) := by
  refine w_met (cc := cX1_isQuarter) (maxL := 2) (ret := (some .boolean)) (by decide) rfl (Nat.le_of_ble_eq_true rfl) ?_
  intro pg e s m below meth cd hx hb hml hr hts hown hlocks hnm hK hsz hP hD hA hS ls hl
  have hown : s.vm.findClass RX1 = some m.cls := hown
  have hin : ∀ w ∈ wsX10, w ∈ wsX1_isQuarter := by decide +kernel
  have hl : lv_has ls 2 [(0, .ref h), (1, .int x)] := hl
  generalize hAe : va_A (Mk cI cZ h a F nq no np sh nw th wt) sz = A at hD hA hS ⊢
  refine lv_iload_n hx hb dX1_isQuarter_0 rfl (lv_at hl 1 rfl) ?_
  refine lv_iconst (v := 0) hx hb dX1_isQuarter_1 (by decide) ?_
  refine lv_aload_n hx hb dX1_isQuarter_2 rfl (lv_at hl 0 rfl) ?_
  refine va_get (ci := 1) (v := .int (nI nq)) (C := RX1) (T := TX1) (N := 18) hx hb hts hin hown hK hP 0 rfl rfl 3 (by decide) (hts (.fieldLink RX1 51 "CurfewDeskModel" "quarters" "I") (by decide +kernel)) (fun _ h9 => h9) rfl dX1_isQuarter_3 ?_
  refine lv_iconst (v := 1) hx hb dX1_isQuarter_6 (by decide) ?_
  refine lv_isub hx hb dX1_isQuarter_7 ?_
  refine w_st_i (va_runS (As := [.int x, .int 0, .int ((nI nq) - 1)]) (rest := []) ⟨hx, hb, hml, hown, hts⟩ (c_X1_isIn l G s.heap.size x 0 ((nI nq) - 1) ) (va_cwS 3 hts gX1_isQuarter_X1_isIn rfl rfl rfl (by decide +kernel) ⟨(Nat.le_of_ble_eq_true rfl), (Nat.le_of_ble_eq_true rfl)⟩) ⟨wPre_blind, w_pre (hK.sub [] rfl) w_P0 (w_D0 (A := A))⟩ rfl rfl hl.1 rfl (lv_room (Nat.le_of_ble_eq_true rfl)) dX1_isQuarter_8 ⟨(Nat.le_of_ble_eq_true rfl), (Nat.le_of_ble_eq_true rfl)⟩) hP hS hA (fun r8 u8 H locs hw8 hP hS => ?_)
  have hw8 : r8 = b2i (p_wi x 0 ((nI nq) - 1)) := hw8
  subst hw8
  exact w_zret () hx hb hr hlocks hK hP hD hS (Nat.le_of_ble_eq_true rfl) (Nat.le_of_ble_eq_true rfl) dX1_isQuarter_11 (b2i_n _) (show (b2i (p_wi x 0 ((nI nq) - 1))) = b2i (p_in x nq) from by rw [pwi_in _ (by omega)])
set_option maxHeartbeats 4000000 in
set_option maxRecDepth 100000 in
theorem c_X1_isOrder (l : Launch) (G : va_G) (cI cZ : ClassId) (h : Nat) (a : Nat → Nat) (F : Nat → Nat → Int32) (nq no np : Nat) (sh nw : Int32) (th : Int32) (wt : Nat → Int32) (sz : Nat) (x : Int32) (hno : no ≤ 10) : Met l yX1_isOrder wsX1_isOrder ({ frames := 1, cells := 0, slots := 0, locals := 22 } : Room) (va_Pc [.ref h, .int x] (wPre G (ty2 cI cZ) (Mk cI cZ h a F nq no np sh nw th wt) sz)) (va_Qi (fun (r : Int32) (_ : Unit) => r = b2i (p_in x no)) (fun _ => wP G (ty2 cI cZ) (Mk cI cZ h a F nq no np sh nw th wt) (va_A (Mk cI cZ h a F nq no np sh nw th wt) sz)) (va_A (Mk cI cZ h a F nq no np sh nw th wt) sz)) 0 0 (va_A (Mk cI cZ h a F nq no np sh nw th wt) sz) := by
  refine w_met (cc := cX1_isOrder) (maxL := 2) (ret := (some .boolean)) (by decide) rfl (Nat.le_of_ble_eq_true rfl) ?_
  intro pg e s m below meth cd hx hb hml hr hts hown hlocks hnm hK hsz hP hD hA hS ls hl
  have hown : s.vm.findClass RX1 = some m.cls := hown
  have hin : ∀ w ∈ wsX10, w ∈ wsX1_isOrder := by decide +kernel
  have hl : lv_has ls 2 [(0, .ref h), (1, .int x)] := hl
  generalize hAe : va_A (Mk cI cZ h a F nq no np sh nw th wt) sz = A at hD hA hS ⊢
  refine lv_iload_n hx hb dX1_isOrder_0 rfl (lv_at hl 1 rfl) ?_
  refine lv_iconst (v := 0) hx hb dX1_isOrder_1 (by decide) ?_
  refine lv_aload_n hx hb dX1_isOrder_2 rfl (lv_at hl 0 rfl) ?_
  refine va_get (ci := 1) (v := .int (nI no)) (C := RX1) (T := TX1) (N := 18) hx hb hts hin hown hK hP 0 rfl rfl 4 (by decide) (hts (.fieldLink RX1 58 "CurfewDeskModel" "orders" "I") (by decide +kernel)) (fun _ h9 => h9) rfl dX1_isOrder_3 ?_
  refine lv_iconst (v := 1) hx hb dX1_isOrder_6 (by decide) ?_
  refine lv_isub hx hb dX1_isOrder_7 ?_
  refine w_st_i (va_runS (As := [.int x, .int 0, .int ((nI no) - 1)]) (rest := []) ⟨hx, hb, hml, hown, hts⟩ (c_X1_isIn l G s.heap.size x 0 ((nI no) - 1) ) (va_cwS 3 hts gX1_isOrder_X1_isIn rfl rfl rfl (by decide +kernel) ⟨(Nat.le_of_ble_eq_true rfl), (Nat.le_of_ble_eq_true rfl)⟩) ⟨wPre_blind, w_pre (hK.sub [] rfl) w_P0 (w_D0 (A := A))⟩ rfl rfl hl.1 rfl (lv_room (Nat.le_of_ble_eq_true rfl)) dX1_isOrder_8 ⟨(Nat.le_of_ble_eq_true rfl), (Nat.le_of_ble_eq_true rfl)⟩) hP hS hA (fun r8 u8 H locs hw8 hP hS => ?_)
  have hw8 : r8 = b2i (p_wi x 0 ((nI no) - 1)) := hw8
  subst hw8
  exact w_zret () hx hb hr hlocks hK hP hD hS (Nat.le_of_ble_eq_true rfl) (Nat.le_of_ble_eq_true rfl) dX1_isOrder_11 (b2i_n _) (show (b2i (p_wi x 0 ((nI no) - 1))) = b2i (p_in x no) from by rw [pwi_in _ (by omega)])
set_option maxHeartbeats 4000000 in
set_option maxRecDepth 100000 in
theorem c_X1_isPerson (l : Launch) (G : va_G) (cI cZ : ClassId) (h : Nat) (a : Nat → Nat) (F : Nat → Nat → Int32) (nq no np : Nat) (sh nw : Int32) (th : Int32) (wt : Nat → Int32) (sz : Nat) (x : Int32) (hnp : np ≤ 20) : Met l yX1_isPerson wsX1_isPerson ({ frames := 1, cells := 0, slots := 0, locals := 22 } : Room) (va_Pc [.ref h, .int x] (wPre G (ty2 cI cZ) (Mk cI cZ h a F nq no np sh nw th wt) sz)) (va_Qi (fun (r : Int32) (_ : Unit) => r = b2i (p_in x np)) (fun _ => wP G (ty2 cI cZ) (Mk cI cZ h a F nq no np sh nw th wt) (va_A (Mk cI cZ h a F nq no np sh nw th wt) sz)) (va_A (Mk cI cZ h a F nq no np sh nw th wt) sz)) 0 0 (va_A (Mk cI cZ h a F nq no np sh nw th wt) sz) := by
  refine w_met (cc := cX1_isPerson) (maxL := 2) (ret := (some .boolean)) (by decide) rfl (Nat.le_of_ble_eq_true rfl) ?_
  intro pg e s m below meth cd hx hb hml hr hts hown hlocks hnm hK hsz hP hD hA hS ls hl
  have hown : s.vm.findClass RX1 = some m.cls := hown
  have hin : ∀ w ∈ wsX10, w ∈ wsX1_isPerson := by decide +kernel
  have hl : lv_has ls 2 [(0, .ref h), (1, .int x)] := hl
  generalize hAe : va_A (Mk cI cZ h a F nq no np sh nw th wt) sz = A at hD hA hS ⊢
  refine lv_iload_n hx hb dX1_isPerson_0 rfl (lv_at hl 1 rfl) ?_
  refine lv_iconst (v := 0) hx hb dX1_isPerson_1 (by decide) ?_
  refine lv_aload_n hx hb dX1_isPerson_2 rfl (lv_at hl 0 rfl) ?_
  refine va_get (ci := 1) (v := .int (nI np)) (C := RX1) (T := TX1) (N := 18) hx hb hts hin hown hK hP 0 rfl rfl 5 (by decide) (hts (.fieldLink RX1 61 "CurfewDeskModel" "people" "I") (by decide +kernel)) (fun _ h9 => h9) rfl dX1_isPerson_3 ?_
  refine lv_iconst (v := 1) hx hb dX1_isPerson_6 (by decide) ?_
  refine lv_isub hx hb dX1_isPerson_7 ?_
  refine w_st_i (va_runS (As := [.int x, .int 0, .int ((nI np) - 1)]) (rest := []) ⟨hx, hb, hml, hown, hts⟩ (c_X1_isIn l G s.heap.size x 0 ((nI np) - 1) ) (va_cwS 3 hts gX1_isPerson_X1_isIn rfl rfl rfl (by decide +kernel) ⟨(Nat.le_of_ble_eq_true rfl), (Nat.le_of_ble_eq_true rfl)⟩) ⟨wPre_blind, w_pre (hK.sub [] rfl) w_P0 (w_D0 (A := A))⟩ rfl rfl hl.1 rfl (lv_room (Nat.le_of_ble_eq_true rfl)) dX1_isPerson_8 ⟨(Nat.le_of_ble_eq_true rfl), (Nat.le_of_ble_eq_true rfl)⟩) hP hS hA (fun r8 u8 H locs hw8 hP hS => ?_)
  have hw8 : r8 = b2i (p_wi x 0 ((nI np) - 1)) := hw8
  subst hw8
  exact w_zret () hx hb hr hlocks hK hP hD hS (Nat.le_of_ble_eq_true rfl) (Nat.le_of_ble_eq_true rfl) dX1_isPerson_11 (b2i_n _) (show (b2i (p_wi x 0 ((nI np) - 1))) = b2i (p_in x np) from by rw [pwi_in _ (by omega)])
set_option maxHeartbeats 4000000 in
set_option maxRecDepth 100000 in
theorem c_X1_isTrade (l : Launch) (G : va_G) (sz : Nat) (x : Int32) : Met l yX1_isTrade wsX1_isTrade ({ frames := 1, cells := 0, slots := 0, locals := 22 } : Room) (va_Pc [.int x] (wPre G [] [] sz)) (va_Qi (fun (r : Int32) (_ : Unit) => r = b2i (p_in x 8)) (fun _ => wP G [] [] (va_A [] sz)) (va_A [] sz)) 0 0 (va_A [] sz) := by
  refine w_met (cc := cX1_isTrade) (maxL := 1) (ret := (some .boolean)) (by decide) rfl (Nat.le_of_ble_eq_true rfl) ?_
  intro pg e s m below meth cd hx hb hml hr hts hown hlocks hnm hK hsz hP hD hA hS ls hl
  have hown : s.vm.findClass RX1 = some m.cls := hown
  have hl : lv_has ls 1 [(0, .int x)] := hl
  generalize hAe : va_A [] sz = A at hD hA hS ⊢
  refine lv_iload_n hx hb dX1_isTrade_0 rfl (lv_at hl 0 rfl) ?_
  refine lv_iconst (v := 0) hx hb dX1_isTrade_1 (by decide) ?_
  refine lv_bipush (v := 7) hx hb dX1_isTrade_2 (by decide) ?_
  refine w_st_i (va_runS (As := [.int x, .int 0, .int 7]) (rest := []) ⟨hx, hb, hml, hown, hts⟩ (c_X1_isIn l G s.heap.size x 0 7 ) (va_cwS 3 hts gX1_isTrade_X1_isIn rfl rfl rfl (by decide +kernel) ⟨(Nat.le_of_ble_eq_true rfl), (Nat.le_of_ble_eq_true rfl)⟩) ⟨wPre_blind, w_pre (hK.sub [] rfl) w_P0 (w_D0 (A := A))⟩ rfl rfl hl.1 rfl (lv_room (Nat.le_of_ble_eq_true rfl)) dX1_isTrade_4 ⟨(Nat.le_of_ble_eq_true rfl), (Nat.le_of_ble_eq_true rfl)⟩) hP hS hA (fun r4 u4 H locs hw4 hP hS => ?_)
  have hw4 : r4 = b2i (p_wi x 0 7) := hw4
  subst hw4
  exact w_zret () hx hb hr hlocks hK hP hD hS (Nat.le_of_ble_eq_true rfl) (Nat.le_of_ble_eq_true rfl) dX1_isTrade_7 (b2i_n _) (show (b2i (p_wi x 0 7)) = b2i (p_in x 8) from by rw [show (7 : Int32) = nI 7 from rfl, pwi_lit _ (by decide)])
set_option maxHeartbeats 4000000 in
set_option maxRecDepth 100000 in
theorem c_X1_isColour (l : Launch) (G : va_G) (sz : Nat) (x : Int32) : Met l yX1_isColour wsX1_isColour ({ frames := 1, cells := 0, slots := 0, locals := 22 } : Room) (va_Pc [.int x] (wPre G [] [] sz)) (va_Qi (fun (r : Int32) (_ : Unit) => r = b2i (p_in x 4)) (fun _ => wP G [] [] (va_A [] sz)) (va_A [] sz)) 0 0 (va_A [] sz) := by
  refine w_met (cc := cX1_isColour) (maxL := 1) (ret := (some .boolean)) (by decide) rfl (Nat.le_of_ble_eq_true rfl) ?_
  intro pg e s m below meth cd hx hb hml hr hts hown hlocks hnm hK hsz hP hD hA hS ls hl
  have hown : s.vm.findClass RX1 = some m.cls := hown
  have hl : lv_has ls 1 [(0, .int x)] := hl
  generalize hAe : va_A [] sz = A at hD hA hS ⊢
  refine lv_iload_n hx hb dX1_isColour_0 rfl (lv_at hl 0 rfl) ?_
  refine lv_iconst (v := 0) hx hb dX1_isColour_1 (by decide) ?_
  refine lv_iconst (v := 3) hx hb dX1_isColour_2 (by decide) ?_
  refine w_st_i (va_runS (As := [.int x, .int 0, .int 3]) (rest := []) ⟨hx, hb, hml, hown, hts⟩ (c_X1_isIn l G s.heap.size x 0 3 ) (va_cwS 3 hts gX1_isColour_X1_isIn rfl rfl rfl (by decide +kernel) ⟨(Nat.le_of_ble_eq_true rfl), (Nat.le_of_ble_eq_true rfl)⟩) ⟨wPre_blind, w_pre (hK.sub [] rfl) w_P0 (w_D0 (A := A))⟩ rfl rfl hl.1 rfl (lv_room (Nat.le_of_ble_eq_true rfl)) dX1_isColour_3 ⟨(Nat.le_of_ble_eq_true rfl), (Nat.le_of_ble_eq_true rfl)⟩) hP hS hA (fun r3 u3 H locs hw3 hP hS => ?_)
  have hw3 : r3 = b2i (p_wi x 0 3) := hw3
  subst hw3
  exact w_zret () hx hb hr hlocks hK hP hD hS (Nat.le_of_ble_eq_true rfl) (Nat.le_of_ble_eq_true rfl) dX1_isColour_6 (b2i_n _) (show (b2i (p_wi x 0 3)) = b2i (p_in x 4) from by rw [show (3 : Int32) = nI 3 from rfl, pwi_lit _ (by decide)])
set_option maxHeartbeats 4000000 in
set_option maxRecDepth 100000 in
theorem c_X1_tide (l : Launch) (G : va_G) (sz : Nat) (d : Int32) : Met l yX1_tide wsX1_tide ({ frames := 0, cells := 0, slots := 0, locals := 0 } : Room) (va_Pc [.int d] (wPre G [] [] sz)) (va_Qi (fun (r : Int32) (_ : Unit) => r = p_tide d) (fun _ => wP G [] [] (va_A [] sz)) (va_A [] sz)) 0 0 (va_A [] sz) := by
  refine w_met (cc := cX1_tide) (maxL := 2) (ret := (some .int)) (by decide) rfl (Nat.le_of_ble_eq_true rfl) ?_
  intro pg e s m below meth cd hx hb hml hr hts hown hlocks hnm hK hsz hP hD hA hS ls hl
  have hown : s.vm.findClass RX1 = some m.cls := hown
  have hl : lv_has ls 2 [(0, .int d)] := hl
  generalize hAe : va_A [] sz = A at hD hA hS ⊢
  refine lv_iload_n hx hb dX1_tide_0 rfl (lv_at hl 0 rfl) ?_
  refine lv_bipush (v := 40) hx hb dX1_tide_1 (by decide) ?_
  refine lv_irem hx hb dX1_tide_3 (by decide) ?_
  refine lv_istore_n (lv' := [(1, .int (d - d / 40 * 40)), (0, .int d)]) hx hb dX1_tide_4 rfl hl (by decide) rfl (fun ls hl => ?_)
  refine lv_iload_n hx hb dX1_tide_5 rfl (lv_at hl 0 rfl) ?_
  refine lv_bipush (v := 20) hx hb dX1_tide_6 (by decide) ?_
  refine lv_icmp_ge (tgt := 15) hx hb dX1_tide_8 (by decide) (fun c8 => ?_) (fun c8 => ?_)
  · refine lv_bipush (v := 39) hx hb dX1_tide_15 (by decide) ?_
    refine lv_iload_n hx hb dX1_tide_17 rfl (lv_at hl 0 rfl) ?_
    refine lv_isub hx hb dX1_tide_18 ?_
    refine lv_iconst (v := 4) hx hb dX1_tide_19 (by decide) ?_
    refine lv_idiv hx hb dX1_tide_20 (by decide) ?_
    exact w_iret () hx hb hr hlocks hK hP hD hS (Nat.le_of_ble_eq_true rfl) (Nat.le_of_ble_eq_true rfl) dX1_tide_21 (show ((39 - (d - d / 40 * 40)) / 4) = p_tide d from by first | rw [p_tide, if_pos c8] | rw [p_tide, if_neg c8])
  · refine lv_iload_n hx hb dX1_tide_11 rfl (lv_at hl 0 rfl) ?_
    refine lv_goto (tgt := 19) hx hb dX1_tide_12 (by decide) ?_
    refine lv_iconst (v := 4) hx hb dX1_tide_19 (by decide) ?_
    refine lv_idiv hx hb dX1_tide_20 (by decide) ?_
    exact w_iret () hx hb hr hlocks hK hP hD hS (Nat.le_of_ble_eq_true rfl) (Nat.le_of_ble_eq_true rfl) dX1_tide_21 (show ((d - d / 40 * 40) / 4) = p_tide d from by first | rw [p_tide, if_pos c8] | rw [p_tide, if_neg c8])
set_option maxHeartbeats 4000000 in
set_option maxRecDepth 100000 in
theorem c_X1_dusk (l : Launch) (G : va_G) (cI cZ : ClassId) (h : Nat) (a : Nat → Nat) (F : Nat → Nat → Int32) (nq no np : Nat) (sh nw : Int32) (th : Int32) (wt : Nat → Int32) (sz : Nat) (d : Int32) : Met l yX1_dusk wsX1_dusk ({ frames := 1, cells := 0, slots := 0, locals := 21 } : Room) (va_Pc [.ref h, .int d] (wPre G (ty2 cI cZ) (Mk cI cZ h a F nq no np sh nw th wt) sz)) (va_Qi (fun (r : Int32) (_ : Unit) => r = p_dusk d sh) (fun _ => wP G (ty2 cI cZ) (Mk cI cZ h a F nq no np sh nw th wt) (va_A (Mk cI cZ h a F nq no np sh nw th wt) sz)) (va_A (Mk cI cZ h a F nq no np sh nw th wt) sz)) 0 0 (va_A (Mk cI cZ h a F nq no np sh nw th wt) sz) := by
  refine w_met (cc := cX1_dusk) (maxL := 2) (ret := (some .int)) (by decide) rfl (Nat.le_of_ble_eq_true rfl) ?_
  intro pg e s m below meth cd hx hb hml hr hts hown hlocks hnm hK hsz hP hD hA hS ls hl
  have hown : s.vm.findClass RX1 = some m.cls := hown
  have hin : ∀ w ∈ wsX10, w ∈ wsX1_dusk := by decide +kernel
  have hl : lv_has ls 2 [(0, .ref h), (1, .int d)] := hl
  generalize hAe : va_A (Mk cI cZ h a F nq no np sh nw th wt) sz = A at hD hA hS ⊢
  refine lv_bipush (v := 34) hx hb dX1_dusk_0 (by decide) ?_
  refine lv_iload_n hx hb dX1_dusk_2 rfl (lv_at hl 1 rfl) ?_
  refine w_st_i (va_runS (As := [.int d]) (rest := [.int 34]) ⟨hx, hb, hml, hown, hts⟩ (c_X1_tide l G s.heap.size d ) (va_cwS 1 hts gX1_dusk_X1_tide rfl rfl rfl (by decide +kernel) ⟨(Nat.le_of_ble_eq_true rfl), (Nat.le_of_ble_eq_true rfl)⟩) ⟨wPre_blind, w_pre (hK.sub [] rfl) w_P0 (w_D0 (A := A))⟩ rfl rfl hl.1 rfl (lv_room (Nat.le_of_ble_eq_true rfl)) dX1_dusk_3 ⟨(Nat.le_of_ble_eq_true rfl), (Nat.le_of_ble_eq_true rfl)⟩) hP hS hA (fun r3 u3 H locs hw3 hP hS => ?_)
  have hw3 : r3 = p_tide d := hw3
  subst hw3
  refine lv_iadd hx hb dX1_dusk_6 ?_
  refine lv_aload_n hx hb dX1_dusk_7 rfl (lv_at hl 0 rfl) ?_
  refine va_get (ci := 1) (v := .int sh) (C := RX1) (T := TX1) (N := 18) hx hb hts hin hown hK hP 0 rfl rfl 2 (by decide) (hts (.fieldLink RX1 68 "CurfewDeskModel" "shift" "I") (by decide +kernel)) (fun _ h9 => h9) rfl dX1_dusk_8 ?_
  refine lv_iadd hx hb dX1_dusk_11 ?_
  exact w_iret () hx hb hr hlocks hK hP hD hS (Nat.le_of_ble_eq_true rfl) (Nat.le_of_ble_eq_true rfl) dX1_dusk_12 (show ((34 + (p_tide d)) + sh) = p_dusk d sh from by rfl)
set_option maxHeartbeats 4000000 in
set_option maxRecDepth 100000 in
theorem c_X1_dawn (l : Launch) (G : va_G) (sz : Nat) (d : Int32) : Met l yX1_dawn wsX1_dawn ({ frames := 1, cells := 0, slots := 0, locals := 21 } : Room) (va_Pc [.int d] (wPre G [] [] sz)) (va_Qi (fun (r : Int32) (_ : Unit) => r = p_dawn d) (fun _ => wP G [] [] (va_A [] sz)) (va_A [] sz)) 0 0 (va_A [] sz) := by
  refine w_met (cc := cX1_dawn) (maxL := 1) (ret := (some .int)) (by decide) rfl (Nat.le_of_ble_eq_true rfl) ?_
  intro pg e s m below meth cd hx hb hml hr hts hown hlocks hnm hK hsz hP hD hA hS ls hl
  have hown : s.vm.findClass RX1 = some m.cls := hown
  have hl : lv_has ls 1 [(0, .int d)] := hl
  generalize hAe : va_A [] sz = A at hD hA hS ⊢
  refine lv_bipush (v := 14) hx hb dX1_dawn_0 (by decide) ?_
  refine lv_iload_n hx hb dX1_dawn_2 rfl (lv_at hl 0 rfl) ?_
  refine w_st_i (va_runS (As := [.int d]) (rest := [.int 14]) ⟨hx, hb, hml, hown, hts⟩ (c_X1_tide l G s.heap.size d ) (va_cwS 1 hts gX1_dawn_X1_tide rfl rfl rfl (by decide +kernel) ⟨(Nat.le_of_ble_eq_true rfl), (Nat.le_of_ble_eq_true rfl)⟩) ⟨wPre_blind, w_pre (hK.sub [] rfl) w_P0 (w_D0 (A := A))⟩ rfl rfl hl.1 rfl (lv_room (Nat.le_of_ble_eq_true rfl)) dX1_dawn_3 ⟨(Nat.le_of_ble_eq_true rfl), (Nat.le_of_ble_eq_true rfl)⟩) hP hS hA (fun r3 u3 H locs hw3 hP hS => ?_)
  have hw3 : r3 = p_tide d := hw3
  subst hw3
  refine lv_isub hx hb dX1_dawn_6 ?_
  exact w_iret () hx hb hr hlocks hK hP hD hS (Nat.le_of_ble_eq_true rfl) (Nat.le_of_ble_eq_true rfl) dX1_dawn_7 (show (14 - (p_tide d)) = p_dawn d from by rfl)
set_option maxHeartbeats 4000000 in
set_option maxRecDepth 100000 in
theorem c_X1_isAt (l : Launch) (G : va_G) (cI cZ : ClassId) (h : Nat) (a : Nat → Nat) (F : Nat → Nat → Int32) (nq no np : Nat) (sh nw : Int32) (th : Int32) (wt : Nat → Int32) (sz : Nat) (o : Nat) (t : Int32) (ho : o < 10) : Met l yX1_isAt wsX1_isAt ({ frames := 2, cells := 0, slots := 0, locals := 42 } : Room) (va_Pc [.ref h, .int (nI o), .int t] (wPre G (ty2 cI cZ) (Mk cI cZ h a F nq no np sh nw th wt) sz)) (va_Qi (fun (r : Int32) (_ : Unit) => r = b2i (p_at F sh o t)) (fun _ => wP G (ty2 cI cZ) (Mk cI cZ h a F nq no np sh nw th wt) (va_A (Mk cI cZ h a F nq no np sh nw th wt) sz)) (va_A (Mk cI cZ h a F nq no np sh nw th wt) sz)) 0 0 (va_A (Mk cI cZ h a F nq no np sh nw th wt) sz) := by
  refine w_met (cc := cX1_isAt) (maxL := 5) (ret := (some .boolean)) (by decide) rfl (Nat.le_of_ble_eq_true rfl) ?_
  intro pg e s m below meth cd hx hb hml hr hts hown hlocks hnm hK hsz hP hD hA hS ls hl
  have hown : s.vm.findClass RX1 = some m.cls := hown
  have hin : ∀ w ∈ wsX10, w ∈ wsX1_isAt := by decide +kernel
  have hl : lv_has ls 5 [(0, .ref h), (1, .int (nI o)), (2, .int t)] := hl
  generalize hAe : va_A (Mk cI cZ h a F nq no np sh nw th wt) sz = A at hD hA hS ⊢
  refine lv_iload_n hx hb dX1_isAt_0 rfl (lv_at hl 2 rfl) ?_
  refine lv_bipush (v := 48) hx hb dX1_isAt_1 (by decide) ?_
  refine lv_idiv hx hb dX1_isAt_3 (by decide) ?_
  refine lv_istore_n (lv' := [(3, .int (t / 48)), (0, .ref h), (1, .int (nI o)), (2, .int t)]) hx hb dX1_isAt_4 rfl hl (by decide) rfl (fun ls hl => ?_)
  refine lv_iload_n hx hb dX1_isAt_5 rfl (lv_at hl 3 rfl) ?_
  refine lv_bipush (v := 48) hx hb dX1_isAt_6 (by decide) ?_
  refine lv_irem hx hb dX1_isAt_8 (by decide) ?_
  refine lv_istore (lv' := [(4, .int (t - t / 48 * 48)), (3, .int (t / 48)), (0, .ref h), (1, .int (nI o)), (2, .int t)]) hx hb dX1_isAt_9 hl (by decide) rfl (fun ls hl => ?_)
  refine lv_iload hx hb dX1_isAt_11 (lv_at hl 0 rfl) ?_
  refine lv_aload_n hx hb dX1_isAt_13 rfl (lv_at hl 2 rfl) ?_
  refine lv_iload_n hx hb dX1_isAt_14 rfl (lv_at hl 1 rfl) ?_
  refine w_in_i (va_runV (As := [.int (t / 48)]) (rest := [.int (t - t / 48 * 48)]) ⟨hx, hb, hml, hown, hts⟩ (c_X1_dusk l G cI cZ h a F nq no np sh nw th wt s.heap.size (t / 48) ) (cwV 1 hts gX1_isAt_X1_dusk rfl rfl rfl (by decide +kernel) ⟨(Nat.le_of_ble_eq_true rfl), (Nat.le_of_ble_eq_true rfl)⟩) ⟨wPre_blind, va_recv hK hP (ci := 1) (q0 := 0) rfl rfl, w_pre hK hP hD⟩ rfl rfl hl.1 rfl (lv_room (Nat.le_of_ble_eq_true rfl)) dX1_isAt_15 ⟨(Nat.le_of_ble_eq_true rfl), (Nat.le_of_ble_eq_true rfl)⟩) hD hS hA (fun r15 u15 H locs hw15 hP hD hS => ?_)
  have hP : va_P G vwCl (Mk cI cZ h a F nq no np sh nw th wt) H := hP
  have hD : va_D A (Mk cI cZ h a F nq no np sh nw th wt) := hD
  have hw15 : r15 = p_dusk (t / 48) sh := hw15
  subst hw15
  refine lv_aload_n hx hb dX1_isAt_18 rfl (lv_at hl 2 rfl) ?_
  refine va_get (ci := 1) (v := .ref (a 1)) (C := RX1) (T := TX1) (N := 18) hx hb hts hin hown hK hP 0 rfl rfl 7 (by decide) (hts (.fieldLink RX1 13 "CurfewDeskModel" "ahead" "[I") (by decide +kernel)) (fun _ h9 => h9) rfl dX1_isAt_19 ?_
  refine lv_iload_n hx hb dX1_isAt_22 rfl (lv_at hl 3 rfl) ?_
  refine w_iald hx hb hK hP 2 0 rfl rfl (f := (F 1)) (j := o) (by omega) (by omega) dX1_isAt_23 ?_
  refine lv_isub hx hb dX1_isAt_24 ?_
  refine lv_icmp_ge (tgt := 44) hx hb dX1_isAt_25 (by decide) (fun c25 => ?_) (fun c25 => ?_)
  · refine lv_iconst (v := 1) hx hb dX1_isAt_44 (by decide) ?_
    refine lv_goto (tgt := 49) hx hb dX1_isAt_45 (by decide) ?_
    exact w_zret () hx hb hr hlocks hK hP hD hS (Nat.le_of_ble_eq_true rfl) (Nat.le_of_ble_eq_true rfl) dX1_isAt_49 rfl (show 1 = b2i (p_at F sh o t) from by simp only [p_at, decide_eq_true c25, Bool.not_true, Bool.not_false, Bool.true_or, Bool.false_or, Bool.or_true, Bool.or_false, Bool.true_and, Bool.false_and, Bool.and_true, Bool.and_false, b2i_T, b2i_F])
  · refine lv_iload hx hb dX1_isAt_28 (lv_at hl 0 rfl) ?_
    refine lv_iload_n hx hb dX1_isAt_30 rfl (lv_at hl 1 rfl) ?_
    refine w_st_i (va_runS (As := [.int (t / 48)]) (rest := [.int (t - t / 48 * 48)]) ⟨hx, hb, hml, hown, hts⟩ (c_X1_dawn l G H.size (t / 48) ) (va_cwS 1 hts gX1_isAt_X1_dawn rfl rfl rfl (by decide +kernel) ⟨(Nat.le_of_ble_eq_true rfl), (Nat.le_of_ble_eq_true rfl)⟩) ⟨wPre_blind, w_pre (hK.sub [] rfl) w_P0 (w_D0 (A := A))⟩ rfl rfl hl.1 rfl (lv_room (Nat.le_of_ble_eq_true rfl)) dX1_isAt_31 ⟨(Nat.le_of_ble_eq_true rfl), (Nat.le_of_ble_eq_true rfl)⟩) hP hS hA (fun r31 u31 H locs hw31 hP hS => ?_)
    have hw31 : r31 = p_dawn (t / 48) := hw31
    subst hw31
    refine lv_aload_n hx hb dX1_isAt_34 rfl (lv_at hl 2 rfl) ?_
    refine va_get (ci := 1) (v := .ref (a 2)) (C := RX1) (T := TX1) (N := 18) hx hb hts hin hown hK hP 0 rfl rfl 8 (by decide) (hts (.fieldLink RX1 16 "CurfewDeskModel" "behind" "[I") (by decide +kernel)) (fun _ h9 => h9) rfl dX1_isAt_35 ?_
    refine lv_iload_n hx hb dX1_isAt_38 rfl (lv_at hl 3 rfl) ?_
    refine w_iald hx hb hK hP 3 0 rfl rfl (f := (F 2)) (j := o) (by omega) (by omega) dX1_isAt_39 ?_
    refine lv_iadd hx hb dX1_isAt_40 ?_
    refine lv_icmp_ge (tgt := 48) hx hb dX1_isAt_41 (by decide) (fun c41 => ?_) (fun c41 => ?_)
    · refine lv_iconst (v := 0) hx hb dX1_isAt_48 (by decide) ?_
      exact w_zret () hx hb hr hlocks hK hP hD hS (Nat.le_of_ble_eq_true rfl) (Nat.le_of_ble_eq_true rfl) dX1_isAt_49 rfl (show 0 = b2i (p_at F sh o t) from by simp only [p_at, decide_eq_false c25, decide_eq_true c41, Bool.not_true, Bool.not_false, Bool.true_or, Bool.false_or, Bool.or_true, Bool.or_false, Bool.true_and, Bool.false_and, Bool.and_true, Bool.and_false, b2i_T, b2i_F])
    · refine lv_iconst (v := 1) hx hb dX1_isAt_44 (by decide) ?_
      refine lv_goto (tgt := 49) hx hb dX1_isAt_45 (by decide) ?_
      exact w_zret () hx hb hr hlocks hK hP hD hS (Nat.le_of_ble_eq_true rfl) (Nat.le_of_ble_eq_true rfl) dX1_isAt_49 rfl (show 1 = b2i (p_at F sh o t) from by simp only [p_at, decide_eq_false c25, decide_eq_false c41, Bool.not_true, Bool.not_false, Bool.true_or, Bool.false_or, Bool.or_true, Bool.or_false, Bool.true_and, Bool.false_and, Bool.and_true, Bool.and_false, b2i_T, b2i_F])
set_option maxHeartbeats 4000000 in
set_option maxRecDepth 100000 in
theorem c_X1_onAt (l : Launch) (G : va_G) (cI cZ : ClassId) (h : Nat) (a : Nat → Nat) (F : Nat → Nat → Int32) (nq no np : Nat) (sh nw : Int32) (th : Int32) (wt : Nat → Int32) (sz : Nat) (o : Nat) (t : Int32) (ho : o < 10) : Met l yX1_onAt wsX1_onAt ({ frames := 3, cells := 0, slots := 0, locals := 66 } : Room) (va_Pc [.ref h, .int (nI o), .int t] (wPre G (ty2 cI cZ) (Mk cI cZ h a F nq no np sh nw th wt) sz)) (va_Qi (fun (r : Int32) (_ : Unit) => r = b2i (p_on F sh o t)) (fun _ => wP G (ty2 cI cZ) (Mk cI cZ h a F nq no np sh nw th wt) (va_A (Mk cI cZ h a F nq no np sh nw th wt) sz)) (va_A (Mk cI cZ h a F nq no np sh nw th wt) sz)) 0 0 (va_A (Mk cI cZ h a F nq no np sh nw th wt) sz) := by
  refine w_met (cc := cX1_onAt) (maxL := 3) (ret := (some .boolean)) (by decide) rfl (Nat.le_of_ble_eq_true rfl) ?_
  intro pg e s m below meth cd hx hb hml hr hts hown hlocks hnm hK hsz hP hD hA hS ls hl
  have hown : s.vm.findClass RX1 = some m.cls := hown
  have hin : ∀ w ∈ wsX10, w ∈ wsX1_onAt := by decide +kernel
  have hl : lv_has ls 3 [(0, .ref h), (1, .int (nI o)), (2, .int t)] := hl
  generalize hAe : va_A (Mk cI cZ h a F nq no np sh nw th wt) sz = A at hD hA hS ⊢
  refine lv_aload_n hx hb dX1_onAt_0 rfl (lv_at hl 0 rfl) ?_
  refine va_get (ci := 1) (v := .ref (a 4)) (C := RX1) (T := TX1) (N := 18) hx hb hts hin hown hK hP 0 rfl rfl 11 (by decide) (hts (.fieldLink RX1 25 "CurfewDeskModel" "force" "[Z") (by decide +kernel)) (fun _ h9 => h9) rfl dX1_onAt_1 ?_
  refine lv_iload_n hx hb dX1_onAt_4 rfl (lv_at hl 1 rfl) ?_
  refine w_zald hx hb hK hP 5 1 rfl rfl (f := (F 4)) (j := o) (by omega) (by omega) dX1_onAt_5 ?_
  refine lv_if_eq (tgt := 22) hx hb dX1_onAt_6 (by decide) (fun c6 => ?_) (fun c6 => ?_)
  · refine lv_iconst (v := 0) hx hb dX1_onAt_22 (by decide) ?_
    exact w_zret () hx hb hr hlocks hK hP hD hS (Nat.le_of_ble_eq_true rfl) (Nat.le_of_ble_eq_true rfl) dX1_onAt_23 rfl (show 0 = b2i (p_on F sh o t) from by simp only [p_on, decide_eq_true c6, Bool.not_true, Bool.not_false, Bool.true_or, Bool.false_or, Bool.or_true, Bool.or_false, Bool.true_and, Bool.false_and, Bool.and_true, Bool.and_false, b2i_T, b2i_F])
  · refine lv_aload_n hx hb dX1_onAt_9 rfl (lv_at hl 0 rfl) ?_
    refine lv_iload_n hx hb dX1_onAt_10 rfl (lv_at hl 1 rfl) ?_
    refine lv_iload_n hx hb dX1_onAt_11 rfl (lv_at hl 2 rfl) ?_
    refine w_in_i (va_runV (As := [.int (nI o), .int t]) (rest := []) ⟨hx, hb, hml, hown, hts⟩ (c_X1_isAt l G cI cZ h a F nq no np sh nw th wt s.heap.size o t (by omega)) (cwV 2 hts gX1_onAt_X1_isAt rfl rfl rfl (by decide +kernel) ⟨(Nat.le_of_ble_eq_true rfl), (Nat.le_of_ble_eq_true rfl)⟩) ⟨wPre_blind, va_recv hK hP (ci := 1) (q0 := 0) rfl rfl, w_pre hK hP hD⟩ rfl rfl hl.1 rfl (lv_room (Nat.le_of_ble_eq_true rfl)) dX1_onAt_12 ⟨(Nat.le_of_ble_eq_true rfl), (Nat.le_of_ble_eq_true rfl)⟩) hD hS hA (fun r12 u12 H locs hw12 hP hD hS => ?_)
    have hP : va_P G vwCl (Mk cI cZ h a F nq no np sh nw th wt) H := hP
    have hD : va_D A (Mk cI cZ h a F nq no np sh nw th wt) := hD
    have hw12 : r12 = b2i (p_at F sh o t) := hw12
    subst hw12
    refine w_selE (v1 := 1) (v2 := 0) hx hb dX1_onAt_15 (by decide) dX1_onAt_18 (by decide) dX1_onAt_19 (by decide) dX1_onAt_22 (by decide) ?_
    rw [b2i_sel]
    exact w_zret () hx hb hr hlocks hK hP hD hS (Nat.le_of_ble_eq_true rfl) (Nat.le_of_ble_eq_true rfl) dX1_onAt_23 (b2i_n _) (show (b2i (p_at F sh o t)) = b2i (p_on F sh o t) from by simp only [p_on, decide_eq_false c6, Bool.not_true, Bool.not_false, Bool.true_or, Bool.false_or, Bool.or_true, Bool.or_false, Bool.true_and, Bool.false_and, Bool.and_true, Bool.and_false, b2i_T, b2i_F])
set_option maxHeartbeats 4000000 in
set_option maxRecDepth 100000 in
theorem c_X1_barsAt (l : Launch) (G : va_G) (cI cZ : ClassId) (h : Nat) (a : Nat → Nat) (F : Nat → Nat → Int32) (nq no np : Nat) (sh nw : Int32) (th : Int32) (wt : Nat → Int32) (sz : Nat) (o : Nat) (p : Nat) (q : Int32) (t : Int32) (ho : o < 10) (hp : p < 20) : Met l yX1_barsAt wsX1_barsAt ({ frames := 4, cells := 0, slots := 0, locals := 88 } : Room) (va_Pc [.ref h, .int (nI o), .int (nI p), .int q, .int t] (wPre G (ty2 cI cZ) (Mk cI cZ h a F nq no np sh nw th wt) sz)) (va_Qi (fun (r : Int32) (_ : Unit) => r = b2i (p_bars F sh o p q t)) (fun _ => wP G (ty2 cI cZ) (Mk cI cZ h a F nq no np sh nw th wt) (va_A (Mk cI cZ h a F nq no np sh nw th wt) sz)) (va_A (Mk cI cZ h a F nq no np sh nw th wt) sz)) 0 0 (va_A (Mk cI cZ h a F nq no np sh nw th wt) sz) := by
  refine w_met (cc := cX1_barsAt) (maxL := 5) (ret := (some .boolean)) (by decide) rfl (Nat.le_of_ble_eq_true rfl) ?_
  intro pg e s m below meth cd hx hb hml hr hts hown hlocks hnm hK hsz hP hD hA hS ls hl
  have hown : s.vm.findClass RX1 = some m.cls := hown
  have hin : ∀ w ∈ wsX10, w ∈ wsX1_barsAt := by decide +kernel
  have hl : lv_has ls 5 [(0, .ref h), (1, .int (nI o)), (2, .int (nI p)), (3, .int q), (4, .int t)] := hl
  generalize hAe : va_A (Mk cI cZ h a F nq no np sh nw th wt) sz = A at hD hA hS ⊢
  refine lv_aload_n hx hb dX1_barsAt_0 rfl (lv_at hl 0 rfl) ?_
  refine va_get (ci := 1) (v := .ref (a 0)) (C := RX1) (T := TX1) (N := 18) hx hb hts hin hown hK hP 0 rfl rfl 6 (by decide) (hts (.fieldLink RX1 9 "CurfewDeskModel" "quarter" "[I") (by decide +kernel)) (fun _ h9 => h9) rfl dX1_barsAt_1 ?_
  refine lv_iload_n hx hb dX1_barsAt_4 rfl (lv_at hl 1 rfl) ?_
  refine w_iald hx hb hK hP 1 0 rfl rfl (f := (F 0)) (j := o) (by omega) (by omega) dX1_barsAt_5 ?_
  refine lv_iload_n hx hb dX1_barsAt_6 rfl (lv_at hl 3 rfl) ?_
  refine lv_icmp_ne (tgt := 42) hx hb dX1_barsAt_7 (by decide) (fun c7 => ?_) (fun c7 => ?_)
  · refine lv_iconst (v := 0) hx hb dX1_barsAt_42 (by decide) ?_
    exact w_zret () hx hb hr hlocks hK hP hD hS (Nat.le_of_ble_eq_true rfl) (Nat.le_of_ble_eq_true rfl) dX1_barsAt_43 rfl (show 0 = b2i (p_bars F sh o p q t) from by simp only [p_bars, p_ex, p_on, decide_eq_false c7, Bool.not_true, Bool.not_false, Bool.true_or, Bool.false_or, Bool.or_true, Bool.or_false, Bool.true_and, Bool.false_and, Bool.and_true, Bool.and_false, b2i_T, b2i_F])
  · refine lv_aload_n hx hb dX1_barsAt_10 rfl (lv_at hl 0 rfl) ?_
    refine va_get (ci := 1) (v := .ref (a 5)) (C := RX1) (T := TX1) (N := 18) hx hb hts hin hown hK hP 0 rfl rfl 10 (by decide) (hts (.fieldLink RX1 22 "CurfewDeskModel" "exempt" "[I") (by decide +kernel)) (fun _ h9 => h9) rfl dX1_barsAt_11 ?_
    refine lv_iload_n hx hb dX1_barsAt_14 rfl (lv_at hl 1 rfl) ?_
    refine w_iald hx hb hK hP 6 0 rfl rfl (f := (F 5)) (j := o) (by omega) (by omega) dX1_barsAt_15 ?_
    refine lv_aload_n hx hb dX1_barsAt_16 rfl (lv_at hl 0 rfl) ?_
    refine va_get (ci := 1) (v := .ref (a 6)) (C := RX1) (T := TX1) (N := 18) hx hb hts hin hown hK hP 0 rfl rfl 12 (by decide) (hts (.fieldLink RX1 29 "CurfewDeskModel" "trade" "[I") (by decide +kernel)) (fun _ h9 => h9) rfl dX1_barsAt_17 ?_
    refine lv_iload_n hx hb dX1_barsAt_20 rfl (lv_at hl 2 rfl) ?_
    refine w_iald hx hb hK hP 7 0 rfl rfl (f := (F 6)) (j := p) (by omega) (by omega) dX1_barsAt_21 ?_
    refine lv_ishr hx hb dX1_barsAt_22 ?_
    refine lv_iconst (v := 1) hx hb dX1_barsAt_23 (by decide) ?_
    refine lv_iand hx hb dX1_barsAt_24 ?_
    refine lv_if_ne (tgt := 42) hx hb dX1_barsAt_25 (by decide) (fun c25 => ?_) (fun c25 => ?_)
    · refine lv_iconst (v := 0) hx hb dX1_barsAt_42 (by decide) ?_
      exact w_zret () hx hb hr hlocks hK hP hD hS (Nat.le_of_ble_eq_true rfl) (Nat.le_of_ble_eq_true rfl) dX1_barsAt_43 rfl (show 0 = b2i (p_bars F sh o p q t) from by simp only [p_bars, p_ex, p_on, decide_eq_true c7, decide_eq_false c25, Bool.not_true, Bool.not_false, Bool.true_or, Bool.false_or, Bool.or_true, Bool.or_false, Bool.true_and, Bool.false_and, Bool.and_true, Bool.and_false, b2i_T, b2i_F])
    · refine lv_aload_n hx hb dX1_barsAt_28 rfl (lv_at hl 0 rfl) ?_
      refine lv_iload_n hx hb dX1_barsAt_29 rfl (lv_at hl 1 rfl) ?_
      refine lv_iload hx hb dX1_barsAt_30 (lv_at hl 4 rfl) ?_
      refine w_in_i (va_runV (As := [.int (nI o), .int t]) (rest := []) ⟨hx, hb, hml, hown, hts⟩ (c_X1_onAt l G cI cZ h a F nq no np sh nw th wt s.heap.size o t (by omega)) (cwV 2 hts gX1_barsAt_X1_onAt rfl rfl rfl (by decide +kernel) ⟨(Nat.le_of_ble_eq_true rfl), (Nat.le_of_ble_eq_true rfl)⟩) ⟨wPre_blind, va_recv hK hP (ci := 1) (q0 := 0) rfl rfl, w_pre hK hP hD⟩ rfl rfl hl.1 rfl (lv_room (Nat.le_of_ble_eq_true rfl)) dX1_barsAt_32 ⟨(Nat.le_of_ble_eq_true rfl), (Nat.le_of_ble_eq_true rfl)⟩) hD hS hA (fun r32 u32 H locs hw32 hP hD hS => ?_)
      have hP : va_P G vwCl (Mk cI cZ h a F nq no np sh nw th wt) H := hP
      have hD : va_D A (Mk cI cZ h a F nq no np sh nw th wt) := hD
      have hw32 : r32 = b2i (p_on F sh o t) := hw32
      subst hw32
      refine w_selE (v1 := 1) (v2 := 0) hx hb dX1_barsAt_35 (by decide) dX1_barsAt_38 (by decide) dX1_barsAt_39 (by decide) dX1_barsAt_42 (by decide) ?_
      rw [b2i_sel]
      exact w_zret () hx hb hr hlocks hK hP hD hS (Nat.le_of_ble_eq_true rfl) (Nat.le_of_ble_eq_true rfl) dX1_barsAt_43 (b2i_n _) (show (b2i (p_on F sh o t)) = b2i (p_bars F sh o p q t) from by simp only [p_bars, p_ex, p_on, decide_eq_true c7, decide_eq_true c25, Bool.not_true, Bool.not_false, Bool.true_or, Bool.false_or, Bool.or_true, Bool.or_false, Bool.true_and, Bool.false_and, Bool.and_true, Bool.and_false, b2i_T, b2i_F])
set_option maxHeartbeats 4000000 in
set_option maxRecDepth 100000 in
theorem c_X1_against (l : Launch) (G : va_G) (cI cZ : ClassId) (h : Nat) (a : Nat → Nat) (F : Nat → Nat → Int32) (nq no np : Nat) (sh nw : Int32) (th : Int32) (wt : Nat → Int32) (sz : Nat) (p : Nat) (q : Int32) (t : Int32) (hp : p < 20) (hno : no ≤ 10) : Met l yX1_against wsX1_against ({ frames := 5, cells := 0, slots := 0, locals := 112 } : Room) (va_Pc [.ref h, .int (nI p), .int q, .int t] (wPre G (ty2 cI cZ) (Mk cI cZ h a F nq no np sh nw th wt) sz)) (va_Qi (fun (r : Int32) (_ : Unit) => r = nI (p_ag F sh no p q t)) (fun _ => wP G (ty2 cI cZ) (Mk cI cZ h a F nq no np sh nw th wt) (va_A (Mk cI cZ h a F nq no np sh nw th wt) sz)) (va_A (Mk cI cZ h a F nq no np sh nw th wt) sz)) 0 0 (va_A (Mk cI cZ h a F nq no np sh nw th wt) sz) := by
  refine w_met (cc := cX1_against) (maxL := 6) (ret := (some .int)) (by decide) rfl (Nat.le_of_ble_eq_true rfl) ?_
  intro pg e s m below meth cd hx hb hml hr hts hown hlocks hnm hK hsz hP hD hA hS ls hl
  have hown : s.vm.findClass RX1 = some m.cls := hown
  have hin : ∀ w ∈ wsX10, w ∈ wsX1_against := by decide +kernel
  have hl : lv_has ls 6 [(0, .ref h), (1, .int (nI p)), (2, .int q), (3, .int t)] := hl
  generalize hAe : va_A (Mk cI cZ h a F nq no np sh nw th wt) sz = A at hD hA hS ⊢
  refine lv_iconst (v := 0) hx hb dX1_against_0 (by decide) ?_
  refine lv_istore (lv' := [(4, .int 0), (0, .ref h), (1, .int (nI p)), (2, .int q), (3, .int t)]) hx hb dX1_against_1 hl (by decide) rfl (fun ls hl => ?_)
  refine lv_iconst (v := 0) hx hb dX1_against_3 (by decide) ?_
  refine lv_istore (lv' := [(5, .int 0), (4, .int 0), (0, .ref h), (1, .int (nI p)), (2, .int q), (3, .int t)]) hx hb dX1_against_4 hl (by decide) rfl (fun ls hl => ?_)
  have key6 : ∀ (n i6 : Nat), i6 ≤ no → no < i6 + n → ∀ (x4 : Int32) (x5 : Int32), x4 = nI (p_ct (fun o => p_bars F sh o p q t) i6) → x5 = nI i6 → ∀ (H : Heap) (locs : List Loc), va_P G vwCl (Mk cI cZ h a F nq no np sh nw th wt) H → va_D A (Mk cI cZ h a F nq no np sh nw th wt) → va_S A s.heap H locs → ∀ ls : Array Slot, lv_has ls 6 [(0, .ref h), (1, .int (nI p)), (2, .int q), (3, .int t), (4, .int x4), (5, .int x5)] → W pg l e ({ frames := 5, cells := 0, slots := 0, locals := 112 } : Room) s m ([.ref h, .int (nI p), .int q, .int t] : List Value).toArray below meth cd H locs (0) (0) (MQ below (va_Qi (fun (r : Int32) (_ : Unit) => r = nI (p_ag F sh no p q t)) (fun _ => wP G (ty2 cI cZ) (Mk cI cZ h a F nq no np sh nw th wt) A) A) ([.ref h, .int (nI p), .int q, .int t] : List Value).toArray s 0 0 A) (F0 m 6 ls []) := by
    intro n
    induction n with
    | zero => intro i6 h1 h2; exact absurd h2 (by omega)
    | succ n ih6 =>
      intro i6 hi_i6 hn_i6 x4 x5 e4 e5 H locs hP hD hS ls hl
      subst e4 e5
      refine lv_iload hx hb dX1_against_6 (lv_at hl 5 rfl) ?_
      refine lv_aload_n hx hb dX1_against_8 rfl (lv_at hl 0 rfl) ?_
      refine va_get (ci := 1) (v := .int (nI no)) (C := RX1) (T := TX1) (N := 18) hx hb hts hin hown hK hP 0 rfl rfl 4 (by decide) (hts (.fieldLink RX1 58 "CurfewDeskModel" "orders" "I") (by decide +kernel)) (fun _ h9 => h9) rfl dX1_against_9 ?_
      refine lv_icmp_ge (tgt := 43) hx hb dX1_against_12 (by decide) (fun c12 => ?_) (fun c12 => ?_)
      · have c12 := (nI_leI (a := no) (b := i6) (by omega) (by omega)).mp c12
        have ei : no = i6 := by omega
        subst ei
        refine lv_iload hx hb dX1_against_43 (lv_at hl 4 rfl) ?_
        exact w_iret () hx hb hr hlocks hK hP hD hS (Nat.le_of_ble_eq_true rfl) (Nat.le_of_ble_eq_true rfl) dX1_against_45 (show (nI (p_ct (fun o => p_bars F sh o p q t) no)) = nI (p_ag F sh no p q t) from by rfl)
      · have c12 := mt (nI_leI (a := no) (b := i6) (by omega) (by omega)).mpr c12
        have hlt_i6 : i6 < no := by omega
        refine lv_iload hx hb dX1_against_15 (lv_at hl 4 rfl) ?_
        refine lv_aload_n hx hb dX1_against_17 rfl (lv_at hl 0 rfl) ?_
        refine lv_iload hx hb dX1_against_18 (lv_at hl 5 rfl) ?_
        refine lv_iload_n hx hb dX1_against_20 rfl (lv_at hl 1 rfl) ?_
        refine lv_iload_n hx hb dX1_against_21 rfl (lv_at hl 2 rfl) ?_
        refine lv_iload_n hx hb dX1_against_22 rfl (lv_at hl 3 rfl) ?_
        refine w_in_i (va_runV (As := [.int (nI i6), .int (nI p), .int q, .int t]) (rest := [.int (nI (p_ct (fun o => p_bars F sh o p q t) i6))]) ⟨hx, hb, hml, hown, hts⟩ (c_X1_barsAt l G cI cZ h a F nq no np sh nw th wt H.size i6 p q t (by omega) (by omega)) (cwV 4 hts gX1_against_X1_barsAt rfl rfl rfl (by decide +kernel) ⟨(Nat.le_of_ble_eq_true rfl), (Nat.le_of_ble_eq_true rfl)⟩) ⟨wPre_blind, va_recv hK hP (ci := 1) (q0 := 0) rfl rfl, w_pre hK hP hD⟩ rfl rfl hl.1 rfl (lv_room (Nat.le_of_ble_eq_true rfl)) dX1_against_23 ⟨(Nat.le_of_ble_eq_true rfl), (Nat.le_of_ble_eq_true rfl)⟩) hD hS hA (fun r23 u23 H locs hw23 hP hD hS => ?_)
        have hP : va_P G vwCl (Mk cI cZ h a F nq no np sh nw th wt) H := hP
        have hD : va_D A (Mk cI cZ h a F nq no np sh nw th wt) := hD
        have hw23 : r23 = b2i (p_bars F sh i6 p q t) := hw23
        subst hw23
        refine w_selE (v1 := 1) (v2 := 0) hx hb dX1_against_26 (by decide) dX1_against_29 (by decide) dX1_against_30 (by decide) dX1_against_33 (by decide) ?_
        rw [b2i_sel]
        refine lv_iadd hx hb dX1_against_34 ?_
        refine lv_istore (lv' := [(4, .int ((nI (p_ct (fun o => p_bars F sh o p q t) i6)) + (b2i (p_bars F sh i6 p q t)))), (0, .ref h), (1, .int (nI p)), (2, .int q), (3, .int t), (5, .int (nI i6))]) hx hb dX1_against_35 hl (by decide) rfl (fun ls hl => ?_)
        refine lv_iinc (v := nI i6 + 1) (lv' := [(5, .int (nI i6 + 1)), (4, .int ((nI (p_ct (fun o => p_bars F sh o p q t) i6)) + (b2i (p_bars F sh i6 p q t)))), (0, .ref h), (1, .int (nI p)), (2, .int q), (3, .int t)]) hx hb dX1_against_37 hl (k := 5) rfl rfl (by decide) rfl (fun ls hl => ?_)
        refine lv_goto (tgt := 6) hx hb dX1_against_40 (by decide) ?_
        exact ih6 (i6 + 1) (by omega) (by omega) ((nI (p_ct (fun o => p_bars F sh o p q t) i6)) + (b2i (p_bars F sh i6 p q t))) (nI i6 + 1) (by exact nct_b) (by first | exact nI_1 _ | exact nct_t (by assumption) | exact nct_f (by assumption) | exact nct_b | rfl) _ _ hP hD hS _ (lv_sub hl [2, 3, 4, 5, 1, 0] rfl)
  exact key6 (no + 1) 0 (by omega) (by omega) 0 0 (by first | rfl | simp [p_ct, p_sm, p_fl, p_fg, nI_0]) (by first | rfl | simp [p_ct, p_sm, p_fl, p_fg, nI_0]) _ _ hP hD hS _ (lv_sub hl [2, 3, 4, 5, 1, 0] rfl)
set_option maxHeartbeats 4000000 in
set_option maxRecDepth 100000 in
theorem c_X1_barred (l : Launch) (G : va_G) (cI cZ : ClassId) (h : Nat) (a : Nat → Nat) (F : Nat → Nat → Int32) (nq no np : Nat) (sh nw : Int32) (th : Int32) (wt : Nat → Int32) (sz : Nat) (o : Nat) (ho : o < 10) (hnp : np ≤ 20) : Met l yX1_barred wsX1_barred ({ frames := 5, cells := 0, slots := 0, locals := 112 } : Room) (va_Pc [.ref h, .int (nI o)] (wPre G (ty2 cI cZ) (Mk cI cZ h a F nq no np sh nw th wt) sz)) (va_Qi (fun (r : Int32) (_ : Unit) => r = nI (p_bd F sh np o nw)) (fun _ => wP G (ty2 cI cZ) (Mk cI cZ h a F nq no np sh nw th wt) (va_A (Mk cI cZ h a F nq no np sh nw th wt) sz)) (va_A (Mk cI cZ h a F nq no np sh nw th wt) sz)) 0 0 (va_A (Mk cI cZ h a F nq no np sh nw th wt) sz) := by
  refine w_met (cc := cX1_barred) (maxL := 4) (ret := (some .int)) (by decide) rfl (Nat.le_of_ble_eq_true rfl) ?_
  intro pg e s m below meth cd hx hb hml hr hts hown hlocks hnm hK hsz hP hD hA hS ls hl
  have hown : s.vm.findClass RX1 = some m.cls := hown
  have hin : ∀ w ∈ wsX10, w ∈ wsX1_barred := by decide +kernel
  have hl : lv_has ls 4 [(0, .ref h), (1, .int (nI o))] := hl
  generalize hAe : va_A (Mk cI cZ h a F nq no np sh nw th wt) sz = A at hD hA hS ⊢
  refine lv_iconst (v := 0) hx hb dX1_barred_0 (by decide) ?_
  refine lv_istore_n (lv' := [(2, .int 0), (0, .ref h), (1, .int (nI o))]) hx hb dX1_barred_1 rfl hl (by decide) rfl (fun ls hl => ?_)
  refine lv_iconst (v := 0) hx hb dX1_barred_2 (by decide) ?_
  refine lv_istore_n (lv' := [(3, .int 0), (2, .int 0), (0, .ref h), (1, .int (nI o))]) hx hb dX1_barred_3 rfl hl (by decide) rfl (fun ls hl => ?_)
  have key4 : ∀ (n i4 : Nat), i4 ≤ np → np < i4 + n → ∀ (x2 : Int32) (x3 : Int32), x2 = nI (p_ct (fun p => p_bars F sh o p (F 0 o) nw) i4) → x3 = nI i4 → ∀ (H : Heap) (locs : List Loc), va_P G vwCl (Mk cI cZ h a F nq no np sh nw th wt) H → va_D A (Mk cI cZ h a F nq no np sh nw th wt) → va_S A s.heap H locs → ∀ ls : Array Slot, lv_has ls 4 [(0, .ref h), (1, .int (nI o)), (2, .int x2), (3, .int x3)] → W pg l e ({ frames := 5, cells := 0, slots := 0, locals := 112 } : Room) s m ([.ref h, .int (nI o)] : List Value).toArray below meth cd H locs (0) (0) (MQ below (va_Qi (fun (r : Int32) (_ : Unit) => r = nI (p_bd F sh np o nw)) (fun _ => wP G (ty2 cI cZ) (Mk cI cZ h a F nq no np sh nw th wt) A) A) ([.ref h, .int (nI o)] : List Value).toArray s 0 0 A) (F0 m 4 ls []) := by
    intro n
    induction n with
    | zero => intro i4 h1 h2; exact absurd h2 (by omega)
    | succ n ih4 =>
      intro i4 hi_i4 hn_i4 x2 x3 e2 e3 H locs hP hD hS ls hl
      subst e2 e3
      refine lv_iload_n hx hb dX1_barred_4 rfl (lv_at hl 3 rfl) ?_
      refine lv_aload_n hx hb dX1_barred_5 rfl (lv_at hl 0 rfl) ?_
      refine va_get (ci := 1) (v := .int (nI np)) (C := RX1) (T := TX1) (N := 18) hx hb hts hin hown hK hP 0 rfl rfl 5 (by decide) (hts (.fieldLink RX1 61 "CurfewDeskModel" "people" "I") (by decide +kernel)) (fun _ h9 => h9) rfl dX1_barred_6 ?_
      refine lv_icmp_ge (tgt := 45) hx hb dX1_barred_9 (by decide) (fun c9 => ?_) (fun c9 => ?_)
      · have c9 := (nI_leI (a := np) (b := i4) (by omega) (by omega)).mp c9
        have ei : np = i4 := by omega
        subst ei
        refine lv_iload_n hx hb dX1_barred_45 rfl (lv_at hl 2 rfl) ?_
        exact w_iret () hx hb hr hlocks hK hP hD hS (Nat.le_of_ble_eq_true rfl) (Nat.le_of_ble_eq_true rfl) dX1_barred_46 (show (nI (p_ct (fun p => p_bars F sh o p (F 0 o) nw) np)) = nI (p_bd F sh np o nw) from by rfl)
      · have c9 := mt (nI_leI (a := np) (b := i4) (by omega) (by omega)).mpr c9
        have hlt_i4 : i4 < np := by omega
        refine lv_iload_n hx hb dX1_barred_12 rfl (lv_at hl 2 rfl) ?_
        refine lv_aload_n hx hb dX1_barred_13 rfl (lv_at hl 0 rfl) ?_
        refine lv_iload_n hx hb dX1_barred_14 rfl (lv_at hl 1 rfl) ?_
        refine lv_iload_n hx hb dX1_barred_15 rfl (lv_at hl 3 rfl) ?_
        refine lv_aload_n hx hb dX1_barred_16 rfl (lv_at hl 0 rfl) ?_
        refine va_get (ci := 1) (v := .ref (a 0)) (C := RX1) (T := TX1) (N := 18) hx hb hts hin hown hK hP 0 rfl rfl 6 (by decide) (hts (.fieldLink RX1 9 "CurfewDeskModel" "quarter" "[I") (by decide +kernel)) (fun _ h9 => h9) rfl dX1_barred_17 ?_
        refine lv_iload_n hx hb dX1_barred_20 rfl (lv_at hl 1 rfl) ?_
        refine w_iald hx hb hK hP 1 0 rfl rfl (f := (F 0)) (j := o) (by omega) (by omega) dX1_barred_21 ?_
        refine lv_aload_n hx hb dX1_barred_22 rfl (lv_at hl 0 rfl) ?_
        refine va_get (ci := 1) (v := .int nw) (C := RX1) (T := TX1) (N := 18) hx hb hts hin hown hK hP 0 rfl rfl 1 (by decide) (hts (.fieldLink RX1 122 "CurfewDeskModel" "time" "I") (by decide +kernel)) (fun _ h9 => h9) rfl dX1_barred_23 ?_
        refine w_in_i (va_runV (As := [.int (nI o), .int (nI i4), .int ((F 0) o), .int nw]) (rest := [.int (nI (p_ct (fun p => p_bars F sh o p (F 0 o) nw) i4))]) ⟨hx, hb, hml, hown, hts⟩ (c_X1_barsAt l G cI cZ h a F nq no np sh nw th wt H.size o i4 ((F 0) o) nw (by omega) (by omega)) (cwV 4 hts gX1_barred_X1_barsAt rfl rfl rfl (by decide +kernel) ⟨(Nat.le_of_ble_eq_true rfl), (Nat.le_of_ble_eq_true rfl)⟩) ⟨wPre_blind, va_recv hK hP (ci := 1) (q0 := 0) rfl rfl, w_pre hK hP hD⟩ rfl rfl hl.1 rfl (lv_room (Nat.le_of_ble_eq_true rfl)) dX1_barred_26 ⟨(Nat.le_of_ble_eq_true rfl), (Nat.le_of_ble_eq_true rfl)⟩) hD hS hA (fun r26 u26 H locs hw26 hP hD hS => ?_)
        have hP : va_P G vwCl (Mk cI cZ h a F nq no np sh nw th wt) H := hP
        have hD : va_D A (Mk cI cZ h a F nq no np sh nw th wt) := hD
        have hw26 : r26 = b2i (p_bars F sh o i4 ((F 0) o) nw) := hw26
        subst hw26
        refine w_selE (v1 := 1) (v2 := 0) hx hb dX1_barred_29 (by decide) dX1_barred_32 (by decide) dX1_barred_33 (by decide) dX1_barred_36 (by decide) ?_
        rw [b2i_sel]
        refine lv_iadd hx hb dX1_barred_37 ?_
        refine lv_istore_n (lv' := [(2, .int ((nI (p_ct (fun p => p_bars F sh o p (F 0 o) nw) i4)) + (b2i (p_bars F sh o i4 ((F 0) o) nw)))), (0, .ref h), (1, .int (nI o)), (3, .int (nI i4))]) hx hb dX1_barred_38 rfl hl (by decide) rfl (fun ls hl => ?_)
        refine lv_iinc (v := nI i4 + 1) (lv' := [(3, .int (nI i4 + 1)), (2, .int ((nI (p_ct (fun p => p_bars F sh o p (F 0 o) nw) i4)) + (b2i (p_bars F sh o i4 ((F 0) o) nw)))), (0, .ref h), (1, .int (nI o))]) hx hb dX1_barred_39 hl (k := 3) rfl rfl (by decide) rfl (fun ls hl => ?_)
        refine lv_goto (tgt := 4) hx hb dX1_barred_42 (by decide) ?_
        exact ih4 (i4 + 1) (by omega) (by omega) ((nI (p_ct (fun p => p_bars F sh o p (F 0 o) nw) i4)) + (b2i (p_bars F sh o i4 ((F 0) o) nw))) (nI i4 + 1) (by exact nct_b) (by first | exact nI_1 _ | exact nct_t (by assumption) | exact nct_f (by assumption) | exact nct_b | rfl) _ _ hP hD hS _ (lv_sub hl [2, 3, 1, 0] rfl)
  exact key4 (np + 1) 0 (by omega) (by omega) 0 0 (by first | rfl | simp [p_ct, p_sm, p_fl, p_fg, nI_0]) (by first | rfl | simp [p_ct, p_sm, p_fl, p_fg, nI_0]) _ _ hP hD hS _ (lv_sub hl [2, 3, 1, 0] rfl)
set_option maxHeartbeats 4000000 in
set_option maxRecDepth 100000 in
theorem c_X1_manyOn (l : Launch) (G : va_G) (cI cZ : ClassId) (h : Nat) (a : Nat → Nat) (F : Nat → Nat → Int32) (nq no np : Nat) (sh nw : Int32) (th : Int32) (wt : Nat → Int32) (sz : Nat) (hno : no ≤ 10) : Met l yX1_manyOn wsX1_manyOn ({ frames := 4, cells := 0, slots := 0, locals := 88 } : Room) (va_Pc [.ref h] (wPre G (ty2 cI cZ) (Mk cI cZ h a F nq no np sh nw th wt) sz)) (va_Qi (fun (r : Int32) (_ : Unit) => r = nI (p_mo F sh no nw)) (fun _ => wP G (ty2 cI cZ) (Mk cI cZ h a F nq no np sh nw th wt) (va_A (Mk cI cZ h a F nq no np sh nw th wt) sz)) (va_A (Mk cI cZ h a F nq no np sh nw th wt) sz)) 0 0 (va_A (Mk cI cZ h a F nq no np sh nw th wt) sz) := by
  refine w_met (cc := cX1_manyOn) (maxL := 3) (ret := (some .int)) (by decide) rfl (Nat.le_of_ble_eq_true rfl) ?_
  intro pg e s m below meth cd hx hb hml hr hts hown hlocks hnm hK hsz hP hD hA hS ls hl
  have hown : s.vm.findClass RX1 = some m.cls := hown
  have hin : ∀ w ∈ wsX10, w ∈ wsX1_manyOn := by decide +kernel
  have hl : lv_has ls 3 [(0, .ref h)] := hl
  generalize hAe : va_A (Mk cI cZ h a F nq no np sh nw th wt) sz = A at hD hA hS ⊢
  refine lv_iconst (v := 0) hx hb dX1_manyOn_0 (by decide) ?_
  refine lv_istore_n (lv' := [(1, .int 0), (0, .ref h)]) hx hb dX1_manyOn_1 rfl hl (by decide) rfl (fun ls hl => ?_)
  refine lv_iconst (v := 0) hx hb dX1_manyOn_2 (by decide) ?_
  refine lv_istore_n (lv' := [(2, .int 0), (1, .int 0), (0, .ref h)]) hx hb dX1_manyOn_3 rfl hl (by decide) rfl (fun ls hl => ?_)
  have key4 : ∀ (n i4 : Nat), i4 ≤ no → no < i4 + n → ∀ (x1 : Int32) (x2 : Int32), x1 = nI (p_ct (fun o => p_on F sh o nw) i4) → x2 = nI i4 → ∀ (H : Heap) (locs : List Loc), va_P G vwCl (Mk cI cZ h a F nq no np sh nw th wt) H → va_D A (Mk cI cZ h a F nq no np sh nw th wt) → va_S A s.heap H locs → ∀ ls : Array Slot, lv_has ls 3 [(0, .ref h), (1, .int x1), (2, .int x2)] → W pg l e ({ frames := 4, cells := 0, slots := 0, locals := 88 } : Room) s m ([.ref h] : List Value).toArray below meth cd H locs (0) (0) (MQ below (va_Qi (fun (r : Int32) (_ : Unit) => r = nI (p_mo F sh no nw)) (fun _ => wP G (ty2 cI cZ) (Mk cI cZ h a F nq no np sh nw th wt) A) A) ([.ref h] : List Value).toArray s 0 0 A) (F0 m 4 ls []) := by
    intro n
    induction n with
    | zero => intro i4 h1 h2; exact absurd h2 (by omega)
    | succ n ih4 =>
      intro i4 hi_i4 hn_i4 x1 x2 e1 e2 H locs hP hD hS ls hl
      subst e1 e2
      refine lv_iload_n hx hb dX1_manyOn_4 rfl (lv_at hl 2 rfl) ?_
      refine lv_aload_n hx hb dX1_manyOn_5 rfl (lv_at hl 0 rfl) ?_
      refine va_get (ci := 1) (v := .int (nI no)) (C := RX1) (T := TX1) (N := 18) hx hb hts hin hown hK hP 0 rfl rfl 4 (by decide) (hts (.fieldLink RX1 58 "CurfewDeskModel" "orders" "I") (by decide +kernel)) (fun _ h9 => h9) rfl dX1_manyOn_6 ?_
      refine lv_icmp_ge (tgt := 38) hx hb dX1_manyOn_9 (by decide) (fun c9 => ?_) (fun c9 => ?_)
      · have c9 := (nI_leI (a := no) (b := i4) (by omega) (by omega)).mp c9
        have ei : no = i4 := by omega
        subst ei
        refine lv_iload_n hx hb dX1_manyOn_38 rfl (lv_at hl 1 rfl) ?_
        exact w_iret () hx hb hr hlocks hK hP hD hS (Nat.le_of_ble_eq_true rfl) (Nat.le_of_ble_eq_true rfl) dX1_manyOn_39 (show (nI (p_ct (fun o => p_on F sh o nw) no)) = nI (p_mo F sh no nw) from by rfl)
      · have c9 := mt (nI_leI (a := no) (b := i4) (by omega) (by omega)).mpr c9
        have hlt_i4 : i4 < no := by omega
        refine lv_iload_n hx hb dX1_manyOn_12 rfl (lv_at hl 1 rfl) ?_
        refine lv_aload_n hx hb dX1_manyOn_13 rfl (lv_at hl 0 rfl) ?_
        refine lv_iload_n hx hb dX1_manyOn_14 rfl (lv_at hl 2 rfl) ?_
        refine lv_aload_n hx hb dX1_manyOn_15 rfl (lv_at hl 0 rfl) ?_
        refine va_get (ci := 1) (v := .int nw) (C := RX1) (T := TX1) (N := 18) hx hb hts hin hown hK hP 0 rfl rfl 1 (by decide) (hts (.fieldLink RX1 122 "CurfewDeskModel" "time" "I") (by decide +kernel)) (fun _ h9 => h9) rfl dX1_manyOn_16 ?_
        refine w_in_i (va_runV (As := [.int (nI i4), .int nw]) (rest := [.int (nI (p_ct (fun o => p_on F sh o nw) i4))]) ⟨hx, hb, hml, hown, hts⟩ (c_X1_onAt l G cI cZ h a F nq no np sh nw th wt H.size i4 nw (by omega)) (cwV 2 hts gX1_manyOn_X1_onAt rfl rfl rfl (by decide +kernel) ⟨(Nat.le_of_ble_eq_true rfl), (Nat.le_of_ble_eq_true rfl)⟩) ⟨wPre_blind, va_recv hK hP (ci := 1) (q0 := 0) rfl rfl, w_pre hK hP hD⟩ rfl rfl hl.1 rfl (lv_room (Nat.le_of_ble_eq_true rfl)) dX1_manyOn_19 ⟨(Nat.le_of_ble_eq_true rfl), (Nat.le_of_ble_eq_true rfl)⟩) hD hS hA (fun r19 u19 H locs hw19 hP hD hS => ?_)
        have hP : va_P G vwCl (Mk cI cZ h a F nq no np sh nw th wt) H := hP
        have hD : va_D A (Mk cI cZ h a F nq no np sh nw th wt) := hD
        have hw19 : r19 = b2i (p_on F sh i4 nw) := hw19
        subst hw19
        refine w_selE (v1 := 1) (v2 := 0) hx hb dX1_manyOn_22 (by decide) dX1_manyOn_25 (by decide) dX1_manyOn_26 (by decide) dX1_manyOn_29 (by decide) ?_
        rw [b2i_sel]
        refine lv_iadd hx hb dX1_manyOn_30 ?_
        refine lv_istore_n (lv' := [(1, .int ((nI (p_ct (fun o => p_on F sh o nw) i4)) + (b2i (p_on F sh i4 nw)))), (0, .ref h), (2, .int (nI i4))]) hx hb dX1_manyOn_31 rfl hl (by decide) rfl (fun ls hl => ?_)
        refine lv_iinc (v := nI i4 + 1) (lv' := [(2, .int (nI i4 + 1)), (1, .int ((nI (p_ct (fun o => p_on F sh o nw) i4)) + (b2i (p_on F sh i4 nw)))), (0, .ref h)]) hx hb dX1_manyOn_32 hl (k := 2) rfl rfl (by decide) rfl (fun ls hl => ?_)
        refine lv_goto (tgt := 4) hx hb dX1_manyOn_35 (by decide) ?_
        exact ih4 (i4 + 1) (by omega) (by omega) ((nI (p_ct (fun o => p_on F sh o nw) i4)) + (b2i (p_on F sh i4 nw))) (nI i4 + 1) (by exact nct_b) (by first | exact nI_1 _ | exact nct_t (by assumption) | exact nct_f (by assumption) | exact nct_b | rfl) _ _ hP hD hS _ (lv_sub hl [2, 1, 0] rfl)
  exact key4 (no + 1) 0 (by omega) (by omega) 0 0 (by first | rfl | simp [p_ct, p_sm, p_fl, p_fg, nI_0]) (by first | rfl | simp [p_ct, p_sm, p_fl, p_fg, nI_0]) _ _ hP hD hS _ (lv_sub hl [2, 1, 0] rfl)
set_option maxHeartbeats 4000000 in
set_option maxRecDepth 100000 in
theorem c_X1_all (l : Launch) (G : va_G) (cI cZ : ClassId) (h : Nat) (a : Nat → Nat) (F : Nat → Nat → Int32) (nq no np : Nat) (sh nw : Int32) (th : Int32) (wt : Nat → Int32) (sz : Nat) (hnp : np ≤ 20) : Met l yX1_all wsX1_all ({ frames := 0, cells := 0, slots := 0, locals := 0 } : Room) (va_Pc [.ref h] (wPre G (ty2 cI cZ) (Mk cI cZ h a F nq no np sh nw th wt) sz)) (va_Qi (fun (r : Int32) (_ : Unit) => r = p_sm (F 8) np) (fun _ => wP G (ty2 cI cZ) (Mk cI cZ h a F nq no np sh nw th wt) (va_A (Mk cI cZ h a F nq no np sh nw th wt) sz)) (va_A (Mk cI cZ h a F nq no np sh nw th wt) sz)) 0 0 (va_A (Mk cI cZ h a F nq no np sh nw th wt) sz) := by
  refine w_met (cc := cX1_all) (maxL := 3) (ret := (some .int)) (by decide) rfl (Nat.le_of_ble_eq_true rfl) ?_
  intro pg e s m below meth cd hx hb hml hr hts hown hlocks hnm hK hsz hP hD hA hS ls hl
  have hown : s.vm.findClass RX1 = some m.cls := hown
  have hin : ∀ w ∈ wsX10, w ∈ wsX1_all := by decide +kernel
  have hl : lv_has ls 3 [(0, .ref h)] := hl
  generalize hAe : va_A (Mk cI cZ h a F nq no np sh nw th wt) sz = A at hD hA hS ⊢
  refine lv_iconst (v := 0) hx hb dX1_all_0 (by decide) ?_
  refine lv_istore_n (lv' := [(1, .int 0), (0, .ref h)]) hx hb dX1_all_1 rfl hl (by decide) rfl (fun ls hl => ?_)
  refine lv_iconst (v := 0) hx hb dX1_all_2 (by decide) ?_
  refine lv_istore_n (lv' := [(2, .int 0), (1, .int 0), (0, .ref h)]) hx hb dX1_all_3 rfl hl (by decide) rfl (fun ls hl => ?_)
  have key4 : ∀ (n i4 : Nat), i4 ≤ np → np < i4 + n → ∀ (x1 : Int32) (x2 : Int32), x1 = p_sm (F 8) i4 → x2 = nI i4 → ∀ (H : Heap) (locs : List Loc), va_P G vwCl (Mk cI cZ h a F nq no np sh nw th wt) H → va_D A (Mk cI cZ h a F nq no np sh nw th wt) → va_S A s.heap H locs → ∀ ls : Array Slot, lv_has ls 3 [(0, .ref h), (1, .int x1), (2, .int x2)] → W pg l e ({ frames := 0, cells := 0, slots := 0, locals := 0 } : Room) s m ([.ref h] : List Value).toArray below meth cd H locs (0) (0) (MQ below (va_Qi (fun (r : Int32) (_ : Unit) => r = p_sm (F 8) np) (fun _ => wP G (ty2 cI cZ) (Mk cI cZ h a F nq no np sh nw th wt) A) A) ([.ref h] : List Value).toArray s 0 0 A) (F0 m 4 ls []) := by
    intro n
    induction n with
    | zero => intro i4 h1 h2; exact absurd h2 (by omega)
    | succ n ih4 =>
      intro i4 hi_i4 hn_i4 x1 x2 e1 e2 H locs hP hD hS ls hl
      subst e1 e2
      refine lv_iload_n hx hb dX1_all_4 rfl (lv_at hl 2 rfl) ?_
      refine lv_aload_n hx hb dX1_all_5 rfl (lv_at hl 0 rfl) ?_
      refine va_get (ci := 1) (v := .int (nI np)) (C := RX1) (T := TX1) (N := 18) hx hb hts hin hown hK hP 0 rfl rfl 5 (by decide) (hts (.fieldLink RX1 61 "CurfewDeskModel" "people" "I") (by decide +kernel)) (fun _ h9 => h9) rfl dX1_all_6 ?_
      refine lv_icmp_ge (tgt := 27) hx hb dX1_all_9 (by decide) (fun c9 => ?_) (fun c9 => ?_)
      · have c9 := (nI_leI (a := np) (b := i4) (by omega) (by omega)).mp c9
        have ei : np = i4 := by omega
        subst ei
        refine lv_iload_n hx hb dX1_all_27 rfl (lv_at hl 1 rfl) ?_
        exact w_iret () hx hb hr hlocks hK hP hD hS (Nat.le_of_ble_eq_true rfl) (Nat.le_of_ble_eq_true rfl) dX1_all_28 (show (p_sm (F 8) np) = p_sm (F 8) np from by rfl)
      · have c9 := mt (nI_leI (a := np) (b := i4) (by omega) (by omega)).mpr c9
        have hlt_i4 : i4 < np := by omega
        refine lv_iload_n hx hb dX1_all_12 rfl (lv_at hl 1 rfl) ?_
        refine lv_aload_n hx hb dX1_all_13 rfl (lv_at hl 0 rfl) ?_
        refine va_get (ci := 1) (v := .ref (a 8)) (C := RX1) (T := TX1) (N := 18) hx hb hts hin hown hK hP 0 rfl rfl 14 (by decide) (hts (.fieldLink RX1 35 "CurfewDeskModel" "debt" "[I") (by decide +kernel)) (fun _ h9 => h9) rfl dX1_all_14 ?_
        refine lv_iload_n hx hb dX1_all_17 rfl (lv_at hl 2 rfl) ?_
        refine w_iald hx hb hK hP 9 0 rfl rfl (f := (F 8)) (j := i4) (by omega) (by omega) dX1_all_18 ?_
        refine lv_iadd hx hb dX1_all_19 ?_
        refine lv_istore_n (lv' := [(1, .int ((p_sm (F 8) i4) + ((F 8) i4))), (0, .ref h), (2, .int (nI i4))]) hx hb dX1_all_20 rfl hl (by decide) rfl (fun ls hl => ?_)
        refine lv_iinc (v := nI i4 + 1) (lv' := [(2, .int (nI i4 + 1)), (1, .int ((p_sm (F 8) i4) + ((F 8) i4))), (0, .ref h)]) hx hb dX1_all_21 hl (k := 2) rfl rfl (by decide) rfl (fun ls hl => ?_)
        refine lv_goto (tgt := 4) hx hb dX1_all_24 (by decide) ?_
        exact ih4 (i4 + 1) (by omega) (by omega) ((p_sm (F 8) i4) + ((F 8) i4)) (nI i4 + 1) (by rfl) (by first | exact nI_1 _ | exact nct_t (by assumption) | exact nct_f (by assumption) | exact nct_b | rfl) _ _ hP hD hS _ (lv_sub hl [2, 1, 0] rfl)
  exact key4 (np + 1) 0 (by omega) (by omega) 0 0 (by first | rfl | simp [p_ct, p_sm, p_fl, p_fg, nI_0]) (by first | rfl | simp [p_ct, p_sm, p_fl, p_fg, nI_0]) _ _ hP hD hS _ (lv_sub hl [2, 1, 0] rfl)
set_option maxHeartbeats 4000000 in
set_option maxRecDepth 100000 in
theorem c_X1_isPass (l : Launch) (G : va_G) (cI cZ : ClassId) (h : Nat) (a : Nat → Nat) (F : Nat → Nat → Int32) (nq no np : Nat) (sh nw : Int32) (th : Int32) (wt : Nat → Int32) (sz : Nat) (x : Int32) (y : Int32) (hnp : np ≤ 20) : Met l yX1_isPass wsX1_isPass ({ frames := 2, cells := 0, slots := 0, locals := 43 } : Room) (va_Pc [.ref h, .int x, .int y] (wPre G (ty2 cI cZ) (Mk cI cZ h a F nq no np sh nw th wt) sz)) (va_Qi (fun (r : Int32) (_ : Unit) => r = b2i (p_in x np && p_in y 4)) (fun _ => wP G (ty2 cI cZ) (Mk cI cZ h a F nq no np sh nw (k1 (p_in x np && p_in y 4)) wt) (va_A (Mk cI cZ h a F nq no np sh nw th wt) sz)) (va_A (Mk cI cZ h a F nq no np sh nw th wt) sz)) 0 0 (va_A (Mk cI cZ h a F nq no np sh nw th wt) sz) := by
  refine w_met (cc := cX1_isPass) (maxL := 3) (ret := (some .boolean)) (by decide) rfl (Nat.le_of_ble_eq_true rfl) ?_
  intro pg e s m below meth cd hx hb hml hr hts hown hlocks hnm hK hsz hP hD hA hS ls hl
  have hown : s.vm.findClass RX1 = some m.cls := hown
  have hin : ∀ w ∈ wsX10, w ∈ wsX1_isPass := by decide +kernel
  have hl : lv_has ls 3 [(0, .ref h), (1, .int x), (2, .int y)] := hl
  generalize hAe : va_A (Mk cI cZ h a F nq no np sh nw th wt) sz = A at hD hA hS ⊢
  refine lv_aload_n hx hb dX1_isPass_0 rfl (lv_at hl 0 rfl) ?_
  refine lv_aload_n hx hb dX1_isPass_1 rfl (lv_at hl 0 rfl) ?_
  refine lv_iload_n hx hb dX1_isPass_2 rfl (lv_at hl 1 rfl) ?_
  refine w_in_i (va_runV (As := [.int x]) (rest := [.ref h]) ⟨hx, hb, hml, hown, hts⟩ (c_X1_isPerson l G cI cZ h a F nq no np sh nw th wt s.heap.size x (by omega)) (cwV 1 hts gX1_isPass_X1_isPerson rfl rfl rfl (by decide +kernel) ⟨(Nat.le_of_ble_eq_true rfl), (Nat.le_of_ble_eq_true rfl)⟩) ⟨wPre_blind, va_recv hK hP (ci := 1) (q0 := 0) rfl rfl, w_pre hK hP hD⟩ rfl rfl hl.1 rfl (lv_room (Nat.le_of_ble_eq_true rfl)) dX1_isPass_3 ⟨(Nat.le_of_ble_eq_true rfl), (Nat.le_of_ble_eq_true rfl)⟩) hD hS hA (fun r3 u3 H locs hw3 hP hD hS => ?_)
  have hP : va_P G vwCl (Mk cI cZ h a F nq no np sh nw th wt) H := hP
  have hD : va_D A (Mk cI cZ h a F nq no np sh nw th wt) := hD
  have hw3 : r3 = b2i (p_in x np) := hw3
  subst hw3
  refine lv_if_eq (tgt := 20) hx hb dX1_isPass_6 (by decide) (fun c6 => ?_) (fun c6 => ?_)
  · have c6 := b2i_0.mp c6
    refine lv_iconst (v := 1) hx hb dX1_isPass_20 (by decide) ?_
    refine va_put (ci := 1) (v := .int 1) (ty := .int) (C := RX1) (T := TX1) (N := 18) hx hb hts hin tyX1 tyX1_ok nmX1 hown hK hP hD hS 0 rfl rfl 0 (by decide) (hts (.fieldLink RX1 47 "CurfewDeskModel" "thrown" "I") (by decide +kernel)) (fun _ h9 => h9) rfl (by decide +kernel) rfl rfl (Nat.le_of_ble_eq_true rfl) dX1_isPass_21 (fun H locs hP hD hS => ?_)
    have hP : va_P G vwCl (Mk cI cZ h a F nq no np sh nw 1 wt) H := hP
    have hD : va_D A (Mk cI cZ h a F nq no np sh nw 1 wt) := hD
    refine lv_aload_n hx hb dX1_isPass_24 rfl (lv_at hl 0 rfl) ?_
    refine va_get (ci := 1) (v := .int 1) (C := RX1) (T := TX1) (N := 18) hx hb hts hin hown hK hP 0 rfl rfl 0 (by decide) (hts (.fieldLink RX1 47 "CurfewDeskModel" "thrown" "I") (by decide +kernel)) (fun _ h9 => h9) rfl dX1_isPass_25 ?_
    refine w_selN (v1 := 1) (v2 := 0) hx hb dX1_isPass_28 (by decide) dX1_isPass_31 (by decide) dX1_isPass_32 (by decide) dX1_isPass_35 (by decide) ?_
    rw [b2i_nz]
    have hk : k1 (p_in x np && p_in y 4) = 1 := by rw [c6]; rfl
    have hP : va_P G vwCl (Mk cI cZ h a F nq no np sh nw (k1 (p_in x np && p_in y 4)) wt) H := by (simp only [hk]); exact hP
    have hD : va_D A (Mk cI cZ h a F nq no np sh nw (k1 (p_in x np && p_in y 4)) wt) := by (simp only [hk]); exact hD
    exact w_zret () hx hb hr hlocks hK hP hD hS (Nat.le_of_ble_eq_true rfl) (Nat.le_of_ble_eq_true rfl) dX1_isPass_36 (b2i_n _) (show (b2i (decide (1 = 0))) = b2i (p_in x np && p_in y 4) from by rw [c6]; simp [b2i])
  · have c6 := b2i_1.mp c6
    refine lv_iload_n hx hb dX1_isPass_9 rfl (lv_at hl 2 rfl) ?_
    refine w_st_i (va_runS (As := [.int y]) (rest := [.ref h]) ⟨hx, hb, hml, hown, hts⟩ (c_X1_isColour l G H.size y ) (va_cwS 1 hts gX1_isPass_X1_isColour rfl rfl rfl (by decide +kernel) ⟨(Nat.le_of_ble_eq_true rfl), (Nat.le_of_ble_eq_true rfl)⟩) ⟨wPre_blind, w_pre (hK.sub [] rfl) w_P0 (w_D0 (A := A))⟩ rfl rfl hl.1 rfl (lv_room (Nat.le_of_ble_eq_true rfl)) dX1_isPass_10 ⟨(Nat.le_of_ble_eq_true rfl), (Nat.le_of_ble_eq_true rfl)⟩) hP hS hA (fun r10 u10 H locs hw10 hP hS => ?_)
    have hw10 : r10 = b2i (p_in y 4) := hw10
    subst hw10
    refine lv_if_eq (tgt := 20) hx hb dX1_isPass_13 (by decide) (fun c13 => ?_) (fun c13 => ?_)
    · have c13 := b2i_0.mp c13
      refine lv_iconst (v := 1) hx hb dX1_isPass_20 (by decide) ?_
      refine va_put (ci := 1) (v := .int 1) (ty := .int) (C := RX1) (T := TX1) (N := 18) hx hb hts hin tyX1 tyX1_ok nmX1 hown hK hP hD hS 0 rfl rfl 0 (by decide) (hts (.fieldLink RX1 47 "CurfewDeskModel" "thrown" "I") (by decide +kernel)) (fun _ h9 => h9) rfl (by decide +kernel) rfl rfl (Nat.le_of_ble_eq_true rfl) dX1_isPass_21 (fun H locs hP hD hS => ?_)
      have hP : va_P G vwCl (Mk cI cZ h a F nq no np sh nw 1 wt) H := hP
      have hD : va_D A (Mk cI cZ h a F nq no np sh nw 1 wt) := hD
      refine lv_aload_n hx hb dX1_isPass_24 rfl (lv_at hl 0 rfl) ?_
      refine va_get (ci := 1) (v := .int 1) (C := RX1) (T := TX1) (N := 18) hx hb hts hin hown hK hP 0 rfl rfl 0 (by decide) (hts (.fieldLink RX1 47 "CurfewDeskModel" "thrown" "I") (by decide +kernel)) (fun _ h9 => h9) rfl dX1_isPass_25 ?_
      refine w_selN (v1 := 1) (v2 := 0) hx hb dX1_isPass_28 (by decide) dX1_isPass_31 (by decide) dX1_isPass_32 (by decide) dX1_isPass_35 (by decide) ?_
      rw [b2i_nz]
      have hk : k1 (p_in x np && p_in y 4) = 1 := by rw [c6, c13]; rfl
      have hP : va_P G vwCl (Mk cI cZ h a F nq no np sh nw (k1 (p_in x np && p_in y 4)) wt) H := by (simp only [hk]); exact hP
      have hD : va_D A (Mk cI cZ h a F nq no np sh nw (k1 (p_in x np && p_in y 4)) wt) := by (simp only [hk]); exact hD
      exact w_zret () hx hb hr hlocks hK hP hD hS (Nat.le_of_ble_eq_true rfl) (Nat.le_of_ble_eq_true rfl) dX1_isPass_36 (b2i_n _) (show (b2i (decide (1 = 0))) = b2i (p_in x np && p_in y 4) from by rw [c6, c13]; simp [b2i])
    · have c13 := b2i_1.mp c13
      refine lv_iconst (v := 0) hx hb dX1_isPass_16 (by decide) ?_
      refine lv_goto (tgt := 21) hx hb dX1_isPass_17 (by decide) ?_
      refine va_put (ci := 1) (v := .int 0) (ty := .int) (C := RX1) (T := TX1) (N := 18) hx hb hts hin tyX1 tyX1_ok nmX1 hown hK hP hD hS 0 rfl rfl 0 (by decide) (hts (.fieldLink RX1 47 "CurfewDeskModel" "thrown" "I") (by decide +kernel)) (fun _ h9 => h9) rfl (by decide +kernel) rfl rfl (Nat.le_of_ble_eq_true rfl) dX1_isPass_21 (fun H locs hP hD hS => ?_)
      have hP : va_P G vwCl (Mk cI cZ h a F nq no np sh nw 0 wt) H := hP
      have hD : va_D A (Mk cI cZ h a F nq no np sh nw 0 wt) := hD
      refine lv_aload_n hx hb dX1_isPass_24 rfl (lv_at hl 0 rfl) ?_
      refine va_get (ci := 1) (v := .int 0) (C := RX1) (T := TX1) (N := 18) hx hb hts hin hown hK hP 0 rfl rfl 0 (by decide) (hts (.fieldLink RX1 47 "CurfewDeskModel" "thrown" "I") (by decide +kernel)) (fun _ h9 => h9) rfl dX1_isPass_25 ?_
      refine w_selN (v1 := 1) (v2 := 0) hx hb dX1_isPass_28 (by decide) dX1_isPass_31 (by decide) dX1_isPass_32 (by decide) dX1_isPass_35 (by decide) ?_
      rw [b2i_nz]
      have hk : k1 (p_in x np && p_in y 4) = 0 := by rw [c6, c13]; rfl
      have hP : va_P G vwCl (Mk cI cZ h a F nq no np sh nw (k1 (p_in x np && p_in y 4)) wt) H := by (simp only [hk]); exact hP
      have hD : va_D A (Mk cI cZ h a F nq no np sh nw (k1 (p_in x np && p_in y 4)) wt) := by (simp only [hk]); exact hD
      exact w_zret () hx hb hr hlocks hK hP hD hS (Nat.le_of_ble_eq_true rfl) (Nat.le_of_ble_eq_true rfl) dX1_isPass_36 (b2i_n _) (show (b2i (decide (0 = 0))) = b2i (p_in x np && p_in y 4) from by rw [c6, c13]; simp [b2i])
set_option maxHeartbeats 4000000 in
set_option maxRecDepth 100000 in
theorem c_X1_isPair (l : Launch) (G : va_G) (cI cZ : ClassId) (h : Nat) (a : Nat → Nat) (F : Nat → Nat → Int32) (nq no np : Nat) (sh nw : Int32) (th : Int32) (wt : Nat → Int32) (sz : Nat) (x : Int32) (y : Int32) (hnp : np ≤ 20) (hnq : nq ≤ 6) : Met l yX1_isPair wsX1_isPair ({ frames := 2, cells := 0, slots := 0, locals := 43 } : Room) (va_Pc [.ref h, .int x, .int y] (wPre G (ty2 cI cZ) (Mk cI cZ h a F nq no np sh nw th wt) sz)) (va_Qi (fun (r : Int32) (_ : Unit) => r = b2i (p_in x np && p_in y nq)) (fun _ => wP G (ty2 cI cZ) (Mk cI cZ h a F nq no np sh nw (k1 (p_in x np && p_in y nq)) wt) (va_A (Mk cI cZ h a F nq no np sh nw th wt) sz)) (va_A (Mk cI cZ h a F nq no np sh nw th wt) sz)) 0 0 (va_A (Mk cI cZ h a F nq no np sh nw th wt) sz) := by
  refine w_met (cc := cX1_isPair) (maxL := 3) (ret := (some .boolean)) (by decide) rfl (Nat.le_of_ble_eq_true rfl) ?_
  intro pg e s m below meth cd hx hb hml hr hts hown hlocks hnm hK hsz hP hD hA hS ls hl
  have hown : s.vm.findClass RX1 = some m.cls := hown
  have hin : ∀ w ∈ wsX10, w ∈ wsX1_isPair := by decide +kernel
  have hl : lv_has ls 3 [(0, .ref h), (1, .int x), (2, .int y)] := hl
  generalize hAe : va_A (Mk cI cZ h a F nq no np sh nw th wt) sz = A at hD hA hS ⊢
  refine lv_aload_n hx hb dX1_isPair_0 rfl (lv_at hl 0 rfl) ?_
  refine lv_aload_n hx hb dX1_isPair_1 rfl (lv_at hl 0 rfl) ?_
  refine lv_iload_n hx hb dX1_isPair_2 rfl (lv_at hl 1 rfl) ?_
  refine w_in_i (va_runV (As := [.int x]) (rest := [.ref h]) ⟨hx, hb, hml, hown, hts⟩ (c_X1_isPerson l G cI cZ h a F nq no np sh nw th wt s.heap.size x (by omega)) (cwV 1 hts gX1_isPair_X1_isPerson rfl rfl rfl (by decide +kernel) ⟨(Nat.le_of_ble_eq_true rfl), (Nat.le_of_ble_eq_true rfl)⟩) ⟨wPre_blind, va_recv hK hP (ci := 1) (q0 := 0) rfl rfl, w_pre hK hP hD⟩ rfl rfl hl.1 rfl (lv_room (Nat.le_of_ble_eq_true rfl)) dX1_isPair_3 ⟨(Nat.le_of_ble_eq_true rfl), (Nat.le_of_ble_eq_true rfl)⟩) hD hS hA (fun r3 u3 H locs hw3 hP hD hS => ?_)
  have hP : va_P G vwCl (Mk cI cZ h a F nq no np sh nw th wt) H := hP
  have hD : va_D A (Mk cI cZ h a F nq no np sh nw th wt) := hD
  have hw3 : r3 = b2i (p_in x np) := hw3
  subst hw3
  refine lv_if_eq (tgt := 21) hx hb dX1_isPair_6 (by decide) (fun c6 => ?_) (fun c6 => ?_)
  · have c6 := b2i_0.mp c6
    refine lv_iconst (v := 1) hx hb dX1_isPair_21 (by decide) ?_
    refine va_put (ci := 1) (v := .int 1) (ty := .int) (C := RX1) (T := TX1) (N := 18) hx hb hts hin tyX1 tyX1_ok nmX1 hown hK hP hD hS 0 rfl rfl 0 (by decide) (hts (.fieldLink RX1 47 "CurfewDeskModel" "thrown" "I") (by decide +kernel)) (fun _ h9 => h9) rfl (by decide +kernel) rfl rfl (Nat.le_of_ble_eq_true rfl) dX1_isPair_22 (fun H locs hP hD hS => ?_)
    have hP : va_P G vwCl (Mk cI cZ h a F nq no np sh nw 1 wt) H := hP
    have hD : va_D A (Mk cI cZ h a F nq no np sh nw 1 wt) := hD
    refine lv_aload_n hx hb dX1_isPair_25 rfl (lv_at hl 0 rfl) ?_
    refine va_get (ci := 1) (v := .int 1) (C := RX1) (T := TX1) (N := 18) hx hb hts hin hown hK hP 0 rfl rfl 0 (by decide) (hts (.fieldLink RX1 47 "CurfewDeskModel" "thrown" "I") (by decide +kernel)) (fun _ h9 => h9) rfl dX1_isPair_26 ?_
    refine w_selN (v1 := 1) (v2 := 0) hx hb dX1_isPair_29 (by decide) dX1_isPair_32 (by decide) dX1_isPair_33 (by decide) dX1_isPair_36 (by decide) ?_
    rw [b2i_nz]
    have hk : k1 (p_in x np && p_in y nq) = 1 := by rw [c6]; rfl
    have hP : va_P G vwCl (Mk cI cZ h a F nq no np sh nw (k1 (p_in x np && p_in y nq)) wt) H := by (simp only [hk]); exact hP
    have hD : va_D A (Mk cI cZ h a F nq no np sh nw (k1 (p_in x np && p_in y nq)) wt) := by (simp only [hk]); exact hD
    exact w_zret () hx hb hr hlocks hK hP hD hS (Nat.le_of_ble_eq_true rfl) (Nat.le_of_ble_eq_true rfl) dX1_isPair_37 (b2i_n _) (show (b2i (decide (1 = 0))) = b2i (p_in x np && p_in y nq) from by rw [c6]; simp [b2i])
  · have c6 := b2i_1.mp c6
    refine lv_aload_n hx hb dX1_isPair_9 rfl (lv_at hl 0 rfl) ?_
    refine lv_iload_n hx hb dX1_isPair_10 rfl (lv_at hl 2 rfl) ?_
    refine w_in_i (va_runV (As := [.int y]) (rest := [.ref h]) ⟨hx, hb, hml, hown, hts⟩ (c_X1_isQuarter l G cI cZ h a F nq no np sh nw th wt H.size y (by omega)) (cwV 1 hts gX1_isPair_X1_isQuarter rfl rfl rfl (by decide +kernel) ⟨(Nat.le_of_ble_eq_true rfl), (Nat.le_of_ble_eq_true rfl)⟩) ⟨wPre_blind, va_recv hK hP (ci := 1) (q0 := 0) rfl rfl, w_pre hK hP hD⟩ rfl rfl hl.1 rfl (lv_room (Nat.le_of_ble_eq_true rfl)) dX1_isPair_11 ⟨(Nat.le_of_ble_eq_true rfl), (Nat.le_of_ble_eq_true rfl)⟩) hD hS hA (fun r11 u11 H locs hw11 hP hD hS => ?_)
    have hP : va_P G vwCl (Mk cI cZ h a F nq no np sh nw th wt) H := hP
    have hD : va_D A (Mk cI cZ h a F nq no np sh nw th wt) := hD
    have hw11 : r11 = b2i (p_in y nq) := hw11
    subst hw11
    refine lv_if_eq (tgt := 21) hx hb dX1_isPair_14 (by decide) (fun c14 => ?_) (fun c14 => ?_)
    · have c14 := b2i_0.mp c14
      refine lv_iconst (v := 1) hx hb dX1_isPair_21 (by decide) ?_
      refine va_put (ci := 1) (v := .int 1) (ty := .int) (C := RX1) (T := TX1) (N := 18) hx hb hts hin tyX1 tyX1_ok nmX1 hown hK hP hD hS 0 rfl rfl 0 (by decide) (hts (.fieldLink RX1 47 "CurfewDeskModel" "thrown" "I") (by decide +kernel)) (fun _ h9 => h9) rfl (by decide +kernel) rfl rfl (Nat.le_of_ble_eq_true rfl) dX1_isPair_22 (fun H locs hP hD hS => ?_)
      have hP : va_P G vwCl (Mk cI cZ h a F nq no np sh nw 1 wt) H := hP
      have hD : va_D A (Mk cI cZ h a F nq no np sh nw 1 wt) := hD
      refine lv_aload_n hx hb dX1_isPair_25 rfl (lv_at hl 0 rfl) ?_
      refine va_get (ci := 1) (v := .int 1) (C := RX1) (T := TX1) (N := 18) hx hb hts hin hown hK hP 0 rfl rfl 0 (by decide) (hts (.fieldLink RX1 47 "CurfewDeskModel" "thrown" "I") (by decide +kernel)) (fun _ h9 => h9) rfl dX1_isPair_26 ?_
      refine w_selN (v1 := 1) (v2 := 0) hx hb dX1_isPair_29 (by decide) dX1_isPair_32 (by decide) dX1_isPair_33 (by decide) dX1_isPair_36 (by decide) ?_
      rw [b2i_nz]
      have hk : k1 (p_in x np && p_in y nq) = 1 := by rw [c6, c14]; rfl
      have hP : va_P G vwCl (Mk cI cZ h a F nq no np sh nw (k1 (p_in x np && p_in y nq)) wt) H := by (simp only [hk]); exact hP
      have hD : va_D A (Mk cI cZ h a F nq no np sh nw (k1 (p_in x np && p_in y nq)) wt) := by (simp only [hk]); exact hD
      exact w_zret () hx hb hr hlocks hK hP hD hS (Nat.le_of_ble_eq_true rfl) (Nat.le_of_ble_eq_true rfl) dX1_isPair_37 (b2i_n _) (show (b2i (decide (1 = 0))) = b2i (p_in x np && p_in y nq) from by rw [c6, c14]; simp [b2i])
    · have c14 := b2i_1.mp c14
      refine lv_iconst (v := 0) hx hb dX1_isPair_17 (by decide) ?_
      refine lv_goto (tgt := 22) hx hb dX1_isPair_18 (by decide) ?_
      refine va_put (ci := 1) (v := .int 0) (ty := .int) (C := RX1) (T := TX1) (N := 18) hx hb hts hin tyX1 tyX1_ok nmX1 hown hK hP hD hS 0 rfl rfl 0 (by decide) (hts (.fieldLink RX1 47 "CurfewDeskModel" "thrown" "I") (by decide +kernel)) (fun _ h9 => h9) rfl (by decide +kernel) rfl rfl (Nat.le_of_ble_eq_true rfl) dX1_isPair_22 (fun H locs hP hD hS => ?_)
      have hP : va_P G vwCl (Mk cI cZ h a F nq no np sh nw 0 wt) H := hP
      have hD : va_D A (Mk cI cZ h a F nq no np sh nw 0 wt) := hD
      refine lv_aload_n hx hb dX1_isPair_25 rfl (lv_at hl 0 rfl) ?_
      refine va_get (ci := 1) (v := .int 0) (C := RX1) (T := TX1) (N := 18) hx hb hts hin hown hK hP 0 rfl rfl 0 (by decide) (hts (.fieldLink RX1 47 "CurfewDeskModel" "thrown" "I") (by decide +kernel)) (fun _ h9 => h9) rfl dX1_isPair_26 ?_
      refine w_selN (v1 := 1) (v2 := 0) hx hb dX1_isPair_29 (by decide) dX1_isPair_32 (by decide) dX1_isPair_33 (by decide) dX1_isPair_36 (by decide) ?_
      rw [b2i_nz]
      have hk : k1 (p_in x np && p_in y nq) = 0 := by rw [c6, c14]; rfl
      have hP : va_P G vwCl (Mk cI cZ h a F nq no np sh nw (k1 (p_in x np && p_in y nq)) wt) H := by (simp only [hk]); exact hP
      have hD : va_D A (Mk cI cZ h a F nq no np sh nw (k1 (p_in x np && p_in y nq)) wt) := by (simp only [hk]); exact hD
      exact w_zret () hx hb hr hlocks hK hP hD hS (Nat.le_of_ble_eq_true rfl) (Nat.le_of_ble_eq_true rfl) dX1_isPair_37 (b2i_n _) (show (b2i (decide (0 = 0))) = b2i (p_in x np && p_in y nq) from by rw [c6, c14]; simp [b2i])
set_option maxHeartbeats 4000000 in
set_option maxRecDepth 100000 in
theorem c_X1_missing (l : Launch) (G : va_G) (cI cZ : ClassId) (h : Nat) (a : Nat → Nat) (F : Nat → Nat → Int32) (nq no np : Nat) (sh nw : Int32) (th : Int32) (wt : Nat → Int32) (sz : Nat) (p : Nat) (q : Int32) (hp : p < 20) (hno : no ≤ 10) (H3 : ∀ o, o < no → ∃ c, c < 4 ∧ F 3 o = nI c) : Met l yX1_missing wsX1_missing ({ frames := 5, cells := 0, slots := 0, locals := 112 } : Room) (va_Pc [.ref h, .int (nI p), .int q] (wPre G (ty2 cI cZ) (Mk cI cZ h a F nq no np sh nw th wt) sz)) (va_Qi (fun (r : Int32) (_ : Nat → Int32) => r = p_miss F sh no p q nw (-1)) (fun u => wP G (ty2 cI cZ) (Mk cI cZ h a F nq no np sh nw th u) (va_A (Mk cI cZ h a F nq no np sh nw th wt) sz)) (va_A (Mk cI cZ h a F nq no np sh nw th wt) sz)) 0 0 (va_A (Mk cI cZ h a F nq no np sh nw th wt) sz) := by
  refine w_met (cc := cX1_missing) (maxL := 5) (ret := (some .int)) (by decide) rfl (Nat.le_of_ble_eq_true rfl) ?_
  intro pg e s m below meth cd hx hb hml hr hts hown hlocks hnm hK hsz hP hD hA hS ls hl
  have hown : s.vm.findClass RX1 = some m.cls := hown
  have hin : ∀ w ∈ wsX10, w ∈ wsX1_missing := by decide +kernel
  have hl : lv_has ls 5 [(0, .ref h), (1, .int (nI p)), (2, .int q)] := hl
  generalize hAe : va_A (Mk cI cZ h a F nq no np sh nw th wt) sz = A at hD hA hS ⊢
  refine lv_iconst (v := 0) hx hb dX1_missing_0 (by decide) ?_
  refine lv_istore_n (lv' := [(3, .int 0), (0, .ref h), (1, .int (nI p)), (2, .int q)]) hx hb dX1_missing_1 rfl hl (by decide) rfl (fun ls hl => ?_)
  have key2 : ∀ (n i2 : Nat), i2 ≤ 4 → 4 < i2 + n → ∀ (x3 : Int32), x3 = nI i2 → ∀ (H : Heap) (locs : List Loc), va_P G vwCl (Mk cI cZ h a F nq no np sh nw th (p_w0 F wt p i2)) H → va_D A (Mk cI cZ h a F nq no np sh nw th (p_w0 F wt p i2)) → va_S A s.heap H locs → ∀ ls : Array Slot, lv_has ls 5 [(0, .ref h), (1, .int (nI p)), (2, .int q), (3, .int x3)] → W pg l e ({ frames := 5, cells := 0, slots := 0, locals := 112 } : Room) s m ([.ref h, .int (nI p), .int q] : List Value).toArray below meth cd H locs (0) (0) (MQ below (va_Qi (fun (r : Int32) (_ : Nat → Int32) => r = p_miss F sh no p q nw (-1)) (fun u => wP G (ty2 cI cZ) (Mk cI cZ h a F nq no np sh nw th u) A) A) ([.ref h, .int (nI p), .int q] : List Value).toArray s 0 0 A) (F0 m 2 ls []) := by
    intro n
    induction n with
    | zero => intro i2 h1 h2; exact absurd h2 (by omega)
    | succ n ih2 =>
      intro i2 hi_i2 hn_i2 x3 e3 H locs hP hD hS ls hl
      subst e3
      refine lv_iload_n hx hb dX1_missing_2 rfl (lv_at hl 3 rfl) ?_
      refine lv_iconst (v := 4) hx hb dX1_missing_3 (by decide) ?_
      refine lv_icmp_ge (tgt := 30) hx hb dX1_missing_4 (by decide) (fun c4 => ?_) (fun c4 => ?_)
      · have c4 := (nI_leI (a := 4) (b := i2) (by omega) (by omega)).mp c4
        have ei : 4 = i2 := by omega
        subst ei
        refine lv_iconst (v := 0) hx hb dX1_missing_30 (by decide) ?_
        refine lv_istore_n (lv' := [(3, .int 0), (0, .ref h), (1, .int (nI p)), (2, .int q)]) hx hb dX1_missing_31 rfl hl (by decide) rfl (fun ls hl => ?_)
        have key32 : ∀ (n i32 : Nat), i32 ≤ no → no < i32 + n → ∀ (x3 : Int32), x3 = nI i32 → ∀ (H : Heap) (locs : List Loc), va_P G vwCl (Mk cI cZ h a F nq no np sh nw th (p_w1 F sh (p_w0 F wt p 4) p q nw i32)) H → va_D A (Mk cI cZ h a F nq no np sh nw th (p_w1 F sh (p_w0 F wt p 4) p q nw i32)) → va_S A s.heap H locs → ∀ ls : Array Slot, lv_has ls 5 [(0, .ref h), (1, .int (nI p)), (2, .int q), (3, .int x3)] → W pg l e ({ frames := 5, cells := 0, slots := 0, locals := 112 } : Room) s m ([.ref h, .int (nI p), .int q] : List Value).toArray below meth cd H locs (0) (0) (MQ below (va_Qi (fun (r : Int32) (_ : Nat → Int32) => r = p_miss F sh no p q nw (-1)) (fun u => wP G (ty2 cI cZ) (Mk cI cZ h a F nq no np sh nw th u) A) A) ([.ref h, .int (nI p), .int q] : List Value).toArray s 0 0 A) (F0 m 32 ls []) := by
          intro n
          induction n with
          | zero => intro i32 h1 h2; exact absurd h2 (by omega)
          | succ n ih32 =>
            intro i32 hi_i32 hn_i32 x3 e3 H locs hP hD hS ls hl
            subst e3
            refine lv_iload_n hx hb dX1_missing_32 rfl (lv_at hl 3 rfl) ?_
            refine lv_aload_n hx hb dX1_missing_33 rfl (lv_at hl 0 rfl) ?_
            refine va_get (ci := 1) (v := .int (nI no)) (C := RX1) (T := TX1) (N := 18) hx hb hts hin hown hK hP 0 rfl rfl 4 (by decide) (hts (.fieldLink RX1 58 "CurfewDeskModel" "orders" "I") (by decide +kernel)) (fun _ h9 => h9) rfl dX1_missing_34 ?_
            refine lv_icmp_ge (tgt := 75) hx hb dX1_missing_37 (by decide) (fun c37 => ?_) (fun c37 => ?_)
            · have c37 := (nI_leI (a := no) (b := i32) (by omega) (by omega)).mp c37
              have ei : no = i32 := by omega
              subst ei
              refine lv_iconst (v := 0) hx hb dX1_missing_75 (by decide) ?_
              refine lv_istore_n (lv' := [(3, .int 0), (0, .ref h), (1, .int (nI p)), (2, .int q)]) hx hb dX1_missing_76 rfl hl (by decide) rfl (fun ls hl => ?_)
              refine lv_iconst (v := 0) hx hb dX1_missing_77 (by decide) ?_
              refine lv_istore (lv' := [(4, .int 0), (3, .int 0), (0, .ref h), (1, .int (nI p)), (2, .int q)]) hx hb dX1_missing_78 hl (by decide) rfl (fun ls hl => ?_)
              have key80 : ∀ (n i80 : Nat), i80 ≤ 4 → 4 < i80 + n → ∀ (x3 : Int32) (x4 : Int32), x3 = p_sm (fun c => p_max0 (p_w1 F sh (p_w0 F wt p 4) p q nw no c)) i80 → x4 = nI i80 → ∀ (H : Heap) (locs : List Loc), va_P G vwCl (Mk cI cZ h a F nq no np sh nw th (p_w1 F sh (p_w0 F wt p 4) p q nw no)) H → va_D A (Mk cI cZ h a F nq no np sh nw th (p_w1 F sh (p_w0 F wt p 4) p q nw no)) → va_S A s.heap H locs → ∀ ls : Array Slot, lv_has ls 5 [(0, .ref h), (1, .int (nI p)), (2, .int q), (3, .int x3), (4, .int x4)] → W pg l e ({ frames := 5, cells := 0, slots := 0, locals := 112 } : Room) s m ([.ref h, .int (nI p), .int q] : List Value).toArray below meth cd H locs (0) (0) (MQ below (va_Qi (fun (r : Int32) (_ : Nat → Int32) => r = p_miss F sh no p q nw (-1)) (fun u => wP G (ty2 cI cZ) (Mk cI cZ h a F nq no np sh nw th u) A) A) ([.ref h, .int (nI p), .int q] : List Value).toArray s 0 0 A) (F0 m 80 ls []) := by
                intro n
                induction n with
                | zero => intro i80 h1 h2; exact absurd h2 (by omega)
                | succ n ih80 =>
                  intro i80 hi_i80 hn_i80 x3 x4 e3 e4 H locs hP hD hS ls hl
                  subst e3 e4
                  refine lv_iload hx hb dX1_missing_80 (lv_at hl 4 rfl) ?_
                  refine lv_iconst (v := 4) hx hb dX1_missing_82 (by decide) ?_
                  refine lv_icmp_ge (tgt := 106) hx hb dX1_missing_83 (by decide) (fun c83 => ?_) (fun c83 => ?_)
                  · have c83 := (nI_leI (a := 4) (b := i80) (by omega) (by omega)).mp c83
                    have ei : 4 = i80 := by omega
                    subst ei
                    refine lv_iload_n hx hb dX1_missing_106 rfl (lv_at hl 3 rfl) ?_
                    exact w_iret (p_w1 F sh (p_w0 F wt p 4) p q nw no) hx hb hr hlocks hK hP hD hS (Nat.le_of_ble_eq_true rfl) (Nat.le_of_ble_eq_true rfl) dX1_missing_107 (show (p_sm (fun c => p_max0 (p_w1 F sh (p_w0 F wt p 4) p q nw no c)) 4) = p_miss F sh no p q nw (-1) from by exact miss_eq wt hno H3)
                  · have c83 := mt (nI_leI (a := 4) (b := i80) (by omega) (by omega)).mpr c83
                    have hlt_i80 : i80 < 4 := by omega
                    refine lv_iload_n hx hb dX1_missing_86 rfl (lv_at hl 3 rfl) ?_
                    refine lv_iconst (v := 0) hx hb dX1_missing_87 (by decide) ?_
                    refine lv_aload_n hx hb dX1_missing_88 rfl (lv_at hl 0 rfl) ?_
                    refine va_get (ci := 1) (v := .ref (a 11)) (C := RX1) (T := TX1) (N := 18) hx hb hts hin hown hK hP 0 rfl rfl 17 (by decide) (hts (.fieldLink RX1 44 "CurfewDeskModel" "wanted" "[I") (by decide +kernel)) (fun _ h9 => h9) rfl dX1_missing_89 ?_
                    refine lv_iload hx hb dX1_missing_92 (lv_at hl 4 rfl) ?_
                    refine w_iald hx hb hK hP 12 0 rfl rfl (f := (p_w1 F sh (p_w0 F wt p 4) p q nw no)) (j := i80) (by omega) (by omega) dX1_missing_94 ?_
                    refine va_mmax hx hb (hml.trans hl.1.symm) hown (hts (.methodLink RX1 132 Lib.Math.max.name) (by decide +kernel)) (hts (.static Lib.Math.max.name) (by decide +kernel)) (hts (.initialized "java/lang/Math") (by decide +kernel)) (hts (.code Lib.Math.max.name Lib.Math.max.code 2 (some .int)) (by decide +kernel)) (Nat.le_of_ble_eq_true rfl) (Nat.le_of_ble_eq_true rfl) (Nat.le_of_ble_eq_true rfl) (Nat.le_of_ble_eq_true rfl) dX1_missing_95 ?_
                    rw [← p_max0]
                    refine lv_iadd hx hb dX1_missing_98 ?_
                    refine lv_istore_n (lv' := [(3, .int ((p_sm (fun c => p_max0 (p_w1 F sh (p_w0 F wt p 4) p q nw no c)) i80) + (p_max0 ((p_w1 F sh (p_w0 F wt p 4) p q nw no) i80)))), (0, .ref h), (1, .int (nI p)), (2, .int q), (4, .int (nI i80))]) hx hb dX1_missing_99 rfl hl (by decide) rfl (fun ls hl => ?_)
                    refine lv_iinc (v := nI i80 + 1) (lv' := [(4, .int (nI i80 + 1)), (3, .int ((p_sm (fun c => p_max0 (p_w1 F sh (p_w0 F wt p 4) p q nw no c)) i80) + (p_max0 ((p_w1 F sh (p_w0 F wt p 4) p q nw no) i80)))), (0, .ref h), (1, .int (nI p)), (2, .int q)]) hx hb dX1_missing_100 hl (k := 4) rfl rfl (by decide) rfl (fun ls hl => ?_)
                    refine lv_goto (tgt := 80) hx hb dX1_missing_103 (by decide) ?_
                    exact ih80 (i80 + 1) (by omega) (by omega) ((p_sm (fun c => p_max0 (p_w1 F sh (p_w0 F wt p 4) p q nw no c)) i80) + (p_max0 ((p_w1 F sh (p_w0 F wt p 4) p q nw no) i80))) (nI i80 + 1) (by rfl) (by first | exact nI_1 _ | exact nct_t (by assumption) | exact nct_f (by assumption) | exact nct_b | rfl) _ _ hP hD hS _ (lv_sub hl [2, 3, 4, 1, 0] rfl)
              exact key80 (4 + 1) 0 (by omega) (by omega) 0 0 (by first | rfl | simp [p_ct, p_sm, p_fl, p_fg, nI_0]) (by first | rfl | simp [p_ct, p_sm, p_fl, p_fg, nI_0]) _ _ hP hD hS _ (lv_sub hl [2, 3, 4, 1, 0] rfl)
            · have c37 := mt (nI_leI (a := no) (b := i32) (by omega) (by omega)).mpr c37
              have hlt_i32 : i32 < no := by omega
              refine lv_aload_n hx hb dX1_missing_40 rfl (lv_at hl 0 rfl) ?_
              refine lv_iload_n hx hb dX1_missing_41 rfl (lv_at hl 3 rfl) ?_
              refine lv_iload_n hx hb dX1_missing_42 rfl (lv_at hl 1 rfl) ?_
              refine lv_iload_n hx hb dX1_missing_43 rfl (lv_at hl 2 rfl) ?_
              refine lv_aload_n hx hb dX1_missing_44 rfl (lv_at hl 0 rfl) ?_
              refine va_get (ci := 1) (v := .int nw) (C := RX1) (T := TX1) (N := 18) hx hb hts hin hown hK hP 0 rfl rfl 1 (by decide) (hts (.fieldLink RX1 122 "CurfewDeskModel" "time" "I") (by decide +kernel)) (fun _ h9 => h9) rfl dX1_missing_45 ?_
              refine w_in_i (va_runV (As := [.int (nI i32), .int (nI p), .int q, .int nw]) (rest := []) ⟨hx, hb, hml, hown, hts⟩ (c_X1_barsAt l G cI cZ h a F nq no np sh nw th (p_w1 F sh (p_w0 F wt p 4) p q nw i32) H.size i32 p q nw (by omega) (by omega)) (cwV 4 hts gX1_missing_X1_barsAt rfl rfl rfl (by decide +kernel) ⟨(Nat.le_of_ble_eq_true rfl), (Nat.le_of_ble_eq_true rfl)⟩) ⟨wPre_blind, va_recv hK hP (ci := 1) (q0 := 0) rfl rfl, w_pre hK hP hD⟩ rfl rfl hl.1 rfl (lv_room (Nat.le_of_ble_eq_true rfl)) dX1_missing_48 ⟨(Nat.le_of_ble_eq_true rfl), (Nat.le_of_ble_eq_true rfl)⟩) hD hS hA (fun r48 u48 H locs hw48 hP hD hS => ?_)
              have hP : va_P G vwCl (Mk cI cZ h a F nq no np sh nw th (p_w1 F sh (p_w0 F wt p 4) p q nw i32)) H := hP
              have hD : va_D A (Mk cI cZ h a F nq no np sh nw th (p_w1 F sh (p_w0 F wt p 4) p q nw i32)) := hD
              have hw48 : r48 = b2i (p_bars F sh i32 p q nw) := hw48
              subst hw48
              refine lv_if_eq (tgt := 69) hx hb dX1_missing_51 (by decide) (fun c51 => ?_) (fun c51 => ?_)
              · have c51 := b2i_0.mp c51
                refine lv_iinc (v := nI i32 + 1) (lv' := [(3, .int (nI i32 + 1)), (0, .ref h), (1, .int (nI p)), (2, .int q)]) hx hb dX1_missing_69 hl (k := 3) rfl rfl (by decide) rfl (fun ls hl => ?_)
                refine lv_goto (tgt := 32) hx hb dX1_missing_72 (by decide) ?_
                have hP : va_P G vwCl (Mk cI cZ h a F nq no np sh nw th (p_w1 F sh (p_w0 F wt p 4) p q nw (i32 + 1))) H := by rw [p_w1, if_neg (by rw [c51]; decide)]; exact hP
                have hD : va_D A (Mk cI cZ h a F nq no np sh nw th (p_w1 F sh (p_w0 F wt p 4) p q nw (i32 + 1))) := by rw [p_w1, if_neg (by rw [c51]; decide)]; exact hD
                exact ih32 (i32 + 1) (by omega) (by omega) (nI i32 + 1) (by first | exact nI_1 _ | exact nct_t (by assumption) | exact nct_f (by assumption) | exact nct_b | rfl) _ _ hP hD hS _ (lv_sub hl [1, 2, 3, 0] rfl)
              · have c51 := b2i_1.mp c51
                refine lv_aload_n hx hb dX1_missing_54 rfl (lv_at hl 0 rfl) ?_
                refine va_get (ci := 1) (v := .ref (a 11)) (C := RX1) (T := TX1) (N := 18) hx hb hts hin hown hK hP 0 rfl rfl 17 (by decide) (hts (.fieldLink RX1 44 "CurfewDeskModel" "wanted" "[I") (by decide +kernel)) (fun _ h9 => h9) rfl dX1_missing_55 ?_
                refine lv_aload_n hx hb dX1_missing_58 rfl (lv_at hl 0 rfl) ?_
                refine va_get (ci := 1) (v := .ref (a 3)) (C := RX1) (T := TX1) (N := 18) hx hb hts hin hown hK hP 0 rfl rfl 9 (by decide) (hts (.fieldLink RX1 19 "CurfewDeskModel" "colour" "[I") (by decide +kernel)) (fun _ h9 => h9) rfl dX1_missing_59 ?_
                refine lv_iload_n hx hb dX1_missing_62 rfl (lv_at hl 3 rfl) ?_
                refine w_iald hx hb hK hP 4 0 rfl rfl (f := (F 3)) (j := i32) (by omega) (by omega) dX1_missing_63 ?_
                obtain ⟨k, hk, ek⟩ := H3 i32 hlt_i32
                rw [ek]
                refine lv_dup2_11 hx hb dX1_missing_64 rfl rfl ?_
                refine w_iald hx hb hK hP 12 0 rfl rfl (f := (p_w1 F sh (p_w0 F wt p 4) p q nw i32)) (j := k) (by omega) (by omega) dX1_missing_65 ?_
                refine lv_iconst (v := 1) hx hb dX1_missing_66 (by decide) ?_
                refine lv_iadd hx hb dX1_missing_67 ?_
                refine w_iast hx hb hK hP hD hS 12 0 rfl rfl (f := (p_w1 F sh (p_w0 F wt p 4) p q nw i32)) (j := k) (by omega) (by omega) dX1_missing_68 (fun H locs hP hD hS => ?_)
                have hP : va_P G vwCl (Mk cI cZ h a F nq no np sh nw th (upd (p_w1 F sh (p_w0 F wt p 4) p q nw i32) k (((p_w1 F sh (p_w0 F wt p 4) p q nw i32) k) + 1))) H := hP
                have hD : va_D A (Mk cI cZ h a F nq no np sh nw th (upd (p_w1 F sh (p_w0 F wt p 4) p q nw i32) k (((p_w1 F sh (p_w0 F wt p 4) p q nw i32) k) + 1))) := hD
                refine lv_iinc (v := nI i32 + 1) (lv' := [(3, .int (nI i32 + 1)), (0, .ref h), (1, .int (nI p)), (2, .int q)]) hx hb dX1_missing_69 hl (k := 3) rfl rfl (by decide) rfl (fun ls hl => ?_)
                refine lv_goto (tgt := 32) hx hb dX1_missing_72 (by decide) ?_
                have hP : va_P G vwCl (Mk cI cZ h a F nq no np sh nw th (p_w1 F sh (p_w0 F wt p 4) p q nw (i32 + 1))) H := by rw [p_w1, if_pos c51, ek, nI_clamp (show k < 2 ^ 31 by omega)]; exact hP
                have hD : va_D A (Mk cI cZ h a F nq no np sh nw th (p_w1 F sh (p_w0 F wt p 4) p q nw (i32 + 1))) := by rw [p_w1, if_pos c51, ek, nI_clamp (show k < 2 ^ 31 by omega)]; exact hD
                exact ih32 (i32 + 1) (by omega) (by omega) (nI i32 + 1) (by first | exact nI_1 _ | exact nct_t (by assumption) | exact nct_f (by assumption) | exact nct_b | rfl) _ _ hP hD hS _ (lv_sub hl [1, 2, 3, 0] rfl)
        exact key32 (no + 1) 0 (by omega) (by omega) 0 (by first | rfl | simp [p_ct, p_sm, p_fl, p_fg, nI_0]) _ _ hP hD hS _ (lv_sub hl [1, 2, 3, 0] rfl)
      · have c4 := mt (nI_leI (a := 4) (b := i2) (by omega) (by omega)).mpr c4
        have hlt_i2 : i2 < 4 := by omega
        refine lv_aload_n hx hb dX1_missing_7 rfl (lv_at hl 0 rfl) ?_
        refine va_get (ci := 1) (v := .ref (a 11)) (C := RX1) (T := TX1) (N := 18) hx hb hts hin hown hK hP 0 rfl rfl 17 (by decide) (hts (.fieldLink RX1 44 "CurfewDeskModel" "wanted" "[I") (by decide +kernel)) (fun _ h9 => h9) rfl dX1_missing_8 ?_
        refine lv_iload_n hx hb dX1_missing_11 rfl (lv_at hl 3 rfl) ?_
        refine lv_aload_n hx hb dX1_missing_12 rfl (lv_at hl 0 rfl) ?_
        refine va_get (ci := 1) (v := .ref (a 9)) (C := RX1) (T := TX1) (N := 18) hx hb hts hin hown hK hP 0 rfl rfl 15 (by decide) (hts (.fieldLink RX1 38 "CurfewDeskModel" "stamps" "[I") (by decide +kernel)) (fun _ h9 => h9) rfl dX1_missing_13 ?_
        refine lv_iconst (v := 4) hx hb dX1_missing_16 (by decide) ?_
        refine lv_iload_n hx hb dX1_missing_17 rfl (lv_at hl 1 rfl) ?_
        refine lv_imul hx hb dX1_missing_18 ?_
        refine lv_iload_n hx hb dX1_missing_19 rfl (lv_at hl 3 rfl) ?_
        refine lv_iadd hx hb dX1_missing_20 ?_
        rw [pl_eq]
        refine w_iald hx hb hK hP 10 0 rfl rfl (f := (F 9)) (j := (p * 4 + i2)) (by omega) (by omega) dX1_missing_21 ?_
        refine lv_ineg hx hb dX1_missing_22 ?_
        refine w_iast hx hb hK hP hD hS 12 0 rfl rfl (f := (p_w0 F wt p i2)) (j := i2) (by omega) (by omega) dX1_missing_23 (fun H locs hP hD hS => ?_)
        have hP : va_P G vwCl (Mk cI cZ h a F nq no np sh nw th (upd (p_w0 F wt p i2) i2 (-((F 9) (p * 4 + i2))))) H := hP
        have hD : va_D A (Mk cI cZ h a F nq no np sh nw th (upd (p_w0 F wt p i2) i2 (-((F 9) (p * 4 + i2))))) := hD
        refine lv_iinc (v := nI i2 + 1) (lv' := [(3, .int (nI i2 + 1)), (0, .ref h), (1, .int (nI p)), (2, .int q)]) hx hb dX1_missing_24 hl (k := 3) rfl rfl (by decide) rfl (fun ls hl => ?_)
        refine lv_goto (tgt := 2) hx hb dX1_missing_27 (by decide) ?_
        exact ih2 (i2 + 1) (by omega) (by omega) (nI i2 + 1) (by first | exact nI_1 _ | exact nct_t (by assumption) | exact nct_f (by assumption) | exact nct_b | rfl) _ _ hP hD hS _ (lv_sub hl [1, 2, 3, 0] rfl)
  exact key2 (4 + 1) 0 (by omega) (by omega) 0 (by first | rfl | simp [p_ct, p_sm, p_fl, p_fg, nI_0]) _ _ hP hD hS _ (lv_sub hl [1, 2, 3, 0] rfl)
set_option maxHeartbeats 4000000 in
set_option maxRecDepth 100000 in
theorem c_X1_pairs (l : Launch) (G : va_G) (cI cZ : ClassId) (h : Nat) (a : Nat → Nat) (F : Nat → Nat → Int32) (nq no np : Nat) (sh nw : Int32) (th : Int32) (wt : Nat → Int32) (sz : Nat) (hno : no ≤ 10) (hnp : np ≤ 20) (hnq : nq ≤ 6) (H3 : ∀ o, o < no → ∃ c, c < 4 ∧ F 3 o = nI c) : Met l yX1_pairs wsX1_pairs ({ frames := 6, cells := 0, slots := 0, locals := 136 } : Room) (va_Pc [.ref h] (wPre G (ty2 cI cZ) (Mk cI cZ h a F nq no np sh nw th wt) sz)) (va_Qi (fun (r : Int32) (_ : Nat → Int32) => r = nI (p_pr F sh nq no np nw)) (fun u => wP G (ty2 cI cZ) (Mk cI cZ h a F nq no np sh nw th u) (va_A (Mk cI cZ h a F nq no np sh nw th wt) sz)) (va_A (Mk cI cZ h a F nq no np sh nw th wt) sz)) 0 0 (va_A (Mk cI cZ h a F nq no np sh nw th wt) sz) := by
  refine w_met (cc := cX1_pairs) (maxL := 4) (ret := (some .int)) (by decide) rfl (Nat.le_of_ble_eq_true rfl) ?_
  intro pg e s m below meth cd hx hb hml hr hts hown hlocks hnm hK hsz hP hD hA hS ls hl
  have hown : s.vm.findClass RX1 = some m.cls := hown
  have hin : ∀ w ∈ wsX10, w ∈ wsX1_pairs := by decide +kernel
  have hl : lv_has ls 4 [(0, .ref h)] := hl
  generalize hAe : va_A (Mk cI cZ h a F nq no np sh nw th wt) sz = A at hD hA hS ⊢
  refine lv_iconst (v := 0) hx hb dX1_pairs_0 (by decide) ?_
  refine lv_istore_n (lv' := [(1, .int 0), (0, .ref h)]) hx hb dX1_pairs_1 rfl hl (by decide) rfl (fun ls hl => ?_)
  refine lv_iconst (v := 0) hx hb dX1_pairs_2 (by decide) ?_
  refine lv_istore_n (lv' := [(2, .int 0), (1, .int 0), (0, .ref h)]) hx hb dX1_pairs_3 rfl hl (by decide) rfl (fun ls hl => ?_)
  have key4 : ∀ (n i4 : Nat), i4 ≤ np → np < i4 + n → ∀ (x1 : Int32) (x2 : Int32), x1 = nI (p_sn (fun p => p_ct (p_pq F sh no nw p) nq) i4) → x2 = nI i4 → ∀ (w4 : Nat → Int32) (H : Heap) (locs : List Loc), va_P G vwCl (Mk cI cZ h a F nq no np sh nw th w4) H → va_D A (Mk cI cZ h a F nq no np sh nw th w4) → va_S A s.heap H locs → ∀ ls : Array Slot, lv_has ls 4 [(0, .ref h), (1, .int x1), (2, .int x2)] → W pg l e ({ frames := 6, cells := 0, slots := 0, locals := 136 } : Room) s m ([.ref h] : List Value).toArray below meth cd H locs (0) (0) (MQ below (va_Qi (fun (r : Int32) (_ : Nat → Int32) => r = nI (p_pr F sh nq no np nw)) (fun u => wP G (ty2 cI cZ) (Mk cI cZ h a F nq no np sh nw th u) A) A) ([.ref h] : List Value).toArray s 0 0 A) (F0 m 4 ls []) := by
    intro n
    induction n with
    | zero => intro i4 h1 h2; exact absurd h2 (by omega)
    | succ n ih4 =>
      intro i4 hi_i4 hn_i4 x1 x2 e1 e2 w4 H locs hP hD hS ls hl
      subst e1 e2
      refine lv_iload_n hx hb dX1_pairs_4 rfl (lv_at hl 2 rfl) ?_
      refine lv_aload_n hx hb dX1_pairs_5 rfl (lv_at hl 0 rfl) ?_
      refine va_get (ci := 1) (v := .int (nI np)) (C := RX1) (T := TX1) (N := 18) hx hb hts hin hown hK hP 0 rfl rfl 5 (by decide) (hts (.fieldLink RX1 61 "CurfewDeskModel" "people" "I") (by decide +kernel)) (fun _ h9 => h9) rfl dX1_pairs_6 ?_
      refine lv_icmp_ge (tgt := 51) hx hb dX1_pairs_9 (by decide) (fun c9 => ?_) (fun c9 => ?_)
      · have c9 := (nI_leI (a := np) (b := i4) (by omega) (by omega)).mp c9
        have ei : np = i4 := by omega
        subst ei
        refine lv_iload_n hx hb dX1_pairs_51 rfl (lv_at hl 1 rfl) ?_
        exact w_iret w4 hx hb hr hlocks hK hP hD hS (Nat.le_of_ble_eq_true rfl) (Nat.le_of_ble_eq_true rfl) dX1_pairs_52 (show (nI (p_sn (fun p => p_ct (p_pq F sh no nw p) nq) np)) = nI (p_pr F sh nq no np nw) from by rfl)
      · have c9 := mt (nI_leI (a := np) (b := i4) (by omega) (by omega)).mpr c9
        have hlt_i4 : i4 < np := by omega
        refine lv_iconst (v := 0) hx hb dX1_pairs_12 (by decide) ?_
        refine lv_istore_n (lv' := [(3, .int 0), (0, .ref h), (1, .int (nI (p_sn (fun p => p_ct (p_pq F sh no nw p) nq) i4))), (2, .int (nI i4))]) hx hb dX1_pairs_13 rfl hl (by decide) rfl (fun ls hl => ?_)
        have key14 : ∀ (n i14 : Nat), i14 ≤ nq → nq < i14 + n → ∀ (x1 : Int32) (x3 : Int32), x1 = nI (p_sn (fun p => p_ct (p_pq F sh no nw p) nq) i4) + nI (p_ct (p_pq F sh no nw i4) i14) → x3 = nI i14 → ∀ (w14 : Nat → Int32) (H : Heap) (locs : List Loc), va_P G vwCl (Mk cI cZ h a F nq no np sh nw th w14) H → va_D A (Mk cI cZ h a F nq no np sh nw th w14) → va_S A s.heap H locs → ∀ ls : Array Slot, lv_has ls 4 [(0, .ref h), (1, .int x1), (2, .int (nI i4)), (3, .int x3)] → W pg l e ({ frames := 6, cells := 0, slots := 0, locals := 136 } : Room) s m ([.ref h] : List Value).toArray below meth cd H locs (0) (0) (MQ below (va_Qi (fun (r : Int32) (_ : Nat → Int32) => r = nI (p_pr F sh nq no np nw)) (fun u => wP G (ty2 cI cZ) (Mk cI cZ h a F nq no np sh nw th u) A) A) ([.ref h] : List Value).toArray s 0 0 A) (F0 m 14 ls []) := by
          intro n
          induction n with
          | zero => intro i14 h1 h2; exact absurd h2 (by omega)
          | succ n ih14 =>
            intro i14 hi_i14 hn_i14 x1 x3 e1 e3 w14 H locs hP hD hS ls hl
            subst e1 e3
            refine lv_iload_n hx hb dX1_pairs_14 rfl (lv_at hl 3 rfl) ?_
            refine lv_aload_n hx hb dX1_pairs_15 rfl (lv_at hl 0 rfl) ?_
            refine va_get (ci := 1) (v := .int (nI nq)) (C := RX1) (T := TX1) (N := 18) hx hb hts hin hown hK hP 0 rfl rfl 3 (by decide) (hts (.fieldLink RX1 51 "CurfewDeskModel" "quarters" "I") (by decide +kernel)) (fun _ h9 => h9) rfl dX1_pairs_16 ?_
            refine lv_icmp_ge (tgt := 45) hx hb dX1_pairs_19 (by decide) (fun c19 => ?_) (fun c19 => ?_)
            · have c19 := (nI_leI (a := nq) (b := i14) (by omega) (by omega)).mp c19
              have ei : nq = i14 := by omega
              subst ei
              refine lv_iinc (v := nI i4 + 1) (lv' := [(2, .int (nI i4 + 1)), (0, .ref h), (1, .int (nI (p_sn (fun p => p_ct (p_pq F sh no nw p) nq) i4) + nI (p_ct (p_pq F sh no nw i4) nq))), (3, .int (nI nq))]) hx hb dX1_pairs_45 hl (k := 2) rfl rfl (by decide) rfl (fun ls hl => ?_)
              refine lv_goto (tgt := 4) hx hb dX1_pairs_48 (by decide) ?_
              exact ih4 (i4 + 1) (by omega) (by omega) (nI (p_sn (fun p => p_ct (p_pq F sh no nw p) nq) i4) + nI (p_ct (p_pq F sh no nw i4) nq)) (nI i4 + 1) (by rw [nI_add]; rfl) (by first | exact nI_1 _ | exact nct_t (by assumption) | exact nct_f (by assumption) | exact nct_b | rfl) w14 _ _ hP hD hS _ (lv_sub hl [1, 2, 0] rfl)
            · have c19 := mt (nI_leI (a := nq) (b := i14) (by omega) (by omega)).mpr c19
              have hlt_i14 : i14 < nq := by omega
              refine lv_iload_n hx hb dX1_pairs_22 rfl (lv_at hl 1 rfl) ?_
              refine lv_aload_n hx hb dX1_pairs_23 rfl (lv_at hl 0 rfl) ?_
              refine lv_iload_n hx hb dX1_pairs_24 rfl (lv_at hl 2 rfl) ?_
              refine lv_iload_n hx hb dX1_pairs_25 rfl (lv_at hl 3 rfl) ?_
              refine w_in_i (va_runV (As := [.int (nI i4), .int (nI i14)]) (rest := [.int (nI (p_sn (fun p => p_ct (p_pq F sh no nw p) nq) i4) + nI (p_ct (p_pq F sh no nw i4) i14))]) ⟨hx, hb, hml, hown, hts⟩ (c_X1_missing l G cI cZ h a F nq no np sh nw th w14 H.size i4 (nI i14) (by omega) (by omega) (H3)) (cwV 2 hts gX1_pairs_X1_missing rfl rfl rfl (by decide +kernel) ⟨(Nat.le_of_ble_eq_true rfl), (Nat.le_of_ble_eq_true rfl)⟩) ⟨wPre_blind, va_recv hK hP (ci := 1) (q0 := 0) rfl rfl, w_pre hK hP hD⟩ rfl rfl hl.1 rfl (lv_room (Nat.le_of_ble_eq_true rfl)) dX1_pairs_26 ⟨(Nat.le_of_ble_eq_true rfl), (Nat.le_of_ble_eq_true rfl)⟩) hD hS hA (fun r26 u26 H locs hw26 hP hD hS => ?_)
              have hP : va_P G vwCl (Mk cI cZ h a F nq no np sh nw th u26) H := hP
              have hD : va_D A (Mk cI cZ h a F nq no np sh nw th u26) := hD
              have hw26 : r26 = p_miss F sh no i4 (nI i14) nw (-1) := hw26
              subst hw26
              refine w_selN (v1 := 1) (v2 := 0) hx hb dX1_pairs_29 (by decide) dX1_pairs_32 (by decide) dX1_pairs_33 (by decide) dX1_pairs_36 (by decide) ?_
              rw [b2i_nz]
              refine lv_iadd hx hb dX1_pairs_37 ?_
              refine lv_istore_n (lv' := [(1, .int ((nI (p_sn (fun p => p_ct (p_pq F sh no nw p) nq) i4) + nI (p_ct (p_pq F sh no nw i4) i14)) + (b2i (decide (p_miss F sh no i4 (nI i14) nw (-1) = 0))))), (0, .ref h), (2, .int (nI i4)), (3, .int (nI i14))]) hx hb dX1_pairs_38 rfl hl (by decide) rfl (fun ls hl => ?_)
              refine lv_iinc (v := nI i14 + 1) (lv' := [(3, .int (nI i14 + 1)), (1, .int ((nI (p_sn (fun p => p_ct (p_pq F sh no nw p) nq) i4) + nI (p_ct (p_pq F sh no nw i4) i14)) + (b2i (decide (p_miss F sh no i4 (nI i14) nw (-1) = 0))))), (0, .ref h), (2, .int (nI i4))]) hx hb dX1_pairs_39 hl (k := 3) rfl rfl (by decide) rfl (fun ls hl => ?_)
              refine lv_goto (tgt := 14) hx hb dX1_pairs_42 (by decide) ?_
              exact ih14 (i14 + 1) (by omega) (by omega) ((nI (p_sn (fun p => p_ct (p_pq F sh no nw p) nq) i4) + nI (p_ct (p_pq F sh no nw i4) i14)) + (b2i (decide (p_miss F sh no i4 (nI i14) nw (-1) = 0)))) (nI i14 + 1) (by rw [Int32.add_assoc]; congr 1; exact nct_b) (by first | exact nI_1 _ | exact nct_t (by assumption) | exact nct_f (by assumption) | exact nct_b | rfl) u26 _ _ hP hD hS _ (lv_sub hl [2, 1, 3, 0] rfl)
        exact key14 (nq + 1) 0 (by omega) (by omega) (nI (p_sn (fun p => p_ct (p_pq F sh no nw p) nq) i4)) 0 (by rw [show nI (p_ct (p_pq F sh no nw i4) 0) = 0 from nI_0, Int32.add_zero]) (by first | rfl | simp [p_ct, p_sm, p_fl, p_fg, nI_0]) w4 _ _ hP hD hS _ (lv_sub hl [1, 2, 3, 0] rfl)
  exact key4 (np + 1) 0 (by omega) (by omega) 0 0 (by first | rfl | simp [p_ct, p_sm, p_fl, p_fg, nI_0]) (by first | rfl | simp [p_ct, p_sm, p_fl, p_fg, nI_0]) wt _ _ hP hD hS _ (lv_sub hl [2, 1, 0] rfl)
