set_option maxHeartbeats 4000000 in
set_option maxRecDepth 100000 in
theorem c_X0_tideOf (l : Launch) (G : va_G) (sz : Nat) (d : Int32) : Met l yX0_tideOf wsX0_tideOf ({ frames := 0, cells := 0, slots := 0, locals := 0 } : Room) (va_Pc [.int d] (wPre G [] [] sz)) (va_Qi (fun (r : Int32) (_ : Unit) => r = p_tide d) (fun _ => wP G [] [] (va_A [] sz)) (va_A [] sz)) 0 0 (va_A [] sz) := by
  refine w_met (cc := cX0_tideOf) (maxL := 2) (ret := (some .int)) (by decide) rfl (Nat.le_of_ble_eq_true rfl) ?_
  intro pg e s m below meth cd hx hb hml hr hts hown hlocks hnm hK hsz hP hD hA hS ls hl
  have hown : s.vm.findClass RX0 = some m.cls := hown
  have hl : lv_has ls 2 [(0, .int d)] := hl
  generalize hAe : va_A [] sz = A at hD hA hS ⊢
  refine lv_iload_n hx hb dX0_tideOf_0 rfl (lv_at hl 0 rfl) ?_
  refine lv_bipush (v := 40) hx hb dX0_tideOf_1 (by decide) ?_
  refine lv_irem hx hb dX0_tideOf_3 (by decide) ?_
  refine lv_istore_n (lv' := [(1, .int (d - d / 40 * 40)), (0, .int d)]) hx hb dX0_tideOf_4 rfl hl (by decide) rfl (fun ls hl => ?_)
  refine lv_iload_n hx hb dX0_tideOf_5 rfl (lv_at hl 0 rfl) ?_
  refine lv_bipush (v := 20) hx hb dX0_tideOf_6 (by decide) ?_
  refine lv_icmp_ge (tgt := 15) hx hb dX0_tideOf_8 (by decide) (fun c8 => ?_) (fun c8 => ?_)
  · refine lv_bipush (v := 39) hx hb dX0_tideOf_15 (by decide) ?_
    refine lv_iload_n hx hb dX0_tideOf_17 rfl (lv_at hl 0 rfl) ?_
    refine lv_isub hx hb dX0_tideOf_18 ?_
    refine lv_iconst (v := 4) hx hb dX0_tideOf_19 (by decide) ?_
    refine lv_idiv hx hb dX0_tideOf_20 (by decide) ?_
    exact w_iret () hx hb hr hlocks hK hP hD hS (Nat.le_of_ble_eq_true rfl) (Nat.le_of_ble_eq_true rfl) dX0_tideOf_21 (show ((39 - (d - d / 40 * 40)) / 4) = p_tide d from by first | rw [p_tide, if_pos c8] | rw [p_tide, if_neg c8])
  · refine lv_iload_n hx hb dX0_tideOf_11 rfl (lv_at hl 0 rfl) ?_
    refine lv_iconst (v := 4) hx hb dX0_tideOf_12 (by decide) ?_
    refine lv_idiv hx hb dX0_tideOf_13 (by decide) ?_
    exact w_iret () hx hb hr hlocks hK hP hD hS (Nat.le_of_ble_eq_true rfl) (Nat.le_of_ble_eq_true rfl) dX0_tideOf_14 (show ((d - d / 40 * 40) / 4) = p_tide d from by first | rw [p_tide, if_pos c8] | rw [p_tide, if_neg c8])
set_option maxHeartbeats 4000000 in
set_option maxRecDepth 100000 in
theorem c_X0_duskOf (l : Launch) (G : va_G) (cI cZ : ClassId) (h : Nat) (a : Nat → Nat) (F : Nat → Nat → Int32) (nq no np : Nat) (sh nw : Int32) (sz : Nat) (d : Int32) : Met l yX0_duskOf wsX0_duskOf ({ frames := 1, cells := 0, slots := 0, locals := 21 } : Room) (va_Pc [.ref h, .int d] (wPre G (ty2 cI cZ) (Dk cI cZ h a F nq no np sh nw) sz)) (va_Qi (fun (r : Int32) (_ : Unit) => r = p_dusk d sh) (fun _ => wP G (ty2 cI cZ) (Dk cI cZ h a F nq no np sh nw) (va_A (Dk cI cZ h a F nq no np sh nw) sz)) (va_A (Dk cI cZ h a F nq no np sh nw) sz)) 0 0 (va_A (Dk cI cZ h a F nq no np sh nw) sz) := by
  refine w_met (cc := cX0_duskOf) (maxL := 2) (ret := (some .int)) (by decide) rfl (Nat.le_of_ble_eq_true rfl) ?_
  intro pg e s m below meth cd hx hb hml hr hts hown hlocks hnm hK hsz hP hD hA hS ls hl
  have hown : s.vm.findClass RX0 = some m.cls := hown
  have hin : ∀ w ∈ wsX00, w ∈ wsX0_duskOf := by decide +kernel
  have hl : lv_has ls 2 [(0, .ref h), (1, .int d)] := hl
  generalize hAe : va_A (Dk cI cZ h a F nq no np sh nw) sz = A at hD hA hS ⊢
  refine lv_bipush (v := 34) hx hb dX0_duskOf_0 (by decide) ?_
  refine lv_iload_n hx hb dX0_duskOf_2 rfl (lv_at hl 1 rfl) ?_
  refine w_st_i (va_runS (As := [.int d]) (rest := [.int 34]) ⟨hx, hb, hml, hown, hts⟩ (c_X0_tideOf l G s.heap.size d ) (va_cwS 1 hts gX0_duskOf_X0_tideOf rfl rfl rfl (by decide +kernel) ⟨(Nat.le_of_ble_eq_true rfl), (Nat.le_of_ble_eq_true rfl)⟩) ⟨wPre_blind, w_pre (hK.sub [] rfl) w_P0 (w_D0 (A := A))⟩ rfl rfl hl.1 rfl (lv_room (Nat.le_of_ble_eq_true rfl)) dX0_duskOf_3 ⟨(Nat.le_of_ble_eq_true rfl), (Nat.le_of_ble_eq_true rfl)⟩) hP hS hA (fun r3 u3 H locs hw3 hP hS => ?_)
  have hw3 : r3 = p_tide d := hw3
  subst hw3
  refine lv_iadd hx hb dX0_duskOf_6 ?_
  refine lv_aload_n hx hb dX0_duskOf_7 rfl (lv_at hl 0 rfl) ?_
  refine va_get (ci := 0) (v := .int sh) (C := RX0) (T := TX0) (N := 16) hx hb hts hin hown hK hP 0 rfl rfl 14 (by decide) (hts (.fieldLink RX0 86 "CurfewDesk" "duskShift" "I") (by decide +kernel)) (fun _ h9 => h9) rfl dX0_duskOf_8 ?_
  refine lv_iadd hx hb dX0_duskOf_11 ?_
  exact w_iret () hx hb hr hlocks hK hP hD hS (Nat.le_of_ble_eq_true rfl) (Nat.le_of_ble_eq_true rfl) dX0_duskOf_12 (show ((34 + (p_tide d)) + sh) = p_dusk d sh from by rfl)
set_option maxHeartbeats 4000000 in
set_option maxRecDepth 100000 in
theorem c_X0_dawnOf (l : Launch) (G : va_G) (sz : Nat) (d : Int32) : Met l yX0_dawnOf wsX0_dawnOf ({ frames := 1, cells := 0, slots := 0, locals := 21 } : Room) (va_Pc [.int d] (wPre G [] [] sz)) (va_Qi (fun (r : Int32) (_ : Unit) => r = p_dawn d) (fun _ => wP G [] [] (va_A [] sz)) (va_A [] sz)) 0 0 (va_A [] sz) := by
  refine w_met (cc := cX0_dawnOf) (maxL := 1) (ret := (some .int)) (by decide) rfl (Nat.le_of_ble_eq_true rfl) ?_
  intro pg e s m below meth cd hx hb hml hr hts hown hlocks hnm hK hsz hP hD hA hS ls hl
  have hown : s.vm.findClass RX0 = some m.cls := hown
  have hl : lv_has ls 1 [(0, .int d)] := hl
  generalize hAe : va_A [] sz = A at hD hA hS ⊢
  refine lv_bipush (v := 14) hx hb dX0_dawnOf_0 (by decide) ?_
  refine lv_iload_n hx hb dX0_dawnOf_2 rfl (lv_at hl 0 rfl) ?_
  refine w_st_i (va_runS (As := [.int d]) (rest := [.int 14]) ⟨hx, hb, hml, hown, hts⟩ (c_X0_tideOf l G s.heap.size d ) (va_cwS 1 hts gX0_dawnOf_X0_tideOf rfl rfl rfl (by decide +kernel) ⟨(Nat.le_of_ble_eq_true rfl), (Nat.le_of_ble_eq_true rfl)⟩) ⟨wPre_blind, w_pre (hK.sub [] rfl) w_P0 (w_D0 (A := A))⟩ rfl rfl hl.1 rfl (lv_room (Nat.le_of_ble_eq_true rfl)) dX0_dawnOf_3 ⟨(Nat.le_of_ble_eq_true rfl), (Nat.le_of_ble_eq_true rfl)⟩) hP hS hA (fun r3 u3 H locs hw3 hP hS => ?_)
  have hw3 : r3 = p_tide d := hw3
  subst hw3
  refine lv_isub hx hb dX0_dawnOf_6 ?_
  exact w_iret () hx hb hr hlocks hK hP hD hS (Nat.le_of_ble_eq_true rfl) (Nat.le_of_ble_eq_true rfl) dX0_dawnOf_7 (show (14 - (p_tide d)) = p_dawn d from by rfl)
set_option maxHeartbeats 4000000 in
set_option maxRecDepth 100000 in
theorem c_X0_isInHours (l : Launch) (G : va_G) (cI cZ : ClassId) (h : Nat) (a : Nat → Nat) (F : Nat → Nat → Int32) (nq no np : Nat) (sh nw : Int32) (sz : Nat) (o : Nat) (t : Int32) (ho : o < 10) : Met l yX0_isInHours wsX0_isInHours ({ frames := 2, cells := 0, slots := 0, locals := 42 } : Room) (va_Pc [.ref h, .int (nI o), .int t] (wPre G (ty2 cI cZ) (Dk cI cZ h a F nq no np sh nw) sz)) (va_Qi (fun (r : Int32) (_ : Unit) => r = b2i (p_at F sh o t)) (fun _ => wP G (ty2 cI cZ) (Dk cI cZ h a F nq no np sh nw) (va_A (Dk cI cZ h a F nq no np sh nw) sz)) (va_A (Dk cI cZ h a F nq no np sh nw) sz)) 0 0 (va_A (Dk cI cZ h a F nq no np sh nw) sz) := by
  refine w_met (cc := cX0_isInHours) (maxL := 5) (ret := (some .boolean)) (by decide) rfl (Nat.le_of_ble_eq_true rfl) ?_
  intro pg e s m below meth cd hx hb hml hr hts hown hlocks hnm hK hsz hP hD hA hS ls hl
  have hown : s.vm.findClass RX0 = some m.cls := hown
  have hin : ∀ w ∈ wsX00, w ∈ wsX0_isInHours := by decide +kernel
  have hl : lv_has ls 5 [(0, .ref h), (1, .int (nI o)), (2, .int t)] := hl
  generalize hAe : va_A (Dk cI cZ h a F nq no np sh nw) sz = A at hD hA hS ⊢
  refine lv_iload_n hx hb dX0_isInHours_0 rfl (lv_at hl 2 rfl) ?_
  refine lv_bipush (v := 48) hx hb dX0_isInHours_1 (by decide) ?_
  refine lv_idiv hx hb dX0_isInHours_3 (by decide) ?_
  refine lv_istore_n (lv' := [(3, .int (t / 48)), (0, .ref h), (1, .int (nI o)), (2, .int t)]) hx hb dX0_isInHours_4 rfl hl (by decide) rfl (fun ls hl => ?_)
  refine lv_iload_n hx hb dX0_isInHours_5 rfl (lv_at hl 3 rfl) ?_
  refine lv_bipush (v := 48) hx hb dX0_isInHours_6 (by decide) ?_
  refine lv_irem hx hb dX0_isInHours_8 (by decide) ?_
  refine lv_istore (lv' := [(4, .int (t - t / 48 * 48)), (3, .int (t / 48)), (0, .ref h), (1, .int (nI o)), (2, .int t)]) hx hb dX0_isInHours_9 hl (by decide) rfl (fun ls hl => ?_)
  refine lv_iload hx hb dX0_isInHours_11 (lv_at hl 0 rfl) ?_
  refine lv_aload_n hx hb dX0_isInHours_13 rfl (lv_at hl 2 rfl) ?_
  refine lv_iload_n hx hb dX0_isInHours_14 rfl (lv_at hl 1 rfl) ?_
  refine w_in_i (va_runV (As := [.int (t / 48)]) (rest := [.int (t - t / 48 * 48)]) ⟨hx, hb, hml, hown, hts⟩ (c_X0_duskOf l G cI cZ h a F nq no np sh nw s.heap.size (t / 48) ) (cwV 1 hts gX0_isInHours_X0_duskOf rfl rfl rfl (by decide +kernel) ⟨(Nat.le_of_ble_eq_true rfl), (Nat.le_of_ble_eq_true rfl)⟩) ⟨wPre_blind, va_recv hK hP (ci := 0) (q0 := 0) rfl rfl, w_pre hK hP hD⟩ rfl rfl hl.1 rfl (lv_room (Nat.le_of_ble_eq_true rfl)) dX0_isInHours_15 ⟨(Nat.le_of_ble_eq_true rfl), (Nat.le_of_ble_eq_true rfl)⟩) hD hS hA (fun r15 u15 H locs hw15 hP hD hS => ?_)
  have hP : va_P G vwCl (Dk cI cZ h a F nq no np sh nw) H := hP
  have hD : va_D A (Dk cI cZ h a F nq no np sh nw) := hD
  have hw15 : r15 = p_dusk (t / 48) sh := hw15
  subst hw15
  refine lv_aload_n hx hb dX0_isInHours_18 rfl (lv_at hl 2 rfl) ?_
  refine va_get (ci := 0) (v := .ref (a 1)) (C := RX0) (T := TX0) (N := 16) hx hb hts hin hown hK hP 0 rfl rfl 1 (by decide) (hts (.fieldLink RX0 13 "CurfewDesk" "orderAhead" "[I") (by decide +kernel)) (fun _ h9 => h9) rfl dX0_isInHours_19 ?_
  refine lv_iload_n hx hb dX0_isInHours_22 rfl (lv_at hl 3 rfl) ?_
  refine w_iald hx hb hK hP 2 0 rfl rfl (f := (F 1)) (j := o) (by omega) (by omega) dX0_isInHours_23 ?_
  refine lv_isub hx hb dX0_isInHours_24 ?_
  refine lv_icmp_ge (tgt := 44) hx hb dX0_isInHours_25 (by decide) (fun c25 => ?_) (fun c25 => ?_)
  · refine lv_iconst (v := 1) hx hb dX0_isInHours_44 (by decide) ?_
    refine lv_goto (tgt := 49) hx hb dX0_isInHours_45 (by decide) ?_
    exact w_zret () hx hb hr hlocks hK hP hD hS (Nat.le_of_ble_eq_true rfl) (Nat.le_of_ble_eq_true rfl) dX0_isInHours_49 rfl (show 1 = b2i (p_at F sh o t) from by simp only [p_at, decide_eq_true c25, Bool.not_true, Bool.not_false, Bool.true_or, Bool.false_or, Bool.or_true, Bool.or_false, Bool.true_and, Bool.false_and, Bool.and_true, Bool.and_false, b2i_T, b2i_F])
  · refine lv_iload hx hb dX0_isInHours_28 (lv_at hl 0 rfl) ?_
    refine lv_iload_n hx hb dX0_isInHours_30 rfl (lv_at hl 1 rfl) ?_
    refine w_st_i (va_runS (As := [.int (t / 48)]) (rest := [.int (t - t / 48 * 48)]) ⟨hx, hb, hml, hown, hts⟩ (c_X0_dawnOf l G H.size (t / 48) ) (va_cwS 1 hts gX0_isInHours_X0_dawnOf rfl rfl rfl (by decide +kernel) ⟨(Nat.le_of_ble_eq_true rfl), (Nat.le_of_ble_eq_true rfl)⟩) ⟨wPre_blind, w_pre (hK.sub [] rfl) w_P0 (w_D0 (A := A))⟩ rfl rfl hl.1 rfl (lv_room (Nat.le_of_ble_eq_true rfl)) dX0_isInHours_31 ⟨(Nat.le_of_ble_eq_true rfl), (Nat.le_of_ble_eq_true rfl)⟩) hP hS hA (fun r31 u31 H locs hw31 hP hS => ?_)
    have hw31 : r31 = p_dawn (t / 48) := hw31
    subst hw31
    refine lv_aload_n hx hb dX0_isInHours_34 rfl (lv_at hl 2 rfl) ?_
    refine va_get (ci := 0) (v := .ref (a 2)) (C := RX0) (T := TX0) (N := 16) hx hb hts hin hown hK hP 0 rfl rfl 2 (by decide) (hts (.fieldLink RX0 16 "CurfewDesk" "orderBehind" "[I") (by decide +kernel)) (fun _ h9 => h9) rfl dX0_isInHours_35 ?_
    refine lv_iload_n hx hb dX0_isInHours_38 rfl (lv_at hl 3 rfl) ?_
    refine w_iald hx hb hK hP 3 0 rfl rfl (f := (F 2)) (j := o) (by omega) (by omega) dX0_isInHours_39 ?_
    refine lv_iadd hx hb dX0_isInHours_40 ?_
    refine lv_icmp_ge (tgt := 48) hx hb dX0_isInHours_41 (by decide) (fun c41 => ?_) (fun c41 => ?_)
    · refine lv_iconst (v := 0) hx hb dX0_isInHours_48 (by decide) ?_
      exact w_zret () hx hb hr hlocks hK hP hD hS (Nat.le_of_ble_eq_true rfl) (Nat.le_of_ble_eq_true rfl) dX0_isInHours_49 rfl (show 0 = b2i (p_at F sh o t) from by simp only [p_at, decide_eq_false c25, decide_eq_true c41, Bool.not_true, Bool.not_false, Bool.true_or, Bool.false_or, Bool.or_true, Bool.or_false, Bool.true_and, Bool.false_and, Bool.and_true, Bool.and_false, b2i_T, b2i_F])
    · refine lv_iconst (v := 1) hx hb dX0_isInHours_44 (by decide) ?_
      refine lv_goto (tgt := 49) hx hb dX0_isInHours_45 (by decide) ?_
      exact w_zret () hx hb hr hlocks hK hP hD hS (Nat.le_of_ble_eq_true rfl) (Nat.le_of_ble_eq_true rfl) dX0_isInHours_49 rfl (show 1 = b2i (p_at F sh o t) from by simp only [p_at, decide_eq_false c25, decide_eq_false c41, Bool.not_true, Bool.not_false, Bool.true_or, Bool.false_or, Bool.or_true, Bool.or_false, Bool.true_and, Bool.false_and, Bool.and_true, Bool.and_false, b2i_T, b2i_F])
set_option maxHeartbeats 4000000 in
set_option maxRecDepth 100000 in
theorem c_X0_isOnAt (l : Launch) (G : va_G) (cI cZ : ClassId) (h : Nat) (a : Nat → Nat) (F : Nat → Nat → Int32) (nq no np : Nat) (sh nw : Int32) (sz : Nat) (o : Nat) (t : Int32) (ho : o < 10) : Met l yX0_isOnAt wsX0_isOnAt ({ frames := 3, cells := 0, slots := 0, locals := 66 } : Room) (va_Pc [.ref h, .int (nI o), .int t] (wPre G (ty2 cI cZ) (Dk cI cZ h a F nq no np sh nw) sz)) (va_Qi (fun (r : Int32) (_ : Unit) => r = b2i (p_on F sh o t)) (fun _ => wP G (ty2 cI cZ) (Dk cI cZ h a F nq no np sh nw) (va_A (Dk cI cZ h a F nq no np sh nw) sz)) (va_A (Dk cI cZ h a F nq no np sh nw) sz)) 0 0 (va_A (Dk cI cZ h a F nq no np sh nw) sz) := by
  refine w_met (cc := cX0_isOnAt) (maxL := 3) (ret := (some .boolean)) (by decide) rfl (Nat.le_of_ble_eq_true rfl) ?_
  intro pg e s m below meth cd hx hb hml hr hts hown hlocks hnm hK hsz hP hD hA hS ls hl
  have hown : s.vm.findClass RX0 = some m.cls := hown
  have hin : ∀ w ∈ wsX00, w ∈ wsX0_isOnAt := by decide +kernel
  have hl : lv_has ls 3 [(0, .ref h), (1, .int (nI o)), (2, .int t)] := hl
  generalize hAe : va_A (Dk cI cZ h a F nq no np sh nw) sz = A at hD hA hS ⊢
  refine lv_aload_n hx hb dX0_isOnAt_0 rfl (lv_at hl 0 rfl) ?_
  refine va_get (ci := 0) (v := .ref (a 4)) (C := RX0) (T := TX0) (N := 16) hx hb hts hin hown hK hP 0 rfl rfl 4 (by decide) (hts (.fieldLink RX0 22 "CurfewDesk" "orderInForce" "[Z") (by decide +kernel)) (fun _ h9 => h9) rfl dX0_isOnAt_1 ?_
  refine lv_iload_n hx hb dX0_isOnAt_4 rfl (lv_at hl 1 rfl) ?_
  refine w_zald hx hb hK hP 5 1 rfl rfl (f := (F 4)) (j := o) (by omega) (by omega) dX0_isOnAt_5 ?_
  refine lv_if_eq (tgt := 22) hx hb dX0_isOnAt_6 (by decide) (fun c6 => ?_) (fun c6 => ?_)
  · refine lv_iconst (v := 0) hx hb dX0_isOnAt_22 (by decide) ?_
    exact w_zret () hx hb hr hlocks hK hP hD hS (Nat.le_of_ble_eq_true rfl) (Nat.le_of_ble_eq_true rfl) dX0_isOnAt_23 rfl (show 0 = b2i (p_on F sh o t) from by simp only [p_on, decide_eq_true c6, Bool.not_true, Bool.not_false, Bool.true_or, Bool.false_or, Bool.or_true, Bool.or_false, Bool.true_and, Bool.false_and, Bool.and_true, Bool.and_false, b2i_T, b2i_F])
  · refine lv_aload_n hx hb dX0_isOnAt_9 rfl (lv_at hl 0 rfl) ?_
    refine lv_iload_n hx hb dX0_isOnAt_10 rfl (lv_at hl 1 rfl) ?_
    refine lv_iload_n hx hb dX0_isOnAt_11 rfl (lv_at hl 2 rfl) ?_
    refine w_in_i (va_runV (As := [.int (nI o), .int t]) (rest := []) ⟨hx, hb, hml, hown, hts⟩ (c_X0_isInHours l G cI cZ h a F nq no np sh nw s.heap.size o t (by omega)) (cwV 2 hts gX0_isOnAt_X0_isInHours rfl rfl rfl (by decide +kernel) ⟨(Nat.le_of_ble_eq_true rfl), (Nat.le_of_ble_eq_true rfl)⟩) ⟨wPre_blind, va_recv hK hP (ci := 0) (q0 := 0) rfl rfl, w_pre hK hP hD⟩ rfl rfl hl.1 rfl (lv_room (Nat.le_of_ble_eq_true rfl)) dX0_isOnAt_12 ⟨(Nat.le_of_ble_eq_true rfl), (Nat.le_of_ble_eq_true rfl)⟩) hD hS hA (fun r12 u12 H locs hw12 hP hD hS => ?_)
    have hP : va_P G vwCl (Dk cI cZ h a F nq no np sh nw) H := hP
    have hD : va_D A (Dk cI cZ h a F nq no np sh nw) := hD
    have hw12 : r12 = b2i (p_at F sh o t) := hw12
    subst hw12
    refine w_selE (v1 := 1) (v2 := 0) hx hb dX0_isOnAt_15 (by decide) dX0_isOnAt_18 (by decide) dX0_isOnAt_19 (by decide) dX0_isOnAt_22 (by decide) ?_
    rw [b2i_sel]
    exact w_zret () hx hb hr hlocks hK hP hD hS (Nat.le_of_ble_eq_true rfl) (Nat.le_of_ble_eq_true rfl) dX0_isOnAt_23 (b2i_n _) (show (b2i (p_at F sh o t)) = b2i (p_on F sh o t) from by simp only [p_on, decide_eq_false c6, Bool.not_true, Bool.not_false, Bool.true_or, Bool.false_or, Bool.or_true, Bool.or_false, Bool.true_and, Bool.false_and, Bool.and_true, Bool.and_false, b2i_T, b2i_F])
set_option maxHeartbeats 4000000 in
set_option maxRecDepth 100000 in
theorem c_X0_timesBegun (l : Launch) (G : va_G) (cI cZ : ClassId) (h : Nat) (a : Nat → Nat) (F : Nat → Nat → Int32) (nq no np : Nat) (sh nw : Int32) (sz : Nat) (o : Nat) (hh : Nat) (ho : o < 10) (hhh : hh ≤ 200) : Met l yX0_timesBegun wsX0_timesBegun ({ frames := 4, cells := 0, slots := 0, locals := 88 } : Room) (va_Pc [.ref h, .int (nI o), .int (nI hh)] (wPre G (ty2 cI cZ) (Dk cI cZ h a F nq no np sh nw) sz)) (va_Qi (fun (r : Int32) (_ : Unit) => r = nI (p_ct (p_tb F sh nw o) hh)) (fun _ => wP G (ty2 cI cZ) (Dk cI cZ h a F nq no np sh nw) (va_A (Dk cI cZ h a F nq no np sh nw) sz)) (va_A (Dk cI cZ h a F nq no np sh nw) sz)) 0 0 (va_A (Dk cI cZ h a F nq no np sh nw) sz) := by
  refine w_met (cc := cX0_timesBegun) (maxL := 7) (ret := (some .int)) (by decide) rfl (Nat.le_of_ble_eq_true rfl) ?_
  intro pg e s m below meth cd hx hb hml hr hts hown hlocks hnm hK hsz hP hD hA hS ls hl
  have hown : s.vm.findClass RX0 = some m.cls := hown
  have hin : ∀ w ∈ wsX00, w ∈ wsX0_timesBegun := by decide +kernel
  have hl : lv_has ls 7 [(0, .ref h), (1, .int (nI o)), (2, .int (nI hh))] := hl
  generalize hAe : va_A (Dk cI cZ h a F nq no np sh nw) sz = A at hD hA hS ⊢
  refine lv_iconst (v := 0) hx hb dX0_timesBegun_0 (by decide) ?_
  refine lv_istore_n (lv' := [(3, .int 0), (0, .ref h), (1, .int (nI o)), (2, .int (nI hh))]) hx hb dX0_timesBegun_1 rfl hl (by decide) rfl (fun ls hl => ?_)
  refine lv_aload_n hx hb dX0_timesBegun_2 rfl (lv_at hl 1 rfl) ?_
  refine lv_iload_n hx hb dX0_timesBegun_3 rfl (lv_at hl 2 rfl) ?_
  refine lv_aload_n hx hb dX0_timesBegun_4 rfl (lv_at hl 1 rfl) ?_
  refine va_get (ci := 0) (v := .int nw) (C := RX0) (T := TX0) (N := 16) hx hb hts hin hown hK hP 0 rfl rfl 15 (by decide) (hts (.fieldLink RX0 101 "CurfewDesk" "now" "I") (by decide +kernel)) (fun _ h9 => h9) rfl dX0_timesBegun_5 ?_
  refine w_in_i (va_runV (As := [.int (nI o), .int nw]) (rest := []) ⟨hx, hb, hml, hown, hts⟩ (c_X0_isOnAt l G cI cZ h a F nq no np sh nw s.heap.size o nw (by omega)) (cwV 2 hts gX0_timesBegun_X0_isOnAt rfl rfl rfl (by decide +kernel) ⟨(Nat.le_of_ble_eq_true rfl), (Nat.le_of_ble_eq_true rfl)⟩) ⟨wPre_blind, va_recv hK hP (ci := 0) (q0 := 0) rfl rfl, w_pre hK hP hD⟩ rfl rfl hl.1 rfl (lv_room (Nat.le_of_ble_eq_true rfl)) dX0_timesBegun_8 ⟨(Nat.le_of_ble_eq_true rfl), (Nat.le_of_ble_eq_true rfl)⟩) hD hS hA (fun r8 u8 H locs hw8 hP hD hS => ?_)
  have hP : va_P G vwCl (Dk cI cZ h a F nq no np sh nw) H := hP
  have hD : va_D A (Dk cI cZ h a F nq no np sh nw) := hD
  have hw8 : r8 = b2i (p_on F sh o nw) := hw8
  subst hw8
  refine lv_istore (lv' := [(4, .int (b2i (p_on F sh o nw))), (3, .int 0), (0, .ref h), (1, .int (nI o)), (2, .int (nI hh))]) hx hb dX0_timesBegun_11 hl (by decide) rfl (fun ls hl => ?_)
  refine lv_iconst (v := 1) hx hb dX0_timesBegun_13 (by decide) ?_
  refine lv_istore (lv' := [(5, .int 1), (4, .int (b2i (p_on F sh o nw))), (3, .int 0), (0, .ref h), (1, .int (nI o)), (2, .int (nI hh))]) hx hb dX0_timesBegun_14 hl (by decide) rfl (fun ls hl => ?_)
  have key16 : ∀ (n i16 : Nat), i16 ≤ hh → hh < i16 + n → ∀ (x3 : Int32) (x4 : Int32) (x5 : Int32), x3 = nI (p_ct (p_tb F sh nw o) i16) → x4 = b2i (p_on F sh o (nw + nI i16)) → x5 = nI (i16 + 1) → ∀ (H : Heap) (locs : List Loc), va_P G vwCl (Dk cI cZ h a F nq no np sh nw) H → va_D A (Dk cI cZ h a F nq no np sh nw) → va_S A s.heap H locs → ∀ ls : Array Slot, lv_has ls 7 [(0, .ref h), (1, .int (nI o)), (2, .int (nI hh)), (3, .int x3), (4, .int x4), (5, .int x5)] → W pg l e ({ frames := 4, cells := 0, slots := 0, locals := 88 } : Room) s m ([.ref h, .int (nI o), .int (nI hh)] : List Value).toArray below meth cd H locs (0 + 0) (0 + 0) (MQ below (va_Qi (fun (r : Int32) (_ : Unit) => r = nI (p_ct (p_tb F sh nw o) hh)) (fun _ => wP G (ty2 cI cZ) (Dk cI cZ h a F nq no np sh nw) A) A) ([.ref h, .int (nI o), .int (nI hh)] : List Value).toArray s 0 0 A) (F0 m 16 ls []) := by
    intro n
    induction n with
    | zero => intro i16 h1 h2; exact absurd h2 (by omega)
    | succ n ih16 =>
      intro i16 hi_i16 hn_i16 x3 x4 x5 e3 e4 e5 H locs hP hD hS ls hl
      subst e3 e4 e5
      refine lv_iload hx hb dX0_timesBegun_16 (lv_at hl 5 rfl) ?_
      refine lv_iload_n hx hb dX0_timesBegun_18 rfl (lv_at hl 2 rfl) ?_
      refine lv_icmp_gt (tgt := 59) hx hb dX0_timesBegun_19 (by decide) (fun c19 => ?_) (fun c19 => ?_)
      · have c19 := (nI_ltI (a := hh) (b := (i16 + 1)) (by omega) (by omega)).mp c19
        have ei : hh = i16 := by omega
        subst ei
        refine lv_iload_n hx hb dX0_timesBegun_59 rfl (lv_at hl 3 rfl) ?_
        exact w_iret () hx hb hr hlocks hK hP hD hS (Nat.le_of_ble_eq_true rfl) (Nat.le_of_ble_eq_true rfl) dX0_timesBegun_60 (show (nI (p_ct (p_tb F sh nw o) hh)) = nI (p_ct (p_tb F sh nw o) hh) from by rfl)
      · have c19 := mt (nI_ltI (a := hh) (b := (i16 + 1)) (by omega) (by omega)).mpr c19
        have hlt_i16 : i16 < hh := by omega
        refine lv_aload_n hx hb dX0_timesBegun_22 rfl (lv_at hl 0 rfl) ?_
        refine lv_iload_n hx hb dX0_timesBegun_23 rfl (lv_at hl 1 rfl) ?_
        refine lv_aload_n hx hb dX0_timesBegun_24 rfl (lv_at hl 0 rfl) ?_
        refine va_get (ci := 0) (v := .int nw) (C := RX0) (T := TX0) (N := 16) hx hb hts hin hown hK hP 0 rfl rfl 15 (by decide) (hts (.fieldLink RX0 101 "CurfewDesk" "now" "I") (by decide +kernel)) (fun _ h9 => h9) rfl dX0_timesBegun_25 ?_
        refine lv_iload hx hb dX0_timesBegun_28 (lv_at hl 5 rfl) ?_
        refine lv_iadd hx hb dX0_timesBegun_30 ?_
        refine w_in_i (va_runV (As := [.int (nI o), .int (nw + (nI (i16 + 1)))]) (rest := []) ⟨hx, hb, hml, hown, hts⟩ (c_X0_isOnAt l G cI cZ h a F nq no np sh nw H.size o (nw + (nI (i16 + 1))) (by omega)) (cwV 2 hts gX0_timesBegun_X0_isOnAt rfl rfl rfl (by decide +kernel) ⟨(Nat.le_of_ble_eq_true rfl), (Nat.le_of_ble_eq_true rfl)⟩) ⟨wPre_blind, va_recv hK hP (ci := 0) (q0 := 0) rfl rfl, w_pre hK hP hD⟩ rfl rfl hl.1 rfl (lv_room (Nat.le_of_ble_eq_true rfl)) dX0_timesBegun_31 ⟨(Nat.le_of_ble_eq_true rfl), (Nat.le_of_ble_eq_true rfl)⟩) hD hS hA (fun r31 u31 H locs hw31 hP hD hS => ?_)
        have hP : va_P G vwCl (Dk cI cZ h a F nq no np sh nw) H := hP
        have hD : va_D A (Dk cI cZ h a F nq no np sh nw) := hD
        have hw31 : r31 = b2i (p_on F sh o (nw + (nI (i16 + 1)))) := hw31
        subst hw31
        refine lv_istore (lv' := [(6, .int (b2i (p_on F sh o (nw + (nI (i16 + 1)))))), (0, .ref h), (1, .int (nI o)), (2, .int (nI hh)), (3, .int (nI (p_ct (p_tb F sh nw o) i16))), (4, .int (b2i (p_on F sh o (nw + nI i16)))), (5, .int (nI (i16 + 1)))]) hx hb dX0_timesBegun_34 hl (by decide) rfl (fun ls hl => ?_)
        refine lv_iload hx hb dX0_timesBegun_36 (lv_at hl 0 rfl) ?_
        refine lv_if_eq (tgt := 49) hx hb dX0_timesBegun_38 (by decide) (fun c38 => ?_) (fun c38 => ?_)
        · have c38 := b2i_0.mp c38
          refine lv_iload hx hb dX0_timesBegun_49 (lv_at hl 0 rfl) ?_
          refine lv_istore (lv' := [(4, .int (b2i (p_on F sh o (nw + (nI (i16 + 1)))))), (6, .int (b2i (p_on F sh o (nw + (nI (i16 + 1)))))), (0, .ref h), (1, .int (nI o)), (2, .int (nI hh)), (3, .int (nI (p_ct (p_tb F sh nw o) i16))), (5, .int (nI (i16 + 1)))]) hx hb dX0_timesBegun_51 hl (by decide) rfl (fun ls hl => ?_)
          refine lv_iinc (v := nI (i16 + 1) + 1) (lv' := [(5, .int (nI (i16 + 1) + 1)), (4, .int (b2i (p_on F sh o (nw + (nI (i16 + 1)))))), (6, .int (b2i (p_on F sh o (nw + (nI (i16 + 1)))))), (0, .ref h), (1, .int (nI o)), (2, .int (nI hh)), (3, .int (nI (p_ct (p_tb F sh nw o) i16)))]) hx hb dX0_timesBegun_53 hl (k := 6) rfl rfl (by decide) rfl (fun ls hl => ?_)
          refine lv_goto (tgt := 16) hx hb dX0_timesBegun_56 (by decide) ?_
          exact ih16 (i16 + 1) (by omega) (by omega) (nI (p_ct (p_tb F sh nw o) i16)) (b2i (p_on F sh o (nw + (nI (i16 + 1))))) (nI (i16 + 1) + 1) (by first | exact nct_t (by rw [p_tb, c38]; rfl) | exact nct_f (by rw [p_tb, c38]; rfl)) (by rfl) (by first | exact nI_1 _ | exact nct_t (by assumption) | exact nct_f (by assumption) | exact nct_b | rfl) _ _ hP hD hS _ (lv_sub hl [3, 4, 5, 6, 1, 0] rfl)
        · have c38 := b2i_1.mp c38
          refine lv_iload hx hb dX0_timesBegun_41 (lv_at hl 5 rfl) ?_
          refine lv_if_ne (tgt := 49) hx hb dX0_timesBegun_43 (by decide) (fun c43 => ?_) (fun c43 => ?_)
          · have c43 := b2i_1.mp c43
            refine lv_iload hx hb dX0_timesBegun_49 (lv_at hl 0 rfl) ?_
            refine lv_istore (lv' := [(4, .int (b2i (p_on F sh o (nw + (nI (i16 + 1)))))), (6, .int (b2i (p_on F sh o (nw + (nI (i16 + 1)))))), (0, .ref h), (1, .int (nI o)), (2, .int (nI hh)), (3, .int (nI (p_ct (p_tb F sh nw o) i16))), (5, .int (nI (i16 + 1)))]) hx hb dX0_timesBegun_51 hl (by decide) rfl (fun ls hl => ?_)
            refine lv_iinc (v := nI (i16 + 1) + 1) (lv' := [(5, .int (nI (i16 + 1) + 1)), (4, .int (b2i (p_on F sh o (nw + (nI (i16 + 1)))))), (6, .int (b2i (p_on F sh o (nw + (nI (i16 + 1)))))), (0, .ref h), (1, .int (nI o)), (2, .int (nI hh)), (3, .int (nI (p_ct (p_tb F sh nw o) i16)))]) hx hb dX0_timesBegun_53 hl (k := 6) rfl rfl (by decide) rfl (fun ls hl => ?_)
            refine lv_goto (tgt := 16) hx hb dX0_timesBegun_56 (by decide) ?_
            exact ih16 (i16 + 1) (by omega) (by omega) (nI (p_ct (p_tb F sh nw o) i16)) (b2i (p_on F sh o (nw + (nI (i16 + 1))))) (nI (i16 + 1) + 1) (by first | exact nct_t (by rw [p_tb, c38, c43]; rfl) | exact nct_f (by rw [p_tb, c38, c43]; rfl)) (by rfl) (by first | exact nI_1 _ | exact nct_t (by assumption) | exact nct_f (by assumption) | exact nct_b | rfl) _ _ hP hD hS _ (lv_sub hl [3, 4, 5, 6, 1, 0] rfl)
          · have c43 := b2i_0.mp c43
            refine lv_iinc (v := nI (p_ct (p_tb F sh nw o) i16) + 1) (lv' := [(3, .int (nI (p_ct (p_tb F sh nw o) i16) + 1)), (6, .int (b2i (p_on F sh o (nw + (nI (i16 + 1)))))), (0, .ref h), (1, .int (nI o)), (2, .int (nI hh)), (4, .int (b2i (p_on F sh o (nw + nI i16)))), (5, .int (nI (i16 + 1)))]) hx hb dX0_timesBegun_46 hl (k := 4) rfl rfl (by decide) rfl (fun ls hl => ?_)
            refine lv_iload hx hb dX0_timesBegun_49 (lv_at hl 1 rfl) ?_
            refine lv_istore (lv' := [(4, .int (b2i (p_on F sh o (nw + (nI (i16 + 1)))))), (3, .int (nI (p_ct (p_tb F sh nw o) i16) + 1)), (6, .int (b2i (p_on F sh o (nw + (nI (i16 + 1)))))), (0, .ref h), (1, .int (nI o)), (2, .int (nI hh)), (5, .int (nI (i16 + 1)))]) hx hb dX0_timesBegun_51 hl (by decide) rfl (fun ls hl => ?_)
            refine lv_iinc (v := nI (i16 + 1) + 1) (lv' := [(5, .int (nI (i16 + 1) + 1)), (4, .int (b2i (p_on F sh o (nw + (nI (i16 + 1)))))), (3, .int (nI (p_ct (p_tb F sh nw o) i16) + 1)), (6, .int (b2i (p_on F sh o (nw + (nI (i16 + 1)))))), (0, .ref h), (1, .int (nI o)), (2, .int (nI hh))]) hx hb dX0_timesBegun_53 hl (k := 6) rfl rfl (by decide) rfl (fun ls hl => ?_)
            refine lv_goto (tgt := 16) hx hb dX0_timesBegun_56 (by decide) ?_
            exact ih16 (i16 + 1) (by omega) (by omega) (nI (p_ct (p_tb F sh nw o) i16) + 1) (b2i (p_on F sh o (nw + (nI (i16 + 1))))) (nI (i16 + 1) + 1) (by first | exact nct_t (by rw [p_tb, c38, c43]; rfl) | exact nct_f (by rw [p_tb, c38, c43]; rfl)) (by rfl) (by first | exact nI_1 _ | exact nct_t (by assumption) | exact nct_f (by assumption) | exact nct_b | rfl) _ _ hP hD hS _ (lv_sub hl [4, 5, 6, 2, 1, 0] rfl)
  exact key16 (hh + 1) 0 (by omega) (by omega) 0 (b2i (p_on F sh o nw)) 1 (by first | rfl | simp [p_ct, p_sm, p_fl, p_fg, nI_0]) (by rw [nI_0, Int32.add_zero]) (by first | rfl | simp [p_ct, p_sm, p_fl, p_fg, nI_0]) _ _ hP hD hS _ (lv_sub hl [3, 4, 5, 2, 1, 0] rfl)
set_option maxHeartbeats 4000000 in
set_option maxRecDepth 100000 in
theorem c_X0_requireQuarter (l : Launch) (G : va_G) (cI cZ : ClassId) (h : Nat) (a : Nat → Nat) (F : Nat → Nat → Int32) (nq no np : Nat) (sh nw : Int32) (sz : Nat) (x : Int32) (hnq : nq ≤ 6) (hx9 : p_in x nq = true) : Met l yX0_requireQuarter wsX0_requireQuarter ({ frames := 0, cells := 0, slots := 0, locals := 0 } : Room) (va_Pc [.ref h, .int x] (wPre G (ty2 cI cZ) (Dk cI cZ h a F nq no np sh nw) sz)) (va_Qv (fun (_ : Unit) => True) (fun _ => wP G (ty2 cI cZ) (Dk cI cZ h a F nq no np sh nw) (va_A (Dk cI cZ h a F nq no np sh nw) sz)) (va_A (Dk cI cZ h a F nq no np sh nw) sz)) 0 0 (va_A (Dk cI cZ h a F nq no np sh nw) sz) := by
  refine w_met (cc := cX0_requireQuarter) (maxL := 2) (ret := none) (by decide) rfl (Nat.le_of_ble_eq_true rfl) ?_
  intro pg e s m below meth cd hx hb hml hr hts hown hlocks hnm hK hsz hP hD hA hS ls hl
  have hown : s.vm.findClass RX0 = some m.cls := hown
  have hin : ∀ w ∈ wsX00, w ∈ wsX0_requireQuarter := by decide +kernel
  have hl : lv_has ls 2 [(0, .ref h), (1, .int x)] := hl
  generalize hAe : va_A (Dk cI cZ h a F nq no np sh nw) sz = A at hD hA hS ⊢
  refine lv_iload_n hx hb dX0_requireQuarter_0 rfl (lv_at hl 1 rfl) ?_
  refine lv_if_lt (tgt := 12) hx hb dX0_requireQuarter_1 (by decide) (fun c1 => ?_) (fun c1 => ?_)
  · first | exact absurd hx9 (by rw [pin_ge (n := nq) (by omega) c9]; decide) | exact absurd hx9 (by rw [pin_neg c1]; decide)
  · refine lv_iload_n hx hb dX0_requireQuarter_4 rfl (lv_at hl 1 rfl) ?_
    refine lv_aload_n hx hb dX0_requireQuarter_5 rfl (lv_at hl 0 rfl) ?_
    refine va_get (ci := 0) (v := .int (nI nq)) (C := RX0) (T := TX0) (N := 16) hx hb hts hin hown hK hP 0 rfl rfl 11 (by decide) (hts (.fieldLink RX0 44 "CurfewDesk" "quarterCount" "I") (by decide +kernel)) (fun _ h9 => h9) rfl dX0_requireQuarter_6 ?_
    refine lv_icmp_lt (tgt := 22) hx hb dX0_requireQuarter_9 (by decide) (fun c9 => ?_) (fun c9 => ?_)
    · exact w_vret () hx hb hr hlocks hK hP hD hS (Nat.le_of_ble_eq_true rfl) (Nat.le_of_ble_eq_true rfl) dX0_requireQuarter_22 trivial
    · first | exact absurd hx9 (by rw [pin_ge (n := nq) (by omega) c9]; decide) | exact absurd hx9 (by rw [pin_neg c1]; decide)
set_option maxHeartbeats 4000000 in
set_option maxRecDepth 100000 in
theorem c_X0_requireTrade (l : Launch) (G : va_G) (sz : Nat) (x : Int32) (hx9 : p_in x 8 = true) : Met l yX0_requireTrade wsX0_requireTrade ({ frames := 0, cells := 0, slots := 0, locals := 0 } : Room) (va_Pc [.int x] (wPre G [] [] sz)) (va_Qv (fun (_ : Unit) => True) (fun _ => wP G [] [] (va_A [] sz)) (va_A [] sz)) 0 0 (va_A [] sz) := by
  refine w_met (cc := cX0_requireTrade) (maxL := 1) (ret := none) (by decide) rfl (Nat.le_of_ble_eq_true rfl) ?_
  intro pg e s m below meth cd hx hb hml hr hts hown hlocks hnm hK hsz hP hD hA hS ls hl
  have hown : s.vm.findClass RX0 = some m.cls := hown
  have hl : lv_has ls 1 [(0, .int x)] := hl
  generalize hAe : va_A [] sz = A at hD hA hS ⊢
  refine lv_iload_n hx hb dX0_requireTrade_0 rfl (lv_at hl 0 rfl) ?_
  refine lv_if_lt (tgt := 10) hx hb dX0_requireTrade_1 (by decide) (fun c1 => ?_) (fun c1 => ?_)
  · first | exact absurd hx9 (by rw [pin_ge (n := 8) (by omega) c7]; decide) | exact absurd hx9 (by rw [pin_neg c1]; decide)
  · refine lv_iload_n hx hb dX0_requireTrade_4 rfl (lv_at hl 0 rfl) ?_
    refine lv_bipush (v := 8) hx hb dX0_requireTrade_5 (by decide) ?_
    refine lv_icmp_lt (tgt := 20) hx hb dX0_requireTrade_7 (by decide) (fun c7 => ?_) (fun c7 => ?_)
    · exact w_vret () hx hb hr hlocks hK hP hD hS (Nat.le_of_ble_eq_true rfl) (Nat.le_of_ble_eq_true rfl) dX0_requireTrade_20 trivial
    · first | exact absurd hx9 (by rw [pin_ge (n := 8) (by omega) c7]; decide) | exact absurd hx9 (by rw [pin_neg c1]; decide)
set_option maxHeartbeats 4000000 in
set_option maxRecDepth 100000 in
theorem c_X0_requireColour (l : Launch) (G : va_G) (sz : Nat) (x : Int32) (hx9 : p_in x 4 = true) : Met l yX0_requireColour wsX0_requireColour ({ frames := 0, cells := 0, slots := 0, locals := 0 } : Room) (va_Pc [.int x] (wPre G [] [] sz)) (va_Qv (fun (_ : Unit) => True) (fun _ => wP G [] [] (va_A [] sz)) (va_A [] sz)) 0 0 (va_A [] sz) := by
  refine w_met (cc := cX0_requireColour) (maxL := 1) (ret := none) (by decide) rfl (Nat.le_of_ble_eq_true rfl) ?_
  intro pg e s m below meth cd hx hb hml hr hts hown hlocks hnm hK hsz hP hD hA hS ls hl
  have hown : s.vm.findClass RX0 = some m.cls := hown
  have hl : lv_has ls 1 [(0, .int x)] := hl
  generalize hAe : va_A [] sz = A at hD hA hS ⊢
  refine lv_iload_n hx hb dX0_requireColour_0 rfl (lv_at hl 0 rfl) ?_
  refine lv_if_lt (tgt := 9) hx hb dX0_requireColour_1 (by decide) (fun c1 => ?_) (fun c1 => ?_)
  · first | exact absurd hx9 (by rw [pin_ge (n := 4) (by omega) c6]; decide) | exact absurd hx9 (by rw [pin_neg c1]; decide)
  · refine lv_iload_n hx hb dX0_requireColour_4 rfl (lv_at hl 0 rfl) ?_
    refine lv_iconst (v := 4) hx hb dX0_requireColour_5 (by decide) ?_
    refine lv_icmp_lt (tgt := 19) hx hb dX0_requireColour_6 (by decide) (fun c6 => ?_) (fun c6 => ?_)
    · exact w_vret () hx hb hr hlocks hK hP hD hS (Nat.le_of_ble_eq_true rfl) (Nat.le_of_ble_eq_true rfl) dX0_requireColour_19 trivial
    · first | exact absurd hx9 (by rw [pin_ge (n := 4) (by omega) c6]; decide) | exact absurd hx9 (by rw [pin_neg c1]; decide)
set_option maxHeartbeats 4000000 in
set_option maxRecDepth 100000 in
theorem c_X0_requireWithin (l : Launch) (G : va_G) (sz : Nat) (x : Int32) (a9 : Int32) (b9 : Int32) (hx9 : p_wi x a9 b9 = true) : Met l yX0_requireWithin wsX0_requireWithin ({ frames := 0, cells := 0, slots := 0, locals := 0 } : Room) (va_Pc [.int x, .int a9, .int b9] (wPre G [] [] sz)) (va_Qv (fun (_ : Unit) => True) (fun _ => wP G [] [] (va_A [] sz)) (va_A [] sz)) 0 0 (va_A [] sz) := by
  refine w_met (cc := cX0_requireWithin) (maxL := 3) (ret := none) (by decide) rfl (Nat.le_of_ble_eq_true rfl) ?_
  intro pg e s m below meth cd hx hb hml hr hts hown hlocks hnm hK hsz hP hD hA hS ls hl
  have hown : s.vm.findClass RX0 = some m.cls := hown
  have hl : lv_has ls 3 [(0, .int x), (1, .int a9), (2, .int b9)] := hl
  generalize hAe : va_A [] sz = A at hD hA hS ⊢
  refine lv_iload_n hx hb dX0_requireWithin_0 rfl (lv_at hl 0 rfl) ?_
  refine lv_iload_n hx hb dX0_requireWithin_1 rfl (lv_at hl 1 rfl) ?_
  refine lv_icmp_lt (tgt := 10) hx hb dX0_requireWithin_2 (by decide) (fun c2 => ?_) (fun c2 => ?_)
  · first | exact absurd hx9 (by rw [pwi_gt c7]; decide) | exact absurd hx9 (by rw [pwi_lt c2]; decide)
  · refine lv_iload_n hx hb dX0_requireWithin_5 rfl (lv_at hl 0 rfl) ?_
    refine lv_iload_n hx hb dX0_requireWithin_6 rfl (lv_at hl 2 rfl) ?_
    refine lv_icmp_le (tgt := 20) hx hb dX0_requireWithin_7 (by decide) (fun c7 => ?_) (fun c7 => ?_)
    · exact w_vret () hx hb hr hlocks hK hP hD hS (Nat.le_of_ble_eq_true rfl) (Nat.le_of_ble_eq_true rfl) dX0_requireWithin_20 trivial
    · first | exact absurd hx9 (by rw [pwi_gt c7]; decide) | exact absurd hx9 (by rw [pwi_lt c2]; decide)
set_option maxHeartbeats 4000000 in
set_option maxRecDepth 100000 in
theorem c_X0_addQuarter (l : Launch) (G : va_G) (cI cZ : ClassId) (h : Nat) (a : Nat → Nat) (F : Nat → Nat → Int32) (nq no np : Nat) (sh nw : Int32) (sz : Nat) (hnq : nq ≤ 6) (hx9 : nq < 6) : Met l yX0_addQuarter wsX0_addQuarter ({ frames := 0, cells := 0, slots := 0, locals := 0 } : Room) (va_Pc [.ref h] (wPre G (ty2 cI cZ) (Dk cI cZ h a F nq no np sh nw) sz)) (va_Qi (fun (r : Int32) (_ : Unit) => r = nI nq) (fun _ => wP G (ty2 cI cZ) (Dk cI cZ h a F (nq + 1) no np sh nw) (va_A (Dk cI cZ h a F nq no np sh nw) sz)) (va_A (Dk cI cZ h a F nq no np sh nw) sz)) 0 0 (va_A (Dk cI cZ h a F nq no np sh nw) sz) := by
  refine w_met (cc := cX0_addQuarter) (maxL := 2) (ret := (some .int)) (by decide) rfl (Nat.le_of_ble_eq_true rfl) ?_
  intro pg e s m below meth cd hx hb hml hr hts hown hlocks hnm hK hsz hP hD hA hS ls hl
  have hown : s.vm.findClass RX0 = some m.cls := hown
  have hin : ∀ w ∈ wsX00, w ∈ wsX0_addQuarter := by decide +kernel
  have hl : lv_has ls 2 [(0, .ref h)] := hl
  generalize hAe : va_A (Dk cI cZ h a F nq no np sh nw) sz = A at hD hA hS ⊢
  refine lv_aload_n hx hb dX0_addQuarter_0 rfl (lv_at hl 0 rfl) ?_
  refine va_get (ci := 0) (v := .int (nI nq)) (C := RX0) (T := TX0) (N := 16) hx hb hts hin hown hK hP 0 rfl rfl 11 (by decide) (hts (.fieldLink RX0 44 "CurfewDesk" "quarterCount" "I") (by decide +kernel)) (fun _ h9 => h9) rfl dX0_addQuarter_1 ?_
  refine lv_bipush (v := 6) hx hb dX0_addQuarter_4 (by decide) ?_
  refine lv_icmp_lt (tgt := 19) hx hb dX0_addQuarter_6 (by decide) (fun c6 => ?_) (fun c6 => ?_)
  · have q6 := (nI_ltI (a := nq) (b := 6) (by omega) (by omega)).mp c6
    refine lv_aload_n hx hb dX0_addQuarter_19 rfl (lv_at hl 0 rfl) ?_
    refine va_get (ci := 0) (v := .int (nI nq)) (C := RX0) (T := TX0) (N := 16) hx hb hts hin hown hK hP 0 rfl rfl 11 (by decide) (hts (.fieldLink RX0 44 "CurfewDesk" "quarterCount" "I") (by decide +kernel)) (fun _ h9 => h9) rfl dX0_addQuarter_20 ?_
    refine lv_istore_n (lv' := [(1, .int (nI nq)), (0, .ref h)]) hx hb dX0_addQuarter_23 rfl hl (by decide) rfl (fun ls hl => ?_)
    refine lv_aload_n hx hb dX0_addQuarter_24 rfl (lv_at hl 1 rfl) ?_
    refine lv_dup hx hb dX0_addQuarter_25 rfl ?_
    refine va_get (ci := 0) (v := .int (nI nq)) (C := RX0) (T := TX0) (N := 16) hx hb hts hin hown hK hP 0 rfl rfl 11 (by decide) (hts (.fieldLink RX0 44 "CurfewDesk" "quarterCount" "I") (by decide +kernel)) (fun _ h9 => h9) rfl dX0_addQuarter_26 ?_
    refine lv_iconst (v := 1) hx hb dX0_addQuarter_29 (by decide) ?_
    refine lv_iadd hx hb dX0_addQuarter_30 ?_
    rw [nI_1]
    refine va_put (ci := 0) (v := .int (nI (nq + 1))) (ty := .int) (C := RX0) (T := TX0) (N := 16) hx hb hts hin tyX0 tyX0_ok nmX0 hown hK hP hD hS 0 rfl rfl 11 (by decide) (hts (.fieldLink RX0 44 "CurfewDesk" "quarterCount" "I") (by decide +kernel)) (fun _ h9 => h9) rfl (by decide +kernel) rfl rfl (Nat.le_of_ble_eq_true rfl) dX0_addQuarter_31 (fun H locs hP hD hS => ?_)
    have hP : va_P G vwCl (Dk cI cZ h a F (nq + 1) no np sh nw) H := hP
    have hD : va_D A (Dk cI cZ h a F (nq + 1) no np sh nw) := hD
    refine lv_iload_n hx hb dX0_addQuarter_34 rfl (lv_at hl 0 rfl) ?_
    exact w_iret () hx hb hr hlocks hK hP hD hS (Nat.le_of_ble_eq_true rfl) (Nat.le_of_ble_eq_true rfl) dX0_addQuarter_35 (show (nI nq) = nI nq from by rfl)
  · have q6 := mt (nI_ltI (a := nq) (b := 6) (by omega) (by omega)).mpr c6
    exact absurd hx9 q6
set_option maxHeartbeats 4000000 in
set_option maxRecDepth 100000 in
theorem c_X0_addPerson (l : Launch) (G : va_G) (cI cZ : ClassId) (h : Nat) (a : Nat → Nat) (F : Nat → Nat → Int32) (nq no np : Nat) (sh nw : Int32) (sz : Nat) (x : Int32) (hnp : np ≤ 20) (hx9 : p_in x 8 = true) (hy9 : np < 20) : Met l yX0_addPerson wsX0_addPerson ({ frames := 1, cells := 0, slots := 0, locals := 20 } : Room) (va_Pc [.ref h, .int x] (wPre G (ty2 cI cZ) (Dk cI cZ h a F nq no np sh nw) sz)) (va_Qi (fun (r : Int32) (_ : Unit) => r = nI np) (fun _ => wP G (ty2 cI cZ) (Dk cI cZ h a (n_pe F np x) nq no (np + 1) sh nw) (va_A (Dk cI cZ h a F nq no np sh nw) sz)) (va_A (Dk cI cZ h a F nq no np sh nw) sz)) 0 0 (va_A (Dk cI cZ h a F nq no np sh nw) sz) := by
  refine w_met (cc := cX0_addPerson) (maxL := 3) (ret := (some .int)) (by decide) rfl (Nat.le_of_ble_eq_true rfl) ?_
  intro pg e s m below meth cd hx hb hml hr hts hown hlocks hnm hK hsz hP hD hA hS ls hl
  have hown : s.vm.findClass RX0 = some m.cls := hown
  have hin : ∀ w ∈ wsX00, w ∈ wsX0_addPerson := by decide +kernel
  have hl : lv_has ls 3 [(0, .ref h), (1, .int x)] := hl
  generalize hAe : va_A (Dk cI cZ h a F nq no np sh nw) sz = A at hD hA hS ⊢
  refine lv_iload_n hx hb dX0_addPerson_0 rfl (lv_at hl 1 rfl) ?_
  refine w_st_v (va_runS (As := [.int x]) (rest := []) ⟨hx, hb, hml, hown, hts⟩ (c_X0_requireTrade l G s.heap.size x (hx9)) (va_cwS 1 hts gX0_addPerson_X0_requireTrade rfl rfl rfl (by decide +kernel) ⟨(Nat.le_of_ble_eq_true rfl), (Nat.le_of_ble_eq_true rfl)⟩) ⟨wPre_blind, w_pre (hK.sub [] rfl) w_P0 (w_D0 (A := A))⟩ rfl rfl hl.1 rfl (lv_room (Nat.le_of_ble_eq_true rfl)) dX0_addPerson_1 ⟨(Nat.le_of_ble_eq_true rfl), (Nat.le_of_ble_eq_true rfl)⟩) hP hS hA (fun u1 H locs hw1 hP hS => ?_)
  refine lv_aload_n hx hb dX0_addPerson_4 rfl (lv_at hl 0 rfl) ?_
  refine va_get (ci := 0) (v := .int (nI np)) (C := RX0) (T := TX0) (N := 16) hx hb hts hin hown hK hP 0 rfl rfl 13 (by decide) (hts (.fieldLink RX0 59 "CurfewDesk" "personCount" "I") (by decide +kernel)) (fun _ h9 => h9) rfl dX0_addPerson_5 ?_
  refine lv_bipush (v := 20) hx hb dX0_addPerson_8 (by decide) ?_
  refine lv_icmp_lt (tgt := 23) hx hb dX0_addPerson_10 (by decide) (fun c10 => ?_) (fun c10 => ?_)
  · have q10 := (nI_ltI (a := np) (b := 20) (by omega) (by omega)).mp c10
    refine lv_aload_n hx hb dX0_addPerson_23 rfl (lv_at hl 0 rfl) ?_
    refine va_get (ci := 0) (v := .int (nI np)) (C := RX0) (T := TX0) (N := 16) hx hb hts hin hown hK hP 0 rfl rfl 13 (by decide) (hts (.fieldLink RX0 59 "CurfewDesk" "personCount" "I") (by decide +kernel)) (fun _ h9 => h9) rfl dX0_addPerson_24 ?_
    refine lv_istore_n (lv' := [(2, .int (nI np)), (0, .ref h), (1, .int x)]) hx hb dX0_addPerson_27 rfl hl (by decide) rfl (fun ls hl => ?_)
    refine lv_aload_n hx hb dX0_addPerson_28 rfl (lv_at hl 1 rfl) ?_
    refine va_get (ci := 0) (v := .ref (a 6)) (C := RX0) (T := TX0) (N := 16) hx hb hts hin hown hK hP 0 rfl rfl 6 (by decide) (hts (.fieldLink RX0 29 "CurfewDesk" "personTrade" "[I") (by decide +kernel)) (fun _ h9 => h9) rfl dX0_addPerson_29 ?_
    refine lv_iload_n hx hb dX0_addPerson_32 rfl (lv_at hl 0 rfl) ?_
    refine lv_iload_n hx hb dX0_addPerson_33 rfl (lv_at hl 2 rfl) ?_
    refine w_iast hx hb hK hP hD hS 7 0 rfl rfl (f := (F 6)) (j := np) (by omega) (by omega) dX0_addPerson_34 (fun H locs hP hD hS => ?_)
    have hP : va_P G vwCl (Dk cI cZ h a (va_up F 6 (upd (F 6) np x)) nq no np sh nw) H := hP
    have hD : va_D A (Dk cI cZ h a (va_up F 6 (upd (F 6) np x)) nq no np sh nw) := hD
    refine lv_aload_n hx hb dX0_addPerson_35 rfl (lv_at hl 1 rfl) ?_
    refine lv_dup hx hb dX0_addPerson_36 rfl ?_
    refine va_get (ci := 0) (v := .int (nI np)) (C := RX0) (T := TX0) (N := 16) hx hb hts hin hown hK hP 0 rfl rfl 13 (by decide) (hts (.fieldLink RX0 59 "CurfewDesk" "personCount" "I") (by decide +kernel)) (fun _ h9 => h9) rfl dX0_addPerson_37 ?_
    refine lv_iconst (v := 1) hx hb dX0_addPerson_40 (by decide) ?_
    refine lv_iadd hx hb dX0_addPerson_41 ?_
    rw [nI_1]
    refine va_put (ci := 0) (v := .int (nI (np + 1))) (ty := .int) (C := RX0) (T := TX0) (N := 16) hx hb hts hin tyX0 tyX0_ok nmX0 hown hK hP hD hS 0 rfl rfl 13 (by decide) (hts (.fieldLink RX0 59 "CurfewDesk" "personCount" "I") (by decide +kernel)) (fun _ h9 => h9) rfl (by decide +kernel) rfl rfl (Nat.le_of_ble_eq_true rfl) dX0_addPerson_42 (fun H locs hP hD hS => ?_)
    have hP : va_P G vwCl (Dk cI cZ h a (va_up F 6 (upd (F 6) np x)) nq no (np + 1) sh nw) H := hP
    have hD : va_D A (Dk cI cZ h a (va_up F 6 (upd (F 6) np x)) nq no (np + 1) sh nw) := hD
    refine lv_iload_n hx hb dX0_addPerson_45 rfl (lv_at hl 0 rfl) ?_
    exact w_iret () hx hb hr hlocks hK hP hD hS (Nat.le_of_ble_eq_true rfl) (Nat.le_of_ble_eq_true rfl) dX0_addPerson_46 (show (nI np) = nI np from by rfl)
  · have q10 := mt (nI_ltI (a := np) (b := 20) (by omega) (by omega)).mpr c10
    exact absurd hy9 q10
set_option maxHeartbeats 4000000 in
set_option maxRecDepth 100000 in
theorem c_X0_addOrder (l : Launch) (G : va_G) (cI cZ : ClassId) (h : Nat) (a : Nat → Nat) (F : Nat → Nat → Int32) (nq no np : Nat) (sh nw : Int32) (sz : Nat) (x : Int32) (y : Int32) (z : Int32) (v : Int32) (hnq : nq ≤ 6) (hno : no ≤ 10) (hx9 : p_in x nq = true) (hv9 : p_in v 4 = true) (hy9 : p_wi y 0 4 = true) (hz9 : p_wi z 0 4 = true) (ho9 : no < 10) : Met l yX0_addOrder wsX0_addOrder ({ frames := 1, cells := 0, slots := 0, locals := 22 } : Room) (va_Pc [.ref h, .int x, .int y, .int z, .int v] (wPre G (ty2 cI cZ) (Dk cI cZ h a F nq no np sh nw) sz)) (va_Qi (fun (r : Int32) (_ : Unit) => r = nI no) (fun _ => wP G (ty2 cI cZ) (Dk cI cZ h a (n_or F no x y z v) nq (no + 1) np sh nw) (va_A (Dk cI cZ h a F nq no np sh nw) sz)) (va_A (Dk cI cZ h a F nq no np sh nw) sz)) 0 0 (va_A (Dk cI cZ h a F nq no np sh nw) sz) := by
  refine w_met (cc := cX0_addOrder) (maxL := 6) (ret := (some .int)) (by decide) rfl (Nat.le_of_ble_eq_true rfl) ?_
  intro pg e s m below meth cd hx hb hml hr hts hown hlocks hnm hK hsz hP hD hA hS ls hl
  have hown : s.vm.findClass RX0 = some m.cls := hown
  have hin : ∀ w ∈ wsX00, w ∈ wsX0_addOrder := by decide +kernel
  have hl : lv_has ls 6 [(0, .ref h), (1, .int x), (2, .int y), (3, .int z), (4, .int v)] := hl
  generalize hAe : va_A (Dk cI cZ h a F nq no np sh nw) sz = A at hD hA hS ⊢
  refine lv_aload_n hx hb dX0_addOrder_0 rfl (lv_at hl 0 rfl) ?_
  refine lv_iload_n hx hb dX0_addOrder_1 rfl (lv_at hl 1 rfl) ?_
  refine w_in_v (va_runV (As := [.int x]) (rest := []) ⟨hx, hb, hml, hown, hts⟩ (c_X0_requireQuarter l G cI cZ h a F nq no np sh nw s.heap.size x (by omega) (hx9)) (cwV 1 hts gX0_addOrder_X0_requireQuarter rfl rfl rfl (by decide +kernel) ⟨(Nat.le_of_ble_eq_true rfl), (Nat.le_of_ble_eq_true rfl)⟩) ⟨wPre_blind, va_recv hK hP (ci := 0) (q0 := 0) rfl rfl, w_pre hK hP hD⟩ rfl rfl hl.1 rfl (lv_room (Nat.le_of_ble_eq_true rfl)) dX0_addOrder_2 ⟨(Nat.le_of_ble_eq_true rfl), (Nat.le_of_ble_eq_true rfl)⟩) hD hS hA (fun u2 H locs hw2 hP hD hS => ?_)
  have hP : va_P G vwCl (Dk cI cZ h a F nq no np sh nw) H := hP
  have hD : va_D A (Dk cI cZ h a F nq no np sh nw) := hD
  refine lv_iload hx hb dX0_addOrder_5 (lv_at hl 4 rfl) ?_
  refine w_st_v (va_runS (As := [.int v]) (rest := []) ⟨hx, hb, hml, hown, hts⟩ (c_X0_requireColour l G H.size v (hv9)) (va_cwS 1 hts gX0_addOrder_X0_requireColour rfl rfl rfl (by decide +kernel) ⟨(Nat.le_of_ble_eq_true rfl), (Nat.le_of_ble_eq_true rfl)⟩) ⟨wPre_blind, w_pre (hK.sub [] rfl) w_P0 (w_D0 (A := A))⟩ rfl rfl hl.1 rfl (lv_room (Nat.le_of_ble_eq_true rfl)) dX0_addOrder_7 ⟨(Nat.le_of_ble_eq_true rfl), (Nat.le_of_ble_eq_true rfl)⟩) hP hS hA (fun u7 H locs hw7 hP hS => ?_)
  refine lv_iload_n hx hb dX0_addOrder_10 rfl (lv_at hl 2 rfl) ?_
  refine lv_iconst (v := 0) hx hb dX0_addOrder_11 (by decide) ?_
  refine lv_iconst (v := 4) hx hb dX0_addOrder_12 (by decide) ?_
  refine w_st_v (va_runS (As := [.int y, .int 0, .int 4]) (rest := []) ⟨hx, hb, hml, hown, hts⟩ (c_X0_requireWithin l G H.size y 0 4 (hy9)) (va_cwS 3 hts gX0_addOrder_X0_requireWithin rfl rfl rfl (by decide +kernel) ⟨(Nat.le_of_ble_eq_true rfl), (Nat.le_of_ble_eq_true rfl)⟩) ⟨wPre_blind, w_pre (hK.sub [] rfl) w_P0 (w_D0 (A := A))⟩ rfl rfl hl.1 rfl (lv_room (Nat.le_of_ble_eq_true rfl)) dX0_addOrder_13 ⟨(Nat.le_of_ble_eq_true rfl), (Nat.le_of_ble_eq_true rfl)⟩) hP hS hA (fun u13 H locs hw13 hP hS => ?_)
  refine lv_iload_n hx hb dX0_addOrder_16 rfl (lv_at hl 3 rfl) ?_
  refine lv_iconst (v := 0) hx hb dX0_addOrder_17 (by decide) ?_
  refine lv_iconst (v := 4) hx hb dX0_addOrder_18 (by decide) ?_
  refine w_st_v (va_runS (As := [.int z, .int 0, .int 4]) (rest := []) ⟨hx, hb, hml, hown, hts⟩ (c_X0_requireWithin l G H.size z 0 4 (hz9)) (va_cwS 3 hts gX0_addOrder_X0_requireWithin rfl rfl rfl (by decide +kernel) ⟨(Nat.le_of_ble_eq_true rfl), (Nat.le_of_ble_eq_true rfl)⟩) ⟨wPre_blind, w_pre (hK.sub [] rfl) w_P0 (w_D0 (A := A))⟩ rfl rfl hl.1 rfl (lv_room (Nat.le_of_ble_eq_true rfl)) dX0_addOrder_19 ⟨(Nat.le_of_ble_eq_true rfl), (Nat.le_of_ble_eq_true rfl)⟩) hP hS hA (fun u19 H locs hw19 hP hS => ?_)
  refine lv_aload_n hx hb dX0_addOrder_22 rfl (lv_at hl 0 rfl) ?_
  refine va_get (ci := 0) (v := .int (nI no)) (C := RX0) (T := TX0) (N := 16) hx hb hts hin hown hK hP 0 rfl rfl 12 (by decide) (hts (.fieldLink RX0 74 "CurfewDesk" "orderCount" "I") (by decide +kernel)) (fun _ h9 => h9) rfl dX0_addOrder_23 ?_
  refine lv_bipush (v := 10) hx hb dX0_addOrder_26 (by decide) ?_
  refine lv_icmp_lt (tgt := 41) hx hb dX0_addOrder_28 (by decide) (fun c28 => ?_) (fun c28 => ?_)
  · have q28 := (nI_ltI (a := no) (b := 10) (by omega) (by omega)).mp c28
    refine lv_aload_n hx hb dX0_addOrder_41 rfl (lv_at hl 0 rfl) ?_
    refine va_get (ci := 0) (v := .int (nI no)) (C := RX0) (T := TX0) (N := 16) hx hb hts hin hown hK hP 0 rfl rfl 12 (by decide) (hts (.fieldLink RX0 74 "CurfewDesk" "orderCount" "I") (by decide +kernel)) (fun _ h9 => h9) rfl dX0_addOrder_42 ?_
    refine lv_istore (lv' := [(5, .int (nI no)), (0, .ref h), (1, .int x), (2, .int y), (3, .int z), (4, .int v)]) hx hb dX0_addOrder_45 hl (by decide) rfl (fun ls hl => ?_)
    refine lv_aload_n hx hb dX0_addOrder_47 rfl (lv_at hl 1 rfl) ?_
    refine va_get (ci := 0) (v := .ref (a 0)) (C := RX0) (T := TX0) (N := 16) hx hb hts hin hown hK hP 0 rfl rfl 0 (by decide) (hts (.fieldLink RX0 9 "CurfewDesk" "orderQuarter" "[I") (by decide +kernel)) (fun _ h9 => h9) rfl dX0_addOrder_48 ?_
    refine lv_iload hx hb dX0_addOrder_51 (lv_at hl 0 rfl) ?_
    refine lv_iload_n hx hb dX0_addOrder_53 rfl (lv_at hl 2 rfl) ?_
    refine w_iast hx hb hK hP hD hS 1 0 rfl rfl (f := (F 0)) (j := no) (by omega) (by omega) dX0_addOrder_54 (fun H locs hP hD hS => ?_)
    have hP : va_P G vwCl (Dk cI cZ h a (va_up F 0 (upd (F 0) no x)) nq no np sh nw) H := hP
    have hD : va_D A (Dk cI cZ h a (va_up F 0 (upd (F 0) no x)) nq no np sh nw) := hD
    refine lv_aload_n hx hb dX0_addOrder_55 rfl (lv_at hl 1 rfl) ?_
    refine va_get (ci := 0) (v := .ref (a 1)) (C := RX0) (T := TX0) (N := 16) hx hb hts hin hown hK hP 0 rfl rfl 1 (by decide) (hts (.fieldLink RX0 13 "CurfewDesk" "orderAhead" "[I") (by decide +kernel)) (fun _ h9 => h9) rfl dX0_addOrder_56 ?_
    refine lv_iload hx hb dX0_addOrder_59 (lv_at hl 0 rfl) ?_
    refine lv_iload_n hx hb dX0_addOrder_61 rfl (lv_at hl 3 rfl) ?_
    refine w_iast hx hb hK hP hD hS 2 0 rfl rfl (f := (F 1)) (j := no) (by omega) (by omega) dX0_addOrder_62 (fun H locs hP hD hS => ?_)
    have hP : va_P G vwCl (Dk cI cZ h a (va_up (va_up F 0 (upd (F 0) no x)) 1 (upd (F 1) no y)) nq no np sh nw) H := hP
    have hD : va_D A (Dk cI cZ h a (va_up (va_up F 0 (upd (F 0) no x)) 1 (upd (F 1) no y)) nq no np sh nw) := hD
    refine lv_aload_n hx hb dX0_addOrder_63 rfl (lv_at hl 1 rfl) ?_
    refine va_get (ci := 0) (v := .ref (a 2)) (C := RX0) (T := TX0) (N := 16) hx hb hts hin hown hK hP 0 rfl rfl 2 (by decide) (hts (.fieldLink RX0 16 "CurfewDesk" "orderBehind" "[I") (by decide +kernel)) (fun _ h9 => h9) rfl dX0_addOrder_64 ?_
    refine lv_iload hx hb dX0_addOrder_67 (lv_at hl 0 rfl) ?_
    refine lv_iload_n hx hb dX0_addOrder_69 rfl (lv_at hl 4 rfl) ?_
    refine w_iast hx hb hK hP hD hS 3 0 rfl rfl (f := (F 2)) (j := no) (by omega) (by omega) dX0_addOrder_70 (fun H locs hP hD hS => ?_)
    have hP : va_P G vwCl (Dk cI cZ h a (va_up (va_up (va_up F 0 (upd (F 0) no x)) 1 (upd (F 1) no y)) 2 (upd (F 2) no z)) nq no np sh nw) H := hP
    have hD : va_D A (Dk cI cZ h a (va_up (va_up (va_up F 0 (upd (F 0) no x)) 1 (upd (F 1) no y)) 2 (upd (F 2) no z)) nq no np sh nw) := hD
    refine lv_aload_n hx hb dX0_addOrder_71 rfl (lv_at hl 1 rfl) ?_
    refine va_get (ci := 0) (v := .ref (a 3)) (C := RX0) (T := TX0) (N := 16) hx hb hts hin hown hK hP 0 rfl rfl 3 (by decide) (hts (.fieldLink RX0 19 "CurfewDesk" "orderColour" "[I") (by decide +kernel)) (fun _ h9 => h9) rfl dX0_addOrder_72 ?_
    refine lv_iload hx hb dX0_addOrder_75 (lv_at hl 0 rfl) ?_
    refine lv_iload hx hb dX0_addOrder_77 (lv_at hl 5 rfl) ?_
    refine w_iast hx hb hK hP hD hS 4 0 rfl rfl (f := (F 3)) (j := no) (by omega) (by omega) dX0_addOrder_79 (fun H locs hP hD hS => ?_)
    have hP : va_P G vwCl (Dk cI cZ h a (va_up (va_up (va_up (va_up F 0 (upd (F 0) no x)) 1 (upd (F 1) no y)) 2 (upd (F 2) no z)) 3 (upd (F 3) no v)) nq no np sh nw) H := hP
    have hD : va_D A (Dk cI cZ h a (va_up (va_up (va_up (va_up F 0 (upd (F 0) no x)) 1 (upd (F 1) no y)) 2 (upd (F 2) no z)) 3 (upd (F 3) no v)) nq no np sh nw) := hD
    refine lv_aload_n hx hb dX0_addOrder_80 rfl (lv_at hl 1 rfl) ?_
    refine va_get (ci := 0) (v := .ref (a 4)) (C := RX0) (T := TX0) (N := 16) hx hb hts hin hown hK hP 0 rfl rfl 4 (by decide) (hts (.fieldLink RX0 22 "CurfewDesk" "orderInForce" "[Z") (by decide +kernel)) (fun _ h9 => h9) rfl dX0_addOrder_81 ?_
    refine lv_iload hx hb dX0_addOrder_84 (lv_at hl 0 rfl) ?_
    refine lv_iconst (v := 1) hx hb dX0_addOrder_86 (by decide) ?_
    refine w_zast hx hb hK hP hD hS 5 1 rfl rfl (f := (F 4)) (j := no) (by omega) (by omega) (rfl) dX0_addOrder_87 (fun H locs hP hD hS => ?_)
    have hP : va_P G vwCl (Dk cI cZ h a (va_up (va_up (va_up (va_up (va_up F 0 (upd (F 0) no x)) 1 (upd (F 1) no y)) 2 (upd (F 2) no z)) 3 (upd (F 3) no v)) 4 (upd (F 4) no 1)) nq no np sh nw) H := hP
    have hD : va_D A (Dk cI cZ h a (va_up (va_up (va_up (va_up (va_up F 0 (upd (F 0) no x)) 1 (upd (F 1) no y)) 2 (upd (F 2) no z)) 3 (upd (F 3) no v)) 4 (upd (F 4) no 1)) nq no np sh nw) := hD
    refine lv_aload_n hx hb dX0_addOrder_88 rfl (lv_at hl 1 rfl) ?_
    refine lv_dup hx hb dX0_addOrder_89 rfl ?_
    refine va_get (ci := 0) (v := .int (nI no)) (C := RX0) (T := TX0) (N := 16) hx hb hts hin hown hK hP 0 rfl rfl 12 (by decide) (hts (.fieldLink RX0 74 "CurfewDesk" "orderCount" "I") (by decide +kernel)) (fun _ h9 => h9) rfl dX0_addOrder_90 ?_
    refine lv_iconst (v := 1) hx hb dX0_addOrder_93 (by decide) ?_
    refine lv_iadd hx hb dX0_addOrder_94 ?_
    rw [nI_1]
    refine va_put (ci := 0) (v := .int (nI (no + 1))) (ty := .int) (C := RX0) (T := TX0) (N := 16) hx hb hts hin tyX0 tyX0_ok nmX0 hown hK hP hD hS 0 rfl rfl 12 (by decide) (hts (.fieldLink RX0 74 "CurfewDesk" "orderCount" "I") (by decide +kernel)) (fun _ h9 => h9) rfl (by decide +kernel) rfl rfl (Nat.le_of_ble_eq_true rfl) dX0_addOrder_95 (fun H locs hP hD hS => ?_)
    have hP : va_P G vwCl (Dk cI cZ h a (va_up (va_up (va_up (va_up (va_up F 0 (upd (F 0) no x)) 1 (upd (F 1) no y)) 2 (upd (F 2) no z)) 3 (upd (F 3) no v)) 4 (upd (F 4) no 1)) nq (no + 1) np sh nw) H := hP
    have hD : va_D A (Dk cI cZ h a (va_up (va_up (va_up (va_up (va_up F 0 (upd (F 0) no x)) 1 (upd (F 1) no y)) 2 (upd (F 2) no z)) 3 (upd (F 3) no v)) 4 (upd (F 4) no 1)) nq (no + 1) np sh nw) := hD
    refine lv_iload hx hb dX0_addOrder_98 (lv_at hl 0 rfl) ?_
    exact w_iret () hx hb hr hlocks hK hP hD hS (Nat.le_of_ble_eq_true rfl) (Nat.le_of_ble_eq_true rfl) dX0_addOrder_100 (show (nI no) = nI no from by rfl)
  · have q28 := mt (nI_ltI (a := no) (b := 10) (by omega) (by omega)).mpr c28
    exact absurd ho9 q28
set_option maxHeartbeats 4000000 in
set_option maxRecDepth 100000 in
theorem c_X0_pass (l : Launch) (G : va_G) (cI cZ : ClassId) (h : Nat) (a : Nat → Nat) (F : Nat → Nat → Int32) (nq no np : Nat) (sh nw : Int32) (sz : Nat) (x : Int32) (hno : no ≤ 10) (hx9 : p_wi x 1 200 = true) : Met l yX0_pass wsX0_pass ({ frames := 5, cells := 0, slots := 0, locals := 114 } : Room) (va_Pc [.ref h, .int x] (wPre G (ty2 cI cZ) (Dk cI cZ h a F nq no np sh nw) sz)) (va_Qi (fun (r : Int32) (_ : Unit) => r = a_pa F sh nw no x.toNatClampNeg) (fun _ => wP G (ty2 cI cZ) (Dk cI cZ h a F nq no np sh (nw + x)) (va_A (Dk cI cZ h a F nq no np sh nw) sz)) (va_A (Dk cI cZ h a F nq no np sh nw) sz)) 0 0 (va_A (Dk cI cZ h a F nq no np sh nw) sz) := by
  refine w_met (cc := cX0_pass) (maxL := 4) (ret := (some .int)) (by decide) rfl (Nat.le_of_ble_eq_true rfl) ?_
  intro pg e s m below meth cd hx hb hml hr hts hown hlocks hnm hK hsz hP hD hA hS ls hl
  have hown : s.vm.findClass RX0 = some m.cls := hown
  have hin : ∀ w ∈ wsX00, w ∈ wsX0_pass := by decide +kernel
  have hl : lv_has ls 4 [(0, .ref h), (1, .int x)] := hl
  generalize hAe : va_A (Dk cI cZ h a F nq no np sh nw) sz = A at hD hA hS ⊢
  refine lv_iload_n hx hb dX0_pass_0 rfl (lv_at hl 1 rfl) ?_
  refine lv_iconst (v := 1) hx hb dX0_pass_1 (by decide) ?_
  refine lv_sipush (v := 200) hx hb dX0_pass_2 (by decide) ?_
  refine w_st_v (va_runS (As := [.int x, .int 1, .int 200]) (rest := []) ⟨hx, hb, hml, hown, hts⟩ (c_X0_requireWithin l G s.heap.size x 1 200 (hx9)) (va_cwS 3 hts gX0_pass_X0_requireWithin rfl rfl rfl (by decide +kernel) ⟨(Nat.le_of_ble_eq_true rfl), (Nat.le_of_ble_eq_true rfl)⟩) ⟨wPre_blind, w_pre (hK.sub [] rfl) w_P0 (w_D0 (A := A))⟩ rfl rfl hl.1 rfl (lv_room (Nat.le_of_ble_eq_true rfl)) dX0_pass_5 ⟨(Nat.le_of_ble_eq_true rfl), (Nat.le_of_ble_eq_true rfl)⟩) hP hS hA (fun u5 H locs hw5 hP hS => ?_)
  obtain ⟨j, hj, rfl⟩ := pwi_ofn (b := 200) (by decide) (by decide) hx9
  refine lv_iconst (v := 0) hx hb dX0_pass_8 (by decide) ?_
  refine lv_istore_n (lv' := [(2, .int 0), (0, .ref h), (1, .int (nI j))]) hx hb dX0_pass_9 rfl hl (by decide) rfl (fun ls hl => ?_)
  refine lv_iconst (v := 0) hx hb dX0_pass_10 (by decide) ?_
  refine lv_istore_n (lv' := [(3, .int 0), (2, .int 0), (0, .ref h), (1, .int (nI j))]) hx hb dX0_pass_11 rfl hl (by decide) rfl (fun ls hl => ?_)
  have key12 : ∀ (n i12 : Nat), i12 ≤ no → no < i12 + n → ∀ (x2 : Int32) (x3 : Int32), x2 = p_sm (fun o => nI (p_ct (p_tb F sh nw o) j)) i12 → x3 = nI i12 → ∀ (H : Heap) (locs : List Loc), va_P G vwCl (Dk cI cZ h a F nq no np sh nw) H → va_D A (Dk cI cZ h a F nq no np sh nw) → va_S A s.heap H locs → ∀ ls : Array Slot, lv_has ls 4 [(0, .ref h), (1, .int (nI j)), (2, .int x2), (3, .int x3)] → W pg l e ({ frames := 5, cells := 0, slots := 0, locals := 114 } : Room) s m ([.ref h, .int (nI j)] : List Value).toArray below meth cd H locs (0 + 0) (0 + 0) (MQ below (va_Qi (fun (r : Int32) (_ : Unit) => r = a_pa F sh nw no (nI j).toNatClampNeg) (fun _ => wP G (ty2 cI cZ) (Dk cI cZ h a F nq no np sh (nw + (nI j))) A) A) ([.ref h, .int (nI j)] : List Value).toArray s 0 0 A) (F0 m 12 ls []) := by
    intro n
    induction n with
    | zero => intro i12 h1 h2; exact absurd h2 (by omega)
    | succ n ih12 =>
      intro i12 hi_i12 hn_i12 x2 x3 e2 e3 H locs hP hD hS ls hl
      subst e2 e3
      refine lv_iload_n hx hb dX0_pass_12 rfl (lv_at hl 3 rfl) ?_
      refine lv_aload_n hx hb dX0_pass_13 rfl (lv_at hl 0 rfl) ?_
      refine va_get (ci := 0) (v := .int (nI no)) (C := RX0) (T := TX0) (N := 16) hx hb hts hin hown hK hP 0 rfl rfl 12 (by decide) (hts (.fieldLink RX0 74 "CurfewDesk" "orderCount" "I") (by decide +kernel)) (fun _ h9 => h9) rfl dX0_pass_14 ?_
      refine lv_icmp_ge (tgt := 35) hx hb dX0_pass_17 (by decide) (fun c17 => ?_) (fun c17 => ?_)
      · have c17 := (nI_leI (a := no) (b := i12) (by omega) (by omega)).mp c17
        have ei : no = i12 := by omega
        subst ei
        refine lv_aload_n hx hb dX0_pass_35 rfl (lv_at hl 0 rfl) ?_
        refine lv_dup hx hb dX0_pass_36 rfl ?_
        refine va_get (ci := 0) (v := .int nw) (C := RX0) (T := TX0) (N := 16) hx hb hts hin hown hK hP 0 rfl rfl 15 (by decide) (hts (.fieldLink RX0 101 "CurfewDesk" "now" "I") (by decide +kernel)) (fun _ h9 => h9) rfl dX0_pass_37 ?_
        refine lv_iload_n hx hb dX0_pass_40 rfl (lv_at hl 1 rfl) ?_
        refine lv_iadd hx hb dX0_pass_41 ?_
        refine va_put (ci := 0) (v := .int (nw + (nI j))) (ty := .int) (C := RX0) (T := TX0) (N := 16) hx hb hts hin tyX0 tyX0_ok nmX0 hown hK hP hD hS 0 rfl rfl 15 (by decide) (hts (.fieldLink RX0 101 "CurfewDesk" "now" "I") (by decide +kernel)) (fun _ h9 => h9) rfl (by decide +kernel) rfl rfl (Nat.le_of_ble_eq_true rfl) dX0_pass_42 (fun H locs hP hD hS => ?_)
        have hP : va_P G vwCl (Dk cI cZ h a F nq no np sh (nw + (nI j))) H := hP
        have hD : va_D A (Dk cI cZ h a F nq no np sh (nw + (nI j))) := hD
        refine lv_iload_n hx hb dX0_pass_45 rfl (lv_at hl 2 rfl) ?_
        exact w_iret () hx hb hr hlocks hK hP hD hS (Nat.le_of_ble_eq_true rfl) (Nat.le_of_ble_eq_true rfl) dX0_pass_46 (show (p_sm (fun o => nI (p_ct (p_tb F sh nw o) j)) no) = a_pa F sh nw no (nI j).toNatClampNeg from by rw [a_pa, nI_clamp (show j < 2 ^ 31 by omega)])
      · have c17 := mt (nI_leI (a := no) (b := i12) (by omega) (by omega)).mpr c17
        have hlt_i12 : i12 < no := by omega
        refine lv_iload_n hx hb dX0_pass_20 rfl (lv_at hl 2 rfl) ?_
        refine lv_aload_n hx hb dX0_pass_21 rfl (lv_at hl 0 rfl) ?_
        refine lv_iload_n hx hb dX0_pass_22 rfl (lv_at hl 3 rfl) ?_
        refine lv_iload_n hx hb dX0_pass_23 rfl (lv_at hl 1 rfl) ?_
        refine w_in_i (va_runV (As := [.int (nI i12), .int (nI j)]) (rest := [.int (p_sm (fun o => nI (p_ct (p_tb F sh nw o) j)) i12)]) ⟨hx, hb, hml, hown, hts⟩ (c_X0_timesBegun l G cI cZ h a F nq no np sh nw H.size i12 j (by omega) (by omega)) (cwV 2 hts gX0_pass_X0_timesBegun rfl rfl rfl (by decide +kernel) ⟨(Nat.le_of_ble_eq_true rfl), (Nat.le_of_ble_eq_true rfl)⟩) ⟨wPre_blind, va_recv hK hP (ci := 0) (q0 := 0) rfl rfl, w_pre hK hP hD⟩ rfl rfl hl.1 rfl (lv_room (Nat.le_of_ble_eq_true rfl)) dX0_pass_24 ⟨(Nat.le_of_ble_eq_true rfl), (Nat.le_of_ble_eq_true rfl)⟩) hD hS hA (fun r24 u24 H locs hw24 hP hD hS => ?_)
        have hP : va_P G vwCl (Dk cI cZ h a F nq no np sh nw) H := hP
        have hD : va_D A (Dk cI cZ h a F nq no np sh nw) := hD
        have hw24 : r24 = nI (p_ct (p_tb F sh nw i12) j) := hw24
        subst hw24
        refine lv_iadd hx hb dX0_pass_27 ?_
        refine lv_istore_n (lv' := [(2, .int ((p_sm (fun o => nI (p_ct (p_tb F sh nw o) j)) i12) + (nI (p_ct (p_tb F sh nw i12) j)))), (0, .ref h), (1, .int (nI j)), (3, .int (nI i12))]) hx hb dX0_pass_28 rfl hl (by decide) rfl (fun ls hl => ?_)
        refine lv_iinc (v := nI i12 + 1) (lv' := [(3, .int (nI i12 + 1)), (2, .int ((p_sm (fun o => nI (p_ct (p_tb F sh nw o) j)) i12) + (nI (p_ct (p_tb F sh nw i12) j)))), (0, .ref h), (1, .int (nI j))]) hx hb dX0_pass_29 hl (k := 3) rfl rfl (by decide) rfl (fun ls hl => ?_)
        refine lv_goto (tgt := 12) hx hb dX0_pass_32 (by decide) ?_
        exact ih12 (i12 + 1) (by omega) (by omega) ((p_sm (fun o => nI (p_ct (p_tb F sh nw o) j)) i12) + (nI (p_ct (p_tb F sh nw i12) j))) (nI i12 + 1) (by rfl) (by first | exact nI_1 _ | exact nct_t (by assumption) | exact nct_f (by assumption) | exact nct_b | rfl) _ _ hP hD hS _ (lv_sub hl [2, 3, 1, 0] rfl)
  exact key12 (no + 1) 0 (by omega) (by omega) 0 0 (by first | rfl | simp [p_ct, p_sm, p_fl, p_fg, nI_0]) (by first | rfl | simp [p_ct, p_sm, p_fl, p_fg, nI_0]) _ _ hP hD hS _ (lv_sub hl [2, 3, 1, 0] rfl)
