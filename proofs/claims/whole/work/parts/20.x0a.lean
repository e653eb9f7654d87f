set_option maxHeartbeats 4000000 in
set_option maxRecDepth 100000 in
theorem c_X0_fold (l : Launch) (G : va_G) (sz : Nat) (d : Int64) (x : Int32) : Met l yX0_fold wsX0_fold ({ frames := 0, cells := 0, slots := 0, locals := 0 } : Room) (va_Pc [.long d, .int x] (wPre G [] [] sz)) (va_Ql (fun (r : Int64) (_ : Unit) => r = p_fold d x) (fun _ => wP G [] [] (va_A [] sz)) (va_A [] sz)) 0 0 (va_A [] sz) := by
  refine w_met (cc := cX0_fold) (maxL := 3) (ret := (some .long)) (by decide) rfl (Nat.le_of_ble_eq_true rfl) ?_
  intro pg e s m below meth cd hx hb hml hr hts hown hlocks hnm hK hsz hP hD hA hS ls hl
  have hown : s.vm.findClass RX0 = some m.cls := hown
  have hl : lv_has ls 3 [(0, .long d), (2, .int x)] := hl
  generalize hAe : va_A [] sz = A at hD hA hS ⊢
  refine lv_lload_n hx hb dX0_fold_0 rfl (lv_at hl 0 rfl) ?_
  refine lv_ldc2 (v := 31) hx hb hown (hts (.constantLong RX0 182 (31)) (by decide +kernel)) dX0_fold_1 ?_
  refine lv_lmul hx hb dX0_fold_4 ?_
  refine lv_iload_n hx hb dX0_fold_5 rfl (lv_at hl 1 rfl) ?_
  refine lv_i2l (v := x.toInt64) hx hb dX0_fold_6 rfl ?_
  refine lv_ladd hx hb dX0_fold_7 ?_
  exact w_lret () hx hb hr hlocks hK hP hD hS (Nat.le_of_ble_eq_true rfl) (Nat.le_of_ble_eq_true rfl) dX0_fold_8 (show ((d * 31) + x.toInt64) = p_fold d x from by rfl)
set_option maxHeartbeats 4000000 in
set_option maxRecDepth 100000 in
theorem c_X0_oneIf (l : Launch) (G : va_G) (sz : Nat) (z : Int32) : Met l yX0_oneIf wsX0_oneIf ({ frames := 0, cells := 0, slots := 0, locals := 0 } : Room) (va_Pc [.int z] (wPre G [] [] sz)) (va_Qi (fun (r : Int32) (_ : Unit) => r = b2i (!decide (z = 0))) (fun _ => wP G [] [] (va_A [] sz)) (va_A [] sz)) 0 0 (va_A [] sz) := by
  refine w_met (cc := cX0_oneIf) (maxL := 1) (ret := (some .int)) (by decide) rfl (Nat.le_of_ble_eq_true rfl) ?_
  intro pg e s m below meth cd hx hb hml hr hts hown hlocks hnm hK hsz hP hD hA hS ls hl
  have hown : s.vm.findClass RX0 = some m.cls := hown
  have hl : lv_has ls 1 [(0, .int z)] := hl
  generalize hAe : va_A [] sz = A at hD hA hS ⊢
  refine lv_iload_n hx hb dX0_oneIf_0 rfl (lv_at hl 0 rfl) ?_
  refine w_selE (v1 := 1) (v2 := 0) hx hb dX0_oneIf_1 (by decide) dX0_oneIf_4 (by decide) dX0_oneIf_5 (by decide) dX0_oneIf_8 (by decide) ?_
  rw [b2i_z]
  exact w_iret () hx hb hr hlocks hK hP hD hS (Nat.le_of_ble_eq_true rfl) (Nat.le_of_ble_eq_true rfl) dX0_oneIf_9 (show (b2i (!decide (z = 0))) = b2i (!decide (z = 0)) from by rfl)
set_option maxHeartbeats 4000000 in
set_option maxRecDepth 100000 in
theorem c_X0_tideOf (l : Launch) (G : va_G) (sz : Nat) (d : Int32) : Met l yX0_tideOf wsX0_tideOf ({ frames := 0, cells := 0, slots := 0, locals := 0 } : Room) (va_Pc [.int d] (wPre G [] [] sz)) (va_Qi (fun (r : Int32) (_ : Unit) => r = p_tide d) (fun _ => wP G [] [] (va_A [] sz)) (va_A [] sz)) 0 0 (va_A [] sz) := by
  refine w_met (cc := cX0_tideOf) (maxL := 2) (ret := (some .int)) (by decide) rfl (Nat.le_of_ble_eq_true rfl) ?_
  intro pg e s m below meth cd hx hb hml hr hts hown hlocks hnm hK hsz hP hD hA hS ls hl
  have hown : s.vm.findClass RX0 = some m.cls := hown
  have hl : lv_has ls 2 [(0, .int d)] := hl
  generalize hAe : va_A [] sz = A at hD hA hS ⊢
  refine lv_iload_n hx hb dX0_tideOf_0 rfl (lv_at hl 0 rfl) ?_
  refine lv_bipush (v := 40) hx hb dX0_tideOf_1 (by decide) ?_
  refine lv_irem hx hb dX0_tideOf_3 (by decide) ?_
  refine lv_istore_n (lv' := [(1, .int (d - d / 40 * 40)), (0, .int d)]) hx hb dX0_tideOf_4 rfl hl (by decide) rfl (fun ls hl => ?_)
  refine lv_iload_n hx hb dX0_tideOf_5 rfl (lv_at hl 0 rfl) ?_
  refine lv_bipush (v := 20) hx hb dX0_tideOf_6 (by decide) ?_
  refine lv_icmp_ge (tgt := 15) hx hb dX0_tideOf_8 (by decide) (fun c8 => ?_) (fun c8 => ?_)
  · refine lv_bipush (v := 39) hx hb dX0_tideOf_15 (by decide) ?_
    refine lv_iload_n hx hb dX0_tideOf_17 rfl (lv_at hl 0 rfl) ?_
    refine lv_isub hx hb dX0_tideOf_18 ?_
    refine lv_iconst (v := 4) hx hb dX0_tideOf_19 (by decide) ?_
    refine lv_idiv hx hb dX0_tideOf_20 (by decide) ?_
    exact w_iret () hx hb hr hlocks hK hP hD hS (Nat.le_of_ble_eq_true rfl) (Nat.le_of_ble_eq_true rfl) dX0_tideOf_21 (show ((39 - (d - d / 40 * 40)) / 4) = p_tide d from by first | rw [p_tide, if_pos c8] | rw [p_tide, if_neg c8])
  · refine lv_iload_n hx hb dX0_tideOf_11 rfl (lv_at hl 0 rfl) ?_
    refine lv_iconst (v := 4) hx hb dX0_tideOf_12 (by decide) ?_
    refine lv_idiv hx hb dX0_tideOf_13 (by decide) ?_
    exact w_iret () hx hb hr hlocks hK hP hD hS (Nat.le_of_ble_eq_true rfl) (Nat.le_of_ble_eq_true rfl) dX0_tideOf_14 (show ((d - d / 40 * 40) / 4) = p_tide d from by first | rw [p_tide, if_pos c8] | rw [p_tide, if_neg c8])
set_option maxHeartbeats 4000000 in
set_option maxRecDepth 100000 in
theorem c_X0_duskOf (l : Launch) (G : va_G) (cI cZ : ClassId) (h : Nat) (a : Nat → Nat) (F : Nat → Nat → Int32) (nq no np : Nat) (sh nw : Int32) (sz : Nat) (d : Int32) : Met l yX0_duskOf wsX0_duskOf ({ frames := 1, cells := 0, slots := 0, locals := 21 } : Room) (va_Pc [.ref h, .int d] (wPre G (ty2 cI cZ) (Dk cI cZ h a F nq no np sh nw) sz)) (va_Qi (fun (r : Int32) (_ : Unit) => r = p_dusk d sh) (fun _ => wP G (ty2 cI cZ) (Dk cI cZ h a F nq no np sh nw) (va_A (Dk cI cZ h a F nq no np sh nw) sz)) (va_A (Dk cI cZ h a F nq no np sh nw) sz)) 0 0 (va_A (Dk cI cZ h a F nq no np sh nw) sz) := by
  refine w_met (cc := cX0_duskOf) (maxL := 2) (ret := (some .int)) (by decide) rfl (Nat.le_of_ble_eq_true rfl) ?_
  intro pg e s m below meth cd hx hb hml hr hts hown hlocks hnm hK hsz hP hD hA hS ls hl
  have hown : s.vm.findClass RX0 = some m.cls := hown
  have hin : ∀ w ∈ wsX00, w ∈ wsX0_duskOf := by decide +kernel
  have hl : lv_has ls 2 [(0, .ref h), (1, .int d)] := hl
  generalize hAe : va_A (Dk cI cZ h a F nq no np sh nw) sz = A at hD hA hS ⊢
  refine lv_bipush (v := 34) hx hb dX0_duskOf_0 (by decide) ?_
  refine lv_iload_n hx hb dX0_duskOf_2 rfl (lv_at hl 1 rfl) ?_
  refine w_st_i (va_runS (As := [.int d]) (rest := [.int 34]) ⟨hx, hb, hml, hown, hts⟩ (c_X0_tideOf l G s.heap.size d ) (va_cwS 1 hts gX0_duskOf_X0_tideOf rfl rfl rfl (by decide +kernel) ⟨(Nat.le_of_ble_eq_true rfl), (Nat.le_of_ble_eq_true rfl)⟩) ⟨wPre_blind, w_pre (hK.sub [] rfl) w_P0 (w_D0 (A := A))⟩ rfl rfl hl.1 rfl (lv_room (Nat.le_of_ble_eq_true rfl)) dX0_duskOf_3 ⟨(Nat.le_of_ble_eq_true rfl), (Nat.le_of_ble_eq_true rfl)⟩) hP hS hA (fun r3 u3 H locs hw3 hP hS => ?_)
  have hw3 : r3 = p_tide d := hw3
  subst hw3
  refine lv_iadd hx hb dX0_duskOf_6 ?_
  refine lv_aload_n hx hb dX0_duskOf_7 rfl (lv_at hl 0 rfl) ?_
  refine va_get (ci := 0) (v := .int sh) (C := RX0) (T := TX0) (N := 16) hx hb hts hin hown hK hP 0 rfl rfl 14 (by decide) (hts (.fieldLink RX0 86 "CurfewDesk" "duskShift" "I") (by decide +kernel)) (fun _ h9 => h9) rfl dX0_duskOf_8 ?_
  refine lv_iadd hx hb dX0_duskOf_11 ?_
  exact w_iret () hx hb hr hlocks hK hP hD hS (Nat.le_of_ble_eq_true rfl) (Nat.le_of_ble_eq_true rfl) dX0_duskOf_12 (show ((34 + (p_tide d)) + sh) = p_dusk d sh from by rfl)
set_option maxHeartbeats 4000000 in
set_option maxRecDepth 100000 in
theorem c_X0_dawnOf (l : Launch) (G : va_G) (sz : Nat) (d : Int32) : Met l yX0_dawnOf wsX0_dawnOf ({ frames := 1, cells := 0, slots := 0, locals := 21 } : Room) (va_Pc [.int d] (wPre G [] [] sz)) (va_Qi (fun (r : Int32) (_ : Unit) => r = p_dawn d) (fun _ => wP G [] [] (va_A [] sz)) (va_A [] sz)) 0 0 (va_A [] sz) := by
  refine w_met (cc := cX0_dawnOf) (maxL := 1) (ret := (some .int)) (by decide) rfl (Nat.le_of_ble_eq_true rfl) ?_
  intro pg e s m below meth cd hx hb hml hr hts hown hlocks hnm hK hsz hP hD hA hS ls hl
  have hown : s.vm.findClass RX0 = some m.cls := hown
  have hl : lv_has ls 1 [(0, .int d)] := hl
  generalize hAe : va_A [] sz = A at hD hA hS ⊢
  refine lv_bipush (v := 14) hx hb dX0_dawnOf_0 (by decide) ?_
  refine lv_iload_n hx hb dX0_dawnOf_2 rfl (lv_at hl 0 rfl) ?_
  refine w_st_i (va_runS (As := [.int d]) (rest := [.int 14]) ⟨hx, hb, hml, hown, hts⟩ (c_X0_tideOf l G s.heap.size d ) (va_cwS 1 hts gX0_dawnOf_X0_tideOf rfl rfl rfl (by decide +kernel) ⟨(Nat.le_of_ble_eq_true rfl), (Nat.le_of_ble_eq_true rfl)⟩) ⟨wPre_blind, w_pre (hK.sub [] rfl) w_P0 (w_D0 (A := A))⟩ rfl rfl hl.1 rfl (lv_room (Nat.le_of_ble_eq_true rfl)) dX0_dawnOf_3 ⟨(Nat.le_of_ble_eq_true rfl), (Nat.le_of_ble_eq_true rfl)⟩) hP hS hA (fun r3 u3 H locs hw3 hP hS => ?_)
  have hw3 : r3 = p_tide d := hw3
  subst hw3
  refine lv_isub hx hb dX0_dawnOf_6 ?_
  exact w_iret () hx hb hr hlocks hK hP hD hS (Nat.le_of_ble_eq_true rfl) (Nat.le_of_ble_eq_true rfl) dX0_dawnOf_7 (show (14 - (p_tide d)) = p_dawn d from by rfl)
set_option maxHeartbeats 4000000 in
set_option maxRecDepth 100000 in
theorem c_X0_stampPlace (l : Launch) (G : va_G) (sz : Nat) (p : Nat) (c : Nat) : Met l yX0_stampPlace wsX0_stampPlace ({ frames := 0, cells := 0, slots := 0, locals := 0 } : Room) (va_Pc [.int (nI p), .int (nI c)] (wPre G [] [] sz)) (va_Qi (fun (r : Int32) (_ : Unit) => r = nI (p * 4 + c)) (fun _ => wP G [] [] (va_A [] sz)) (va_A [] sz)) 0 0 (va_A [] sz) := by
  refine w_met (cc := cX0_stampPlace) (maxL := 2) (ret := (some .int)) (by decide) rfl (Nat.le_of_ble_eq_true rfl) ?_
  intro pg e s m below meth cd hx hb hml hr hts hown hlocks hnm hK hsz hP hD hA hS ls hl
  have hown : s.vm.findClass RX0 = some m.cls := hown
  have hl : lv_has ls 2 [(0, .int (nI p)), (1, .int (nI c))] := hl
  generalize hAe : va_A [] sz = A at hD hA hS ⊢
  refine lv_iload_n hx hb dX0_stampPlace_0 rfl (lv_at hl 0 rfl) ?_
  refine lv_iconst (v := 4) hx hb dX0_stampPlace_1 (by decide) ?_
  refine lv_imul hx hb dX0_stampPlace_2 ?_
  refine lv_iload_n hx hb dX0_stampPlace_3 rfl (lv_at hl 1 rfl) ?_
  refine lv_iadd hx hb dX0_stampPlace_4 ?_
  exact w_iret () hx hb hr hlocks hK hP hD hS (Nat.le_of_ble_eq_true rfl) (Nat.le_of_ble_eq_true rfl) dX0_stampPlace_5 (show (((nI p) * 4) + (nI c)) = nI (p * 4 + c) from by rw [show (4 : Int32) = nI 4 from rfl, pk_mul, nI_add])
set_option maxHeartbeats 4000000 in
set_option maxRecDepth 100000 in
theorem c_X0_isInHours (l : Launch) (G : va_G) (cI cZ : ClassId) (h : Nat) (a : Nat → Nat) (F : Nat → Nat → Int32) (nq no np : Nat) (sh nw : Int32) (sz : Nat) (o : Nat) (t : Int32) (ho : o < 10) : Met l yX0_isInHours wsX0_isInHours ({ frames := 2, cells := 0, slots := 0, locals := 42 } : Room) (va_Pc [.ref h, .int (nI o), .int t] (wPre G (ty2 cI cZ) (Dk cI cZ h a F nq no np sh nw) sz)) (va_Qi (fun (r : Int32) (_ : Unit) => r = b2i (p_at F sh o t)) (fun _ => wP G (ty2 cI cZ) (Dk cI cZ h a F nq no np sh nw) (va_A (Dk cI cZ h a F nq no np sh nw) sz)) (va_A (Dk cI cZ h a F nq no np sh nw) sz)) 0 0 (va_A (Dk cI cZ h a F nq no np sh nw) sz) := by
  refine w_met (cc := cX0_isInHours) (maxL := 5) (ret := (some .boolean)) (by decide) rfl (Nat.le_of_ble_eq_true rfl) ?_
  intro pg e s m below meth cd hx hb hml hr hts hown hlocks hnm hK hsz hP hD hA hS ls hl
  have hown : s.vm.findClass RX0 = some m.cls := hown
  have hin : ∀ w ∈ wsX00, w ∈ wsX0_isInHours := by decide +kernel
  have hl : lv_has ls 5 [(0, .ref h), (1, .int (nI o)), (2, .int t)] := hl
  generalize hAe : va_A (Dk cI cZ h a F nq no np sh nw) sz = A at hD hA hS ⊢
  refine lv_iload_n hx hb dX0_isInHours_0 rfl (lv_at hl 2 rfl) ?_
  refine lv_bipush (v := 48) hx hb dX0_isInHours_1 (by decide) ?_
  refine lv_idiv hx hb dX0_isInHours_3 (by decide) ?_
  refine lv_istore_n (lv' := [(3, .int (t / 48)), (0, .ref h), (1, .int (nI o)), (2, .int t)]) hx hb dX0_isInHours_4 rfl hl (by decide) rfl (fun ls hl => ?_)
  refine lv_iload_n hx hb dX0_isInHours_5 rfl (lv_at hl 3 rfl) ?_
  refine lv_bipush (v := 48) hx hb dX0_isInHours_6 (by decide) ?_
  refine lv_irem hx hb dX0_isInHours_8 (by decide) ?_
  refine lv_istore (lv' := [(4, .int (t - t / 48 * 48)), (3, .int (t / 48)), (0, .ref h), (1, .int (nI o)), (2, .int t)]) hx hb dX0_isInHours_9 hl (by decide) rfl (fun ls hl => ?_)
  refine lv_iload hx hb dX0_isInHours_11 (lv_at hl 0 rfl) ?_
  refine lv_aload_n hx hb dX0_isInHours_13 rfl (lv_at hl 2 rfl) ?_
  refine lv_iload_n hx hb dX0_isInHours_14 rfl (lv_at hl 1 rfl) ?_
  refine w_in_i (va_runV (As := [.int (t / 48)]) (rest := [.int (t - t / 48 * 48)]) ⟨hx, hb, hml, hown, hts⟩ (c_X0_duskOf l G cI cZ h a F nq no np sh nw s.heap.size (t / 48) ) (cwV 1 hts gX0_isInHours_X0_duskOf rfl rfl rfl (by decide +kernel) ⟨(Nat.le_of_ble_eq_true rfl), (Nat.le_of_ble_eq_true rfl)⟩) ⟨wPre_blind, va_recv hK hP (ci := 0) (q0 := 0) rfl rfl, w_pre hK hP hD⟩ rfl rfl hl.1 rfl (lv_room (Nat.le_of_ble_eq_true rfl)) dX0_isInHours_15 ⟨(Nat.le_of_ble_eq_true rfl), (Nat.le_of_ble_eq_true rfl)⟩) hD hS hA (fun r15 u15 H locs hw15 hP hD hS => ?_)
  have hP : va_P G vwCl (Dk cI cZ h a F nq no np sh nw) H := hP
  have hD : va_D A (Dk cI cZ h a F nq no np sh nw) := hD
  have hw15 : r15 = p_dusk (t / 48) sh := hw15
  subst hw15
  refine lv_aload_n hx hb dX0_isInHours_18 rfl (lv_at hl 2 rfl) ?_
  refine va_get (ci := 0) (v := .ref (a 1)) (C := RX0) (T := TX0) (N := 16) hx hb hts hin hown hK hP 0 rfl rfl 1 (by decide) (hts (.fieldLink RX0 13 "CurfewDesk" "orderAhead" "[I") (by decide +kernel)) (fun _ h9 => h9) rfl dX0_isInHours_19 ?_
  refine lv_iload_n hx hb dX0_isInHours_22 rfl (lv_at hl 3 rfl) ?_
  refine w_iald hx hb hK hP 2 0 rfl rfl (f := (F 1)) (j := o) (by omega) (by omega) dX0_isInHours_23 ?_
  refine lv_isub hx hb dX0_isInHours_24 ?_
  refine lv_icmp_ge (tgt := 44) hx hb dX0_isInHours_25 (by decide) (fun c25 => ?_) (fun c25 => ?_)
  · refine lv_iconst (v := 1) hx hb dX0_isInHours_44 (by decide) ?_
    refine lv_goto (tgt := 49) hx hb dX0_isInHours_45 (by decide) ?_
    exact w_zret () hx hb hr hlocks hK hP hD hS (Nat.le_of_ble_eq_true rfl) (Nat.le_of_ble_eq_true rfl) dX0_isInHours_49 rfl (show 1 = b2i (p_at F sh o t) from by simp only [p_at, decide_eq_true c25, Bool.not_true, Bool.not_false, Bool.true_or, Bool.false_or, Bool.or_true, Bool.or_false, Bool.true_and, Bool.false_and, Bool.and_true, Bool.and_false, b2i_T, b2i_F])
  · refine lv_iload hx hb dX0_isInHours_28 (lv_at hl 0 rfl) ?_
    refine lv_iload_n hx hb dX0_isInHours_30 rfl (lv_at hl 1 rfl) ?_
    refine w_st_i (va_runS (As := [.int (t / 48)]) (rest := [.int (t - t / 48 * 48)]) ⟨hx, hb, hml, hown, hts⟩ (c_X0_dawnOf l G H.size (t / 48) ) (va_cwS 1 hts gX0_isInHours_X0_dawnOf rfl rfl rfl (by decide +kernel) ⟨(Nat.le_of_ble_eq_true rfl), (Nat.le_of_ble_eq_true rfl)⟩) ⟨wPre_blind, w_pre (hK.sub [] rfl) w_P0 (w_D0 (A := A))⟩ rfl rfl hl.1 rfl (lv_room (Nat.le_of_ble_eq_true rfl)) dX0_isInHours_31 ⟨(Nat.le_of_ble_eq_true rfl), (Nat.le_of_ble_eq_true rfl)⟩) hP hS hA (fun r31 u31 H locs hw31 hP hS => ?_)
    have hw31 : r31 = p_dawn (t / 48) := hw31
    subst hw31
    refine lv_aload_n hx hb dX0_isInHours_34 rfl (lv_at hl 2 rfl) ?_
    refine va_get (ci := 0) (v := .ref (a 2)) (C := RX0) (T := TX0) (N := 16) hx hb hts hin hown hK hP 0 rfl rfl 2 (by decide) (hts (.fieldLink RX0 16 "CurfewDesk" "orderBehind" "[I") (by decide +kernel)) (fun _ h9 => h9) rfl dX0_isInHours_35 ?_
    refine lv_iload_n hx hb dX0_isInHours_38 rfl (lv_at hl 3 rfl) ?_
    refine w_iald hx hb hK hP 3 0 rfl rfl (f := (F 2)) (j := o) (by omega) (by omega) dX0_isInHours_39 ?_
    refine lv_iadd hx hb dX0_isInHours_40 ?_
    refine lv_icmp_ge (tgt := 48) hx hb dX0_isInHours_41 (by decide) (fun c41 => ?_) (fun c41 => ?_)
    · refine lv_iconst (v := 0) hx hb dX0_isInHours_48 (by decide) ?_
      exact w_zret () hx hb hr hlocks hK hP hD hS (Nat.le_of_ble_eq_true rfl) (Nat.le_of_ble_eq_true rfl) dX0_isInHours_49 rfl (show 0 = b2i (p_at F sh o t) from by simp only [p_at, decide_eq_false c25, decide_eq_true c41, Bool.not_true, Bool.not_false, Bool.true_or, Bool.false_or, Bool.or_true, Bool.or_false, Bool.true_and, Bool.false_and, Bool.and_true, Bool.and_false, b2i_T, b2i_F])
    · refine lv_iconst (v := 1) hx hb dX0_isInHours_44 (by decide) ?_
      refine lv_goto (tgt := 49) hx hb dX0_isInHours_45 (by decide) ?_
      exact w_zret () hx hb hr hlocks hK hP hD hS (Nat.le_of_ble_eq_true rfl) (Nat.le_of_ble_eq_true rfl) dX0_isInHours_49 rfl (show 1 = b2i (p_at F sh o t) from by simp only [p_at, decide_eq_false c25, decide_eq_false c41, Bool.not_true, Bool.not_false, Bool.true_or, Bool.false_or, Bool.or_true, Bool.or_false, Bool.true_and, Bool.false_and, Bool.and_true, Bool.and_false, b2i_T, b2i_F])
set_option maxHeartbeats 4000000 in
set_option maxRecDepth 100000 in
theorem c_X0_isOnAt (l : Launch) (G : va_G) (cI cZ : ClassId) (h : Nat) (a : Nat → Nat) (F : Nat → Nat → Int32) (nq no np : Nat) (sh nw : Int32) (sz : Nat) (o : Nat) (t : Int32) (ho : o < 10) : Met l yX0_isOnAt wsX0_isOnAt ({ frames := 3, cells := 0, slots := 0, locals := 66 } : Room) (va_Pc [.ref h, .int (nI o), .int t] (wPre G (ty2 cI cZ) (Dk cI cZ h a F nq no np sh nw) sz)) (va_Qi (fun (r : Int32) (_ : Unit) => r = b2i (p_on F sh o t)) (fun _ => wP G (ty2 cI cZ) (Dk cI cZ h a F nq no np sh nw) (va_A (Dk cI cZ h a F nq no np sh nw) sz)) (va_A (Dk cI cZ h a F nq no np sh nw) sz)) 0 0 (va_A (Dk cI cZ h a F nq no np sh nw) sz) := by
  refine w_met (cc := cX0_isOnAt) (maxL := 3) (ret := (some .boolean)) (by decide) rfl (Nat.le_of_ble_eq_true rfl) ?_
  intro pg e s m below meth cd hx hb hml hr hts hown hlocks hnm hK hsz hP hD hA hS ls hl
  have hown : s.vm.findClass RX0 = some m.cls := hown
  have hin : ∀ w ∈ wsX00, w ∈ wsX0_isOnAt := by decide +kernel
  have hl : lv_has ls 3 [(0, .ref h), (1, .int (nI o)), (2, .int t)] := hl
  generalize hAe : va_A (Dk cI cZ h a F nq no np sh nw) sz = A at hD hA hS ⊢
  refine lv_aload_n hx hb dX0_isOnAt_0 rfl (lv_at hl 0 rfl) ?_
  refine va_get (ci := 0) (v := .ref (a 4)) (C := RX0) (T := TX0) (N := 16) hx hb hts hin hown hK hP 0 rfl rfl 4 (by decide) (hts (.fieldLink RX0 22 "CurfewDesk" "orderInForce" "[Z") (by decide +kernel)) (fun _ h9 => h9) rfl dX0_isOnAt_1 ?_
  refine lv_iload_n hx hb dX0_isOnAt_4 rfl (lv_at hl 1 rfl) ?_
  refine w_zald hx hb hK hP 5 1 rfl rfl (f := (F 4)) (j := o) (by omega) (by omega) dX0_isOnAt_5 ?_
  refine lv_if_eq (tgt := 22) hx hb dX0_isOnAt_6 (by decide) (fun c6 => ?_) (fun c6 => ?_)
  · refine lv_iconst (v := 0) hx hb dX0_isOnAt_22 (by decide) ?_
    exact w_zret () hx hb hr hlocks hK hP hD hS (Nat.le_of_ble_eq_true rfl) (Nat.le_of_ble_eq_true rfl) dX0_isOnAt_23 rfl (show 0 = b2i (p_on F sh o t) from by simp only [p_on, decide_eq_true c6, Bool.not_true, Bool.not_false, Bool.true_or, Bool.false_or, Bool.or_true, Bool.or_false, Bool.true_and, Bool.false_and, Bool.and_true, Bool.and_false, b2i_T, b2i_F])
  · refine lv_aload_n hx hb dX0_isOnAt_9 rfl (lv_at hl 0 rfl) ?_
    refine lv_iload_n hx hb dX0_isOnAt_10 rfl (lv_at hl 1 rfl) ?_
    refine lv_iload_n hx hb dX0_isOnAt_11 rfl (lv_at hl 2 rfl) ?_
    refine w_in_i (va_runV (As := [.int (nI o), .int t]) (rest := []) ⟨hx, hb, hml, hown, hts⟩ (c_X0_isInHours l G cI cZ h a F nq no np sh nw s.heap.size o t (by omega)) (cwV 2 hts gX0_isOnAt_X0_isInHours rfl rfl rfl (by decide +kernel) ⟨(Nat.le_of_ble_eq_true rfl), (Nat.le_of_ble_eq_true rfl)⟩) ⟨wPre_blind, va_recv hK hP (ci := 0) (q0 := 0) rfl rfl, w_pre hK hP hD⟩ rfl rfl hl.1 rfl (lv_room (Nat.le_of_ble_eq_true rfl)) dX0_isOnAt_12 ⟨(Nat.le_of_ble_eq_true rfl), (Nat.le_of_ble_eq_true rfl)⟩) hD hS hA (fun r12 u12 H locs hw12 hP hD hS => ?_)
    have hP : va_P G vwCl (Dk cI cZ h a F nq no np sh nw) H := hP
    have hD : va_D A (Dk cI cZ h a F nq no np sh nw) := hD
    have hw12 : r12 = b2i (p_at F sh o t) := hw12
    subst hw12
    refine w_selE (v1 := 1) (v2 := 0) hx hb dX0_isOnAt_15 (by decide) dX0_isOnAt_18 (by decide) dX0_isOnAt_19 (by decide) dX0_isOnAt_22 (by decide) ?_
    rw [b2i_sel]
    exact w_zret () hx hb hr hlocks hK hP hD hS (Nat.le_of_ble_eq_true rfl) (Nat.le_of_ble_eq_true rfl) dX0_isOnAt_23 (b2i_n _) (show (b2i (p_at F sh o t)) = b2i (p_on F sh o t) from by simp only [p_on, decide_eq_false c6, Bool.not_true, Bool.not_false, Bool.true_or, Bool.false_or, Bool.or_true, Bool.or_false, Bool.true_and, Bool.false_and, Bool.and_true, Bool.and_false, b2i_T, b2i_F])
set_option maxHeartbeats 4000000 in
set_option maxRecDepth 100000 in
theorem c_X0_exempts (l : Launch) (G : va_G) (cI cZ : ClassId) (h : Nat) (a : Nat → Nat) (F : Nat → Nat → Int32) (nq no np : Nat) (sh nw : Int32) (sz : Nat) (o : Nat) (tr : Int32) (ho : o < 10) : Met l yX0_exempts wsX0_exempts ({ frames := 0, cells := 0, slots := 0, locals := 0 } : Room) (va_Pc [.ref h, .int (nI o), .int tr] (wPre G (ty2 cI cZ) (Dk cI cZ h a F nq no np sh nw) sz)) (va_Qi (fun (r : Int32) (_ : Unit) => r = b2i (p_ex F o tr)) (fun _ => wP G (ty2 cI cZ) (Dk cI cZ h a F nq no np sh nw) (va_A (Dk cI cZ h a F nq no np sh nw) sz)) (va_A (Dk cI cZ h a F nq no np sh nw) sz)) 0 0 (va_A (Dk cI cZ h a F nq no np sh nw) sz) := by
  refine w_met (cc := cX0_exempts) (maxL := 3) (ret := (some .boolean)) (by decide) rfl (Nat.le_of_ble_eq_true rfl) ?_
  intro pg e s m below meth cd hx hb hml hr hts hown hlocks hnm hK hsz hP hD hA hS ls hl
  have hown : s.vm.findClass RX0 = some m.cls := hown
  have hin : ∀ w ∈ wsX00, w ∈ wsX0_exempts := by decide +kernel
  have hl : lv_has ls 3 [(0, .ref h), (1, .int (nI o)), (2, .int tr)] := hl
  generalize hAe : va_A (Dk cI cZ h a F nq no np sh nw) sz = A at hD hA hS ⊢
  refine lv_aload_n hx hb dX0_exempts_0 rfl (lv_at hl 0 rfl) ?_
  refine va_get (ci := 0) (v := .ref (a 5)) (C := RX0) (T := TX0) (N := 16) hx hb hts hin hown hK hP 0 rfl rfl 5 (by decide) (hts (.fieldLink RX0 26 "CurfewDesk" "orderExempt" "[I") (by decide +kernel)) (fun _ h9 => h9) rfl dX0_exempts_1 ?_
  refine lv_iload_n hx hb dX0_exempts_4 rfl (lv_at hl 1 rfl) ?_
  refine w_iald hx hb hK hP 6 0 rfl rfl (f := (F 5)) (j := o) (by omega) (by omega) dX0_exempts_5 ?_
  refine lv_iload_n hx hb dX0_exempts_6 rfl (lv_at hl 2 rfl) ?_
  refine lv_ishr hx hb dX0_exempts_7 ?_
  refine lv_iconst (v := 1) hx hb dX0_exempts_8 (by decide) ?_
  refine lv_iand hx hb dX0_exempts_9 ?_
  refine w_selE (v1 := 1) (v2 := 0) hx hb dX0_exempts_10 (by decide) dX0_exempts_13 (by decide) dX0_exempts_14 (by decide) dX0_exempts_17 (by decide) ?_
  rw [b2i_z]
  exact w_zret () hx hb hr hlocks hK hP hD hS (Nat.le_of_ble_eq_true rfl) (Nat.le_of_ble_eq_true rfl) dX0_exempts_18 (b2i_n _) (show (b2i (!decide ((((F 5) o) >>> (tr &&& 31)) &&& 1 = 0))) = b2i (p_ex F o tr) from by rfl)
set_option maxHeartbeats 4000000 in
set_option maxRecDepth 100000 in
theorem c_X0_bars (l : Launch) (G : va_G) (cI cZ : ClassId) (h : Nat) (a : Nat → Nat) (F : Nat → Nat → Int32) (nq no np : Nat) (sh nw : Int32) (sz : Nat) (o : Nat) (p : Nat) (q : Int32) (t : Int32) (ho : o < 10) (hp : p < 20) : Met l yX0_bars wsX0_bars ({ frames := 3, cells := 0, slots := 0, locals := 66 } : Room) (va_Pc [.ref h, .int (nI o), .int (nI p), .int q, .int t] (wPre G (ty2 cI cZ) (Dk cI cZ h a F nq no np sh nw) sz)) (va_Qi (fun (r : Int32) (_ : Unit) => r = b2i (p_bars F sh o p q t)) (fun _ => wP G (ty2 cI cZ) (Dk cI cZ h a F nq no np sh nw) (va_A (Dk cI cZ h a F nq no np sh nw) sz)) (va_A (Dk cI cZ h a F nq no np sh nw) sz)) 0 0 (va_A (Dk cI cZ h a F nq no np sh nw) sz) := by
  refine w_met (cc := cX0_bars) (maxL := 5) (ret := (some .boolean)) (by decide) rfl (Nat.le_of_ble_eq_true rfl) ?_
  intro pg e s m below meth cd hx hb hml hr hts hown hlocks hnm hK hsz hP hD hA hS ls hl
  have hown : s.vm.findClass RX0 = some m.cls := hown
  have hin : ∀ w ∈ wsX00, w ∈ wsX0_bars := by decide +kernel
  have hl : lv_has ls 5 [(0, .ref h), (1, .int (nI o)), (2, .int (nI p)), (3, .int q), (4, .int t)] := hl
  generalize hAe : va_A (Dk cI cZ h a F nq no np sh nw) sz = A at hD hA hS ⊢
  refine lv_aload_n hx hb dX0_bars_0 rfl (lv_at hl 0 rfl) ?_
  refine va_get (ci := 0) (v := .ref (a 0)) (C := RX0) (T := TX0) (N := 16) hx hb hts hin hown hK hP 0 rfl rfl 0 (by decide) (hts (.fieldLink RX0 9 "CurfewDesk" "orderQuarter" "[I") (by decide +kernel)) (fun _ h9 => h9) rfl dX0_bars_1 ?_
  refine lv_iload_n hx hb dX0_bars_4 rfl (lv_at hl 1 rfl) ?_
  refine w_iald hx hb hK hP 1 0 rfl rfl (f := (F 0)) (j := o) (by omega) (by omega) dX0_bars_5 ?_
  refine lv_iload_n hx hb dX0_bars_6 rfl (lv_at hl 3 rfl) ?_
  refine lv_icmp_ne (tgt := 47) hx hb dX0_bars_7 (by decide) (fun c7 => ?_) (fun c7 => ?_)
  · refine lv_iconst (v := 0) hx hb dX0_bars_47 (by decide) ?_
    exact w_zret () hx hb hr hlocks hK hP hD hS (Nat.le_of_ble_eq_true rfl) (Nat.le_of_ble_eq_true rfl) dX0_bars_48 rfl (show 0 = b2i (p_bars F sh o p q t) from by simp only [p_bars, p_on, decide_eq_false c7, Bool.not_true, Bool.not_false, Bool.true_or, Bool.false_or, Bool.or_true, Bool.or_false, Bool.true_and, Bool.false_and, Bool.and_true, Bool.and_false, b2i_T, b2i_F])
  · refine lv_aload_n hx hb dX0_bars_10 rfl (lv_at hl 0 rfl) ?_
    refine lv_iload_n hx hb dX0_bars_11 rfl (lv_at hl 1 rfl) ?_
    refine lv_aload_n hx hb dX0_bars_12 rfl (lv_at hl 0 rfl) ?_
    refine va_get (ci := 0) (v := .ref (a 6)) (C := RX0) (T := TX0) (N := 16) hx hb hts hin hown hK hP 0 rfl rfl 6 (by decide) (hts (.fieldLink RX0 29 "CurfewDesk" "personTrade" "[I") (by decide +kernel)) (fun _ h9 => h9) rfl dX0_bars_13 ?_
    refine lv_iload_n hx hb dX0_bars_16 rfl (lv_at hl 2 rfl) ?_
    refine w_iald hx hb hK hP 7 0 rfl rfl (f := (F 6)) (j := p) (by omega) (by omega) dX0_bars_17 ?_
    refine w_in_i (va_runV (As := [.int (nI o), .int ((F 6) p)]) (rest := []) ⟨hx, hb, hml, hown, hts⟩ (c_X0_exempts l G cI cZ h a F nq no np sh nw s.heap.size o ((F 6) p) (by omega)) (cwV 2 hts gX0_bars_X0_exempts rfl rfl rfl (by decide +kernel) ⟨(Nat.le_of_ble_eq_true rfl), (Nat.le_of_ble_eq_true rfl)⟩) ⟨wPre_blind, va_recv hK hP (ci := 0) (q0 := 0) rfl rfl, w_pre hK hP hD⟩ rfl rfl hl.1 rfl (lv_room (Nat.le_of_ble_eq_true rfl)) dX0_bars_18 ⟨(Nat.le_of_ble_eq_true rfl), (Nat.le_of_ble_eq_true rfl)⟩) hD hS hA (fun r18 u18 H locs hw18 hP hD hS => ?_)
    have hP : va_P G vwCl (Dk cI cZ h a F nq no np sh nw) H := hP
    have hD : va_D A (Dk cI cZ h a F nq no np sh nw) := hD
    have hw18 : r18 = b2i (p_ex F o ((F 6) p)) := hw18
    subst hw18
    refine lv_if_ne (tgt := 47) hx hb dX0_bars_21 (by decide) (fun c21 => ?_) (fun c21 => ?_)
    · have c21 := b2i_1.mp c21
      refine lv_iconst (v := 0) hx hb dX0_bars_47 (by decide) ?_
      exact w_zret () hx hb hr hlocks hK hP hD hS (Nat.le_of_ble_eq_true rfl) (Nat.le_of_ble_eq_true rfl) dX0_bars_48 rfl (show 0 = b2i (p_bars F sh o p q t) from by simp only [p_bars, p_on, decide_eq_true c7, c21, Bool.not_true, Bool.not_false, Bool.true_or, Bool.false_or, Bool.or_true, Bool.or_false, Bool.true_and, Bool.false_and, Bool.and_true, Bool.and_false, b2i_T, b2i_F])
    · have c21 := b2i_0.mp c21
      refine lv_aload_n hx hb dX0_bars_24 rfl (lv_at hl 0 rfl) ?_
      refine va_get (ci := 0) (v := .ref (a 4)) (C := RX0) (T := TX0) (N := 16) hx hb hts hin hown hK hP 0 rfl rfl 4 (by decide) (hts (.fieldLink RX0 22 "CurfewDesk" "orderInForce" "[Z") (by decide +kernel)) (fun _ h9 => h9) rfl dX0_bars_25 ?_
      refine lv_iload_n hx hb dX0_bars_28 rfl (lv_at hl 1 rfl) ?_
      refine w_zald hx hb hK hP 5 1 rfl rfl (f := (F 4)) (j := o) (by omega) (by omega) dX0_bars_29 ?_
      refine lv_if_eq (tgt := 47) hx hb dX0_bars_30 (by decide) (fun c30 => ?_) (fun c30 => ?_)
      · refine lv_iconst (v := 0) hx hb dX0_bars_47 (by decide) ?_
        exact w_zret () hx hb hr hlocks hK hP hD hS (Nat.le_of_ble_eq_true rfl) (Nat.le_of_ble_eq_true rfl) dX0_bars_48 rfl (show 0 = b2i (p_bars F sh o p q t) from by simp only [p_bars, p_on, decide_eq_true c7, c21, decide_eq_true c30, Bool.not_true, Bool.not_false, Bool.true_or, Bool.false_or, Bool.or_true, Bool.or_false, Bool.true_and, Bool.false_and, Bool.and_true, Bool.and_false, b2i_T, b2i_F])
      · refine lv_aload_n hx hb dX0_bars_33 rfl (lv_at hl 0 rfl) ?_
        refine lv_iload_n hx hb dX0_bars_34 rfl (lv_at hl 1 rfl) ?_
        refine lv_iload hx hb dX0_bars_35 (lv_at hl 4 rfl) ?_
        refine w_in_i (va_runV (As := [.int (nI o), .int t]) (rest := []) ⟨hx, hb, hml, hown, hts⟩ (c_X0_isInHours l G cI cZ h a F nq no np sh nw H.size o t (by omega)) (cwV 2 hts gX0_bars_X0_isInHours rfl rfl rfl (by decide +kernel) ⟨(Nat.le_of_ble_eq_true rfl), (Nat.le_of_ble_eq_true rfl)⟩) ⟨wPre_blind, va_recv hK hP (ci := 0) (q0 := 0) rfl rfl, w_pre hK hP hD⟩ rfl rfl hl.1 rfl (lv_room (Nat.le_of_ble_eq_true rfl)) dX0_bars_37 ⟨(Nat.le_of_ble_eq_true rfl), (Nat.le_of_ble_eq_true rfl)⟩) hD hS hA (fun r37 u37 H locs hw37 hP hD hS => ?_)
        have hP : va_P G vwCl (Dk cI cZ h a F nq no np sh nw) H := hP
        have hD : va_D A (Dk cI cZ h a F nq no np sh nw) := hD
        have hw37 : r37 = b2i (p_at F sh o t) := hw37
        subst hw37
        refine w_selE (v1 := 1) (v2 := 0) hx hb dX0_bars_40 (by decide) dX0_bars_43 (by decide) dX0_bars_44 (by decide) dX0_bars_47 (by decide) ?_
        rw [b2i_sel]
        exact w_zret () hx hb hr hlocks hK hP hD hS (Nat.le_of_ble_eq_true rfl) (Nat.le_of_ble_eq_true rfl) dX0_bars_48 (b2i_n _) (show (b2i (p_at F sh o t)) = b2i (p_bars F sh o p q t) from by simp only [p_bars, p_on, decide_eq_true c7, c21, decide_eq_false c30, Bool.not_true, Bool.not_false, Bool.true_or, Bool.false_or, Bool.or_true, Bool.or_false, Bool.true_and, Bool.false_and, Bool.and_true, Bool.and_false, b2i_T, b2i_F])
set_option maxHeartbeats 4000000 in
set_option maxRecDepth 100000 in
theorem c_X0_isFreeAt (l : Launch) (G : va_G) (cI cZ : ClassId) (h : Nat) (a : Nat → Nat) (F : Nat → Nat → Int32) (nq no np : Nat) (sh nw : Int32) (sz : Nat) (p : Nat) (q : Int32) (t : Int32) (hp : p < 20) (hno : no ≤ 10) : Met l yX0_isFreeAt wsX0_isFreeAt ({ frames := 4, cells := 0, slots := 0, locals := 90 } : Room) (va_Pc [.ref h, .int (nI p), .int q, .int t] (wPre G (ty2 cI cZ) (Dk cI cZ h a F nq no np sh nw) sz)) (va_Qi (fun (r : Int32) (_ : Unit) => r = b2i (decide (p_ag F sh no p q t = 0))) (fun _ => wP G (ty2 cI cZ) (Dk cI cZ h a F nq no np sh nw) (va_A (Dk cI cZ h a F nq no np sh nw) sz)) (va_A (Dk cI cZ h a F nq no np sh nw) sz)) 0 0 (va_A (Dk cI cZ h a F nq no np sh nw) sz) := by
  refine w_met (cc := cX0_isFreeAt) (maxL := 5) (ret := (some .boolean)) (by decide) rfl (Nat.le_of_ble_eq_true rfl) ?_
  intro pg e s m below meth cd hx hb hml hr hts hown hlocks hnm hK hsz hP hD hA hS ls hl
  have hown : s.vm.findClass RX0 = some m.cls := hown
  have hin : ∀ w ∈ wsX00, w ∈ wsX0_isFreeAt := by decide +kernel
  have hl : lv_has ls 5 [(0, .ref h), (1, .int (nI p)), (2, .int q), (3, .int t)] := hl
  generalize hAe : va_A (Dk cI cZ h a F nq no np sh nw) sz = A at hD hA hS ⊢
  refine lv_iconst (v := 0) hx hb dX0_isFreeAt_0 (by decide) ?_
  refine lv_istore (lv' := [(4, .int 0), (0, .ref h), (1, .int (nI p)), (2, .int q), (3, .int t)]) hx hb dX0_isFreeAt_1 hl (by decide) rfl (fun ls hl => ?_)
  have key3 : ∀ (n i3 : Nat), i3 ≤ no → no < i3 + n → (p_ct (fun o => p_bars F sh o p q t) i3 = 0) → ∀ (x4 : Int32), x4 = nI i3 → ∀ (H : Heap) (locs : List Loc), va_P G vwCl (Dk cI cZ h a F nq no np sh nw) H → va_D A (Dk cI cZ h a F nq no np sh nw) → va_S A s.heap H locs → ∀ ls : Array Slot, lv_has ls 5 [(0, .ref h), (1, .int (nI p)), (2, .int q), (3, .int t), (4, .int x4)] → W pg l e ({ frames := 4, cells := 0, slots := 0, locals := 90 } : Room) s m ([.ref h, .int (nI p), .int q, .int t] : List Value).toArray below meth cd H locs (0) (0) (MQ below (va_Qi (fun (r : Int32) (_ : Unit) => r = b2i (decide (p_ag F sh no p q t = 0))) (fun _ => wP G (ty2 cI cZ) (Dk cI cZ h a F nq no np sh nw) A) A) ([.ref h, .int (nI p), .int q, .int t] : List Value).toArray s 0 0 A) (F0 m 3 ls []) := by
    intro n
    induction n with
    | zero => intro i3 h1 h2; exact absurd h2 (by omega)
    | succ n ih3 =>
      intro i3 hi_i3 hn_i3 hv x4 e4 H locs hP hD hS ls hl
      subst e4
      refine lv_iload hx hb dX0_isFreeAt_3 (lv_at hl 4 rfl) ?_
      refine lv_aload_n hx hb dX0_isFreeAt_5 rfl (lv_at hl 0 rfl) ?_
      refine va_get (ci := 0) (v := .int (nI no)) (C := RX0) (T := TX0) (N := 16) hx hb hts hin hown hK hP 0 rfl rfl 12 (by decide) (hts (.fieldLink RX0 74 "CurfewDesk" "orderCount" "I") (by decide +kernel)) (fun _ h9 => h9) rfl dX0_isFreeAt_6 ?_
      refine lv_icmp_ge (tgt := 32) hx hb dX0_isFreeAt_9 (by decide) (fun c9 => ?_) (fun c9 => ?_)
      · have c9 := (nI_leI (a := no) (b := i3) (by omega) (by omega)).mp c9
        have ei : no = i3 := by omega
        subst ei
        refine lv_iconst (v := 1) hx hb dX0_isFreeAt_32 (by decide) ?_
        exact w_zret () hx hb hr hlocks hK hP hD hS (Nat.le_of_ble_eq_true rfl) (Nat.le_of_ble_eq_true rfl) dX0_isFreeAt_33 rfl (show 1 = b2i (decide (p_ag F sh no p q t = 0)) from by rw [p_ag, decide_eq_true hv]; rfl)
      · have c9 := mt (nI_leI (a := no) (b := i3) (by omega) (by omega)).mpr c9
        have hlt_i3 : i3 < no := by omega
        refine lv_aload_n hx hb dX0_isFreeAt_12 rfl (lv_at hl 0 rfl) ?_
        refine lv_iload hx hb dX0_isFreeAt_13 (lv_at hl 4 rfl) ?_
        refine lv_iload_n hx hb dX0_isFreeAt_15 rfl (lv_at hl 1 rfl) ?_
        refine lv_iload_n hx hb dX0_isFreeAt_16 rfl (lv_at hl 2 rfl) ?_
        refine lv_iload_n hx hb dX0_isFreeAt_17 rfl (lv_at hl 3 rfl) ?_
        refine w_in_i (va_runV (As := [.int (nI i3), .int (nI p), .int q, .int t]) (rest := []) ⟨hx, hb, hml, hown, hts⟩ (c_X0_bars l G cI cZ h a F nq no np sh nw H.size i3 p q t (by omega) (by omega)) (cwV 4 hts gX0_isFreeAt_X0_bars rfl rfl rfl (by decide +kernel) ⟨(Nat.le_of_ble_eq_true rfl), (Nat.le_of_ble_eq_true rfl)⟩) ⟨wPre_blind, va_recv hK hP (ci := 0) (q0 := 0) rfl rfl, w_pre hK hP hD⟩ rfl rfl hl.1 rfl (lv_room (Nat.le_of_ble_eq_true rfl)) dX0_isFreeAt_18 ⟨(Nat.le_of_ble_eq_true rfl), (Nat.le_of_ble_eq_true rfl)⟩) hD hS hA (fun r18 u18 H locs hw18 hP hD hS => ?_)
        have hP : va_P G vwCl (Dk cI cZ h a F nq no np sh nw) H := hP
        have hD : va_D A (Dk cI cZ h a F nq no np sh nw) := hD
        have hw18 : r18 = b2i (p_bars F sh i3 p q t) := hw18
        subst hw18
        refine lv_if_eq (tgt := 26) hx hb dX0_isFreeAt_21 (by decide) (fun c21 => ?_) (fun c21 => ?_)
        · have c21 := b2i_0.mp c21
          refine lv_iinc (v := nI i3 + 1) (lv' := [(4, .int (nI i3 + 1)), (0, .ref h), (1, .int (nI p)), (2, .int q), (3, .int t)]) hx hb dX0_isFreeAt_26 hl (k := 4) rfl rfl (by decide) rfl (fun ls hl => ?_)
          refine lv_goto (tgt := 3) hx hb dX0_isFreeAt_29 (by decide) ?_
          exact ih3 (i3 + 1) (by omega) (by omega) (by rw [ct_f c21]; exact hv) (nI i3 + 1) (by first | exact nI_1 _ | exact nct_t (by assumption) | exact nct_f (by assumption) | exact nct_b | rfl) _ _ hP hD hS _ (lv_sub hl [1, 2, 3, 4, 0] rfl)
        · have c21 := b2i_1.mp c21
          refine lv_iconst (v := 0) hx hb dX0_isFreeAt_24 (by decide) ?_
          exact w_zret () hx hb hr hlocks hK hP hD hS (Nat.le_of_ble_eq_true rfl) (Nat.le_of_ble_eq_true rfl) dX0_isFreeAt_25 rfl (show 0 = b2i (decide (p_ag F sh no p q t = 0)) from by rw [p_ag, decide_eq_false (ct_pos hlt_i3 c21)]; rfl)
  exact key3 (no + 1) 0 (by omega) (by omega) (by rfl) 0 (by first | rfl | simp [p_ct, p_sm, p_fl, p_fg, nI_0]) _ _ hP hD hS _ (lv_sub hl [1, 2, 3, 4, 0] rfl)
set_option maxHeartbeats 4000000 in
set_option maxRecDepth 100000 in
theorem c_X0_timesBegun (l : Launch) (G : va_G) (cI cZ : ClassId) (h : Nat) (a : Nat → Nat) (F : Nat → Nat → Int32) (nq no np : Nat) (sh nw : Int32) (sz : Nat) (o : Nat) (hh : Nat) (ho : o < 10) (hhh : hh ≤ 200) : Met l yX0_timesBegun wsX0_timesBegun ({ frames := 4, cells := 0, slots := 0, locals := 88 } : Room) (va_Pc [.ref h, .int (nI o), .int (nI hh)] (wPre G (ty2 cI cZ) (Dk cI cZ h a F nq no np sh nw) sz)) (va_Qi (fun (r : Int32) (_ : Unit) => r = nI (p_ct (p_tb F sh nw o) hh)) (fun _ => wP G (ty2 cI cZ) (Dk cI cZ h a F nq no np sh nw) (va_A (Dk cI cZ h a F nq no np sh nw) sz)) (va_A (Dk cI cZ h a F nq no np sh nw) sz)) 0 0 (va_A (Dk cI cZ h a F nq no np sh nw) sz) := by
  refine w_met (cc := cX0_timesBegun) (maxL := 7) (ret := (some .int)) (by decide) rfl (Nat.le_of_ble_eq_true rfl) ?_
  intro pg e s m below meth cd hx hb hml hr hts hown hlocks hnm hK hsz hP hD hA hS ls hl
  have hown : s.vm.findClass RX0 = some m.cls := hown
  have hin : ∀ w ∈ wsX00, w ∈ wsX0_timesBegun := by decide +kernel
  have hl : lv_has ls 7 [(0, .ref h), (1, .int (nI o)), (2, .int (nI hh))] := hl
  generalize hAe : va_A (Dk cI cZ h a F nq no np sh nw) sz = A at hD hA hS ⊢
  refine lv_iconst (v := 0) hx hb dX0_timesBegun_0 (by decide) ?_
  refine lv_istore_n (lv' := [(3, .int 0), (0, .ref h), (1, .int (nI o)), (2, .int (nI hh))]) hx hb dX0_timesBegun_1 rfl hl (by decide) rfl (fun ls hl => ?_)
  refine lv_aload_n hx hb dX0_timesBegun_2 rfl (lv_at hl 1 rfl) ?_
  refine lv_iload_n hx hb dX0_timesBegun_3 rfl (lv_at hl 2 rfl) ?_
  refine lv_aload_n hx hb dX0_timesBegun_4 rfl (lv_at hl 1 rfl) ?_
  refine va_get (ci := 0) (v := .int nw) (C := RX0) (T := TX0) (N := 16) hx hb hts hin hown hK hP 0 rfl rfl 15 (by decide) (hts (.fieldLink RX0 101 "CurfewDesk" "now" "I") (by decide +kernel)) (fun _ h9 => h9) rfl dX0_timesBegun_5 ?_
  refine w_in_i (va_runV (As := [.int (nI o), .int nw]) (rest := []) ⟨hx, hb, hml, hown, hts⟩ (c_X0_isOnAt l G cI cZ h a F nq no np sh nw s.heap.size o nw (by omega)) (cwV 2 hts gX0_timesBegun_X0_isOnAt rfl rfl rfl (by decide +kernel) ⟨(Nat.le_of_ble_eq_true rfl), (Nat.le_of_ble_eq_true rfl)⟩) ⟨wPre_blind, va_recv hK hP (ci := 0) (q0 := 0) rfl rfl, w_pre hK hP hD⟩ rfl rfl hl.1 rfl (lv_room (Nat.le_of_ble_eq_true rfl)) dX0_timesBegun_8 ⟨(Nat.le_of_ble_eq_true rfl), (Nat.le_of_ble_eq_true rfl)⟩) hD hS hA (fun r8 u8 H locs hw8 hP hD hS => ?_)
  have hP : va_P G vwCl (Dk cI cZ h a F nq no np sh nw) H := hP
  have hD : va_D A (Dk cI cZ h a F nq no np sh nw) := hD
  have hw8 : r8 = b2i (p_on F sh o nw) := hw8
  subst hw8
  refine lv_istore (lv' := [(4, .int (b2i (p_on F sh o nw))), (3, .int 0), (0, .ref h), (1, .int (nI o)), (2, .int (nI hh))]) hx hb dX0_timesBegun_11 hl (by decide) rfl (fun ls hl => ?_)
  refine lv_iconst (v := 1) hx hb dX0_timesBegun_13 (by decide) ?_
  refine lv_istore (lv' := [(5, .int 1), (4, .int (b2i (p_on F sh o nw))), (3, .int 0), (0, .ref h), (1, .int (nI o)), (2, .int (nI hh))]) hx hb dX0_timesBegun_14 hl (by decide) rfl (fun ls hl => ?_)
  have key16 : ∀ (n i16 : Nat), i16 ≤ hh → hh < i16 + n → ∀ (x3 : Int32) (x4 : Int32) (x5 : Int32), x3 = nI (p_ct (p_tb F sh nw o) i16) → x4 = b2i (p_on F sh o (nw + nI i16)) → x5 = nI (i16 + 1) → ∀ (H : Heap) (locs : List Loc), va_P G vwCl (Dk cI cZ h a F nq no np sh nw) H → va_D A (Dk cI cZ h a F nq no np sh nw) → va_S A s.heap H locs → ∀ ls : Array Slot, lv_has ls 7 [(0, .ref h), (1, .int (nI o)), (2, .int (nI hh)), (3, .int x3), (4, .int x4), (5, .int x5)] → W pg l e ({ frames := 4, cells := 0, slots := 0, locals := 88 } : Room) s m ([.ref h, .int (nI o), .int (nI hh)] : List Value).toArray below meth cd H locs (0 + 0) (0 + 0) (MQ below (va_Qi (fun (r : Int32) (_ : Unit) => r = nI (p_ct (p_tb F sh nw o) hh)) (fun _ => wP G (ty2 cI cZ) (Dk cI cZ h a F nq no np sh nw) A) A) ([.ref h, .int (nI o), .int (nI hh)] : List Value).toArray s 0 0 A) (F0 m 16 ls []) := by
    intro n
    induction n with
    | zero => intro i16 h1 h2; exact absurd h2 (by omega)
    | succ n ih16 =>
      intro i16 hi_i16 hn_i16 x3 x4 x5 e3 e4 e5 H locs hP hD hS ls hl
      subst e3 e4 e5
      refine lv_iload hx hb dX0_timesBegun_16 (lv_at hl 5 rfl) ?_
      refine lv_iload_n hx hb dX0_timesBegun_18 rfl (lv_at hl 2 rfl) ?_
      refine lv_icmp_gt (tgt := 59) hx hb dX0_timesBegun_19 (by decide) (fun c19 => ?_) (fun c19 => ?_)
      · have c19 := (nI_ltI (a := hh) (b := (i16 + 1)) (by omega) (by omega)).mp c19
        have ei : hh = i16 := by omega
        subst ei
        refine lv_iload_n hx hb dX0_timesBegun_59 rfl (lv_at hl 3 rfl) ?_
        exact w_iret () hx hb hr hlocks hK hP hD hS (Nat.le_of_ble_eq_true rfl) (Nat.le_of_ble_eq_true rfl) dX0_timesBegun_60 (show (nI (p_ct (p_tb F sh nw o) hh)) = nI (p_ct (p_tb F sh nw o) hh) from by rfl)
      · have c19 := mt (nI_ltI (a := hh) (b := (i16 + 1)) (by omega) (by omega)).mpr c19
        have hlt_i16 : i16 < hh := by omega
        refine lv_aload_n hx hb dX0_timesBegun_22 rfl (lv_at hl 0 rfl) ?_
        refine lv_iload_n hx hb dX0_timesBegun_23 rfl (lv_at hl 1 rfl) ?_
        refine lv_aload_n hx hb dX0_timesBegun_24 rfl (lv_at hl 0 rfl) ?_
        refine va_get (ci := 0) (v := .int nw) (C := RX0) (T := TX0) (N := 16) hx hb hts hin hown hK hP 0 rfl rfl 15 (by decide) (hts (.fieldLink RX0 101 "CurfewDesk" "now" "I") (by decide +kernel)) (fun _ h9 => h9) rfl dX0_timesBegun_25 ?_
        refine lv_iload hx hb dX0_timesBegun_28 (lv_at hl 5 rfl) ?_
        refine lv_iadd hx hb dX0_timesBegun_30 ?_
        refine w_in_i (va_runV (As := [.int (nI o), .int (nw + (nI (i16 + 1)))]) (rest := []) ⟨hx, hb, hml, hown, hts⟩ (c_X0_isOnAt l G cI cZ h a F nq no np sh nw H.size o (nw + (nI (i16 + 1))) (by omega)) (cwV 2 hts gX0_timesBegun_X0_isOnAt rfl rfl rfl (by decide +kernel) ⟨(Nat.le_of_ble_eq_true rfl), (Nat.le_of_ble_eq_true rfl)⟩) ⟨wPre_blind, va_recv hK hP (ci := 0) (q0 := 0) rfl rfl, w_pre hK hP hD⟩ rfl rfl hl.1 rfl (lv_room (Nat.le_of_ble_eq_true rfl)) dX0_timesBegun_31 ⟨(Nat.le_of_ble_eq_true rfl), (Nat.le_of_ble_eq_true rfl)⟩) hD hS hA (fun r31 u31 H locs hw31 hP hD hS => ?_)
        have hP : va_P G vwCl (Dk cI cZ h a F nq no np sh nw) H := hP
        have hD : va_D A (Dk cI cZ h a F nq no np sh nw) := hD
        have hw31 : r31 = b2i (p_on F sh o (nw + (nI (i16 + 1)))) := hw31
        subst hw31
        refine lv_istore (lv' := [(6, .int (b2i (p_on F sh o (nw + (nI (i16 + 1)))))), (0, .ref h), (1, .int (nI o)), (2, .int (nI hh)), (3, .int (nI (p_ct (p_tb F sh nw o) i16))), (4, .int (b2i (p_on F sh o (nw + nI i16)))), (5, .int (nI (i16 + 1)))]) hx hb dX0_timesBegun_34 hl (by decide) rfl (fun ls hl => ?_)
        refine lv_iload hx hb dX0_timesBegun_36 (lv_at hl 0 rfl) ?_
        refine lv_if_eq (tgt := 49) hx hb dX0_timesBegun_38 (by decide) (fun c38 => ?_) (fun c38 => ?_)
        · have c38 := b2i_0.mp c38
          refine lv_iload hx hb dX0_timesBegun_49 (lv_at hl 0 rfl) ?_
          refine lv_istore (lv' := [(4, .int (b2i (p_on F sh o (nw + (nI (i16 + 1)))))), (6, .int (b2i (p_on F sh o (nw + (nI (i16 + 1)))))), (0, .ref h), (1, .int (nI o)), (2, .int (nI hh)), (3, .int (nI (p_ct (p_tb F sh nw o) i16))), (5, .int (nI (i16 + 1)))]) hx hb dX0_timesBegun_51 hl (by decide) rfl (fun ls hl => ?_)
          refine lv_iinc (v := nI (i16 + 1) + 1) (lv' := [(5, .int (nI (i16 + 1) + 1)), (4, .int (b2i (p_on F sh o (nw + (nI (i16 + 1)))))), (6, .int (b2i (p_on F sh o (nw + (nI (i16 + 1)))))), (0, .ref h), (1, .int (nI o)), (2, .int (nI hh)), (3, .int (nI (p_ct (p_tb F sh nw o) i16)))]) hx hb dX0_timesBegun_53 hl (k := 6) rfl rfl (by decide) rfl (fun ls hl => ?_)
          refine lv_goto (tgt := 16) hx hb dX0_timesBegun_56 (by decide) ?_
          exact ih16 (i16 + 1) (by omega) (by omega) (nI (p_ct (p_tb F sh nw o) i16)) (b2i (p_on F sh o (nw + (nI (i16 + 1))))) (nI (i16 + 1) + 1) (by first | exact nct_t (by rw [p_tb, c38]; rfl) | exact nct_f (by rw [p_tb, c38]; rfl)) (by rfl) (by first | exact nI_1 _ | exact nct_t (by assumption) | exact nct_f (by assumption) | exact nct_b | rfl) _ _ hP hD hS _ (lv_sub hl [3, 4, 5, 6, 1, 0] rfl)
        · have c38 := b2i_1.mp c38
          refine lv_iload hx hb dX0_timesBegun_41 (lv_at hl 5 rfl) ?_
          refine lv_if_ne (tgt := 49) hx hb dX0_timesBegun_43 (by decide) (fun c43 => ?_) (fun c43 => ?_)
          · have c43 := b2i_1.mp c43
            refine lv_iload hx hb dX0_timesBegun_49 (lv_at hl 0 rfl) ?_
            refine lv_istore (lv' := [(4, .int (b2i (p_on F sh o (nw + (nI (i16 + 1)))))), (6, .int (b2i (p_on F sh o (nw + (nI (i16 + 1)))))), (0, .ref h), (1, .int (nI o)), (2, .int (nI hh)), (3, .int (nI (p_ct (p_tb F sh nw o) i16))), (5, .int (nI (i16 + 1)))]) hx hb dX0_timesBegun_51 hl (by decide) rfl (fun ls hl => ?_)
            refine lv_iinc (v := nI (i16 + 1) + 1) (lv' := [(5, .int (nI (i16 + 1) + 1)), (4, .int (b2i (p_on F sh o (nw + (nI (i16 + 1)))))), (6, .int (b2i (p_on F sh o (nw + (nI (i16 + 1)))))), (0, .ref h), (1, .int (nI o)), (2, .int (nI hh)), (3, .int (nI (p_ct (p_tb F sh nw o) i16)))]) hx hb dX0_timesBegun_53 hl (k := 6) rfl rfl (by decide) rfl (fun ls hl => ?_)
            refine lv_goto (tgt := 16) hx hb dX0_timesBegun_56 (by decide) ?_
            exact ih16 (i16 + 1) (by omega) (by omega) (nI (p_ct (p_tb F sh nw o) i16)) (b2i (p_on F sh o (nw + (nI (i16 + 1))))) (nI (i16 + 1) + 1) (by first | exact nct_t (by rw [p_tb, c38, c43]; rfl) | exact nct_f (by rw [p_tb, c38, c43]; rfl)) (by rfl) (by first | exact nI_1 _ | exact nct_t (by assumption) | exact nct_f (by assumption) | exact nct_b | rfl) _ _ hP hD hS _ (lv_sub hl [3, 4, 5, 6, 1, 0] rfl)
          · have c43 := b2i_0.mp c43
            refine lv_iinc (v := nI (p_ct (p_tb F sh nw o) i16) + 1) (lv' := [(3, .int (nI (p_ct (p_tb F sh nw o) i16) + 1)), (6, .int (b2i (p_on F sh o (nw + (nI (i16 + 1)))))), (0, .ref h), (1, .int (nI o)), (2, .int (nI hh)), (4, .int (b2i (p_on F sh o (nw + nI i16)))), (5, .int (nI (i16 + 1)))]) hx hb dX0_timesBegun_46 hl (k := 4) rfl rfl (by decide) rfl (fun ls hl => ?_)
            refine lv_iload hx hb dX0_timesBegun_49 (lv_at hl 1 rfl) ?_
            refine lv_istore (lv' := [(4, .int (b2i (p_on F sh o (nw + (nI (i16 + 1)))))), (3, .int (nI (p_ct (p_tb F sh nw o) i16) + 1)), (6, .int (b2i (p_on F sh o (nw + (nI (i16 + 1)))))), (0, .ref h), (1, .int (nI o)), (2, .int (nI hh)), (5, .int (nI (i16 + 1)))]) hx hb dX0_timesBegun_51 hl (by decide) rfl (fun ls hl => ?_)
            refine lv_iinc (v := nI (i16 + 1) + 1) (lv' := [(5, .int (nI (i16 + 1) + 1)), (4, .int (b2i (p_on F sh o (nw + (nI (i16 + 1)))))), (3, .int (nI (p_ct (p_tb F sh nw o) i16) + 1)), (6, .int (b2i (p_on F sh o (nw + (nI (i16 + 1)))))), (0, .ref h), (1, .int (nI o)), (2, .int (nI hh))]) hx hb dX0_timesBegun_53 hl (k := 6) rfl rfl (by decide) rfl (fun ls hl => ?_)
            refine lv_goto (tgt := 16) hx hb dX0_timesBegun_56 (by decide) ?_
            exact ih16 (i16 + 1) (by omega) (by omega) (nI (p_ct (p_tb F sh nw o) i16) + 1) (b2i (p_on F sh o (nw + (nI (i16 + 1))))) (nI (i16 + 1) + 1) (by first | exact nct_t (by rw [p_tb, c38, c43]; rfl) | exact nct_f (by rw [p_tb, c38, c43]; rfl)) (by rfl) (by first | exact nI_1 _ | exact nct_t (by assumption) | exact nct_f (by assumption) | exact nct_b | rfl) _ _ hP hD hS _ (lv_sub hl [4, 5, 6, 2, 1, 0] rfl)
  exact key16 (hh + 1) 0 (by omega) (by omega) 0 (b2i (p_on F sh o nw)) 1 (by first | rfl | simp [p_ct, p_sm, p_fl, p_fg, nI_0]) (by rw [nI_0, Int32.add_zero]) (by first | rfl | simp [p_ct, p_sm, p_fl, p_fg, nI_0]) _ _ hP hD hS _ (lv_sub hl [3, 4, 5, 2, 1, 0] rfl)
set_option maxHeartbeats 4000000 in
set_option maxRecDepth 100000 in
theorem c_X0_missing (l : Launch) (G : va_G) (cI cZ : ClassId) (h : Nat) (a : Nat → Nat) (F : Nat → Nat → Int32) (nq no np : Nat) (sh nw : Int32) (sz : Nat) (p : Nat) (q : Int32) (sp : Int32) (hp : p < 20) (hno : no ≤ 10) : Met l yX0_missing wsX0_missing ({ frames := 4, cells := 0, slots := 0, locals := 90 } : Room) (va_Pc [.ref h, .int (nI p), .int q, .int sp] (wPre G (ty2 cI cZ) (Dk cI cZ h a F nq no np sh nw) sz)) (va_Qi (fun (r : Int32) (_ : Unit) => r = p_miss F sh no p q nw sp) (fun _ => wP G (ty2 cI cZ) (Dk cI cZ h a F nq no np sh nw) (va_A (Dk cI cZ h a F nq no np sh nw) sz)) (va_A (Dk cI cZ h a F nq no np sh nw) sz)) 0 0 (va_A (Dk cI cZ h a F nq no np sh nw) sz) := by
  refine w_met (cc := cX0_missing) (maxL := 8) (ret := (some .int)) (by decide) rfl (Nat.le_of_ble_eq_true rfl) ?_
  intro pg e s m below meth cd hx hb hml hr hts hown hlocks hnm hK hsz hP hD hA hS ls hl
  have hown : s.vm.findClass RX0 = some m.cls := hown
  have hin : ∀ w ∈ wsX00, w ∈ wsX0_missing := by decide +kernel
  have hl : lv_has ls 8 [(0, .ref h), (1, .int (nI p)), (2, .int q), (3, .int sp)] := hl
  generalize hAe : va_A (Dk cI cZ h a F nq no np sh nw) sz = A at hD hA hS ⊢
  refine lv_iconst (v := 0) hx hb dX0_missing_0 (by decide) ?_
  refine lv_istore (lv' := [(4, .int 0), (0, .ref h), (1, .int (nI p)), (2, .int q), (3, .int sp)]) hx hb dX0_missing_1 hl (by decide) rfl (fun ls hl => ?_)
  refine lv_iconst (v := 0) hx hb dX0_missing_3 (by decide) ?_
  refine lv_istore (lv' := [(5, .int 0), (4, .int 0), (0, .ref h), (1, .int (nI p)), (2, .int q), (3, .int sp)]) hx hb dX0_missing_4 hl (by decide) rfl (fun ls hl => ?_)
  have key6 : ∀ (n i6 : Nat), i6 ≤ 4 → 4 < i6 + n → ∀ (x4 : Int32) (x5 : Int32), x4 = p_sm (p_lack F sh no p q nw sp) i6 → x5 = nI i6 → ∀ (H : Heap) (locs : List Loc), va_P G vwCl (Dk cI cZ h a F nq no np sh nw) H → va_D A (Dk cI cZ h a F nq no np sh nw) → va_S A s.heap H locs → ∀ ls : Array Slot, lv_has ls 8 [(0, .ref h), (1, .int (nI p)), (2, .int q), (3, .int sp), (4, .int x4), (5, .int x5)] → W pg l e ({ frames := 4, cells := 0, slots := 0, locals := 90 } : Room) s m ([.ref h, .int (nI p), .int q, .int sp] : List Value).toArray below meth cd H locs (0) (0) (MQ below (va_Qi (fun (r : Int32) (_ : Unit) => r = p_miss F sh no p q nw sp) (fun _ => wP G (ty2 cI cZ) (Dk cI cZ h a F nq no np sh nw) A) A) ([.ref h, .int (nI p), .int q, .int sp] : List Value).toArray s 0 0 A) (F0 m 6 ls []) := by
    intro n
    induction n with
    | zero => intro i6 h1 h2; exact absurd h2 (by omega)
    | succ n ih6 =>
      intro i6 hi_i6 hn_i6 x4 x5 e4 e5 H locs hP hD hS ls hl
      subst e4 e5
      refine lv_iload hx hb dX0_missing_6 (lv_at hl 5 rfl) ?_
      refine lv_iconst (v := 4) hx hb dX0_missing_8 (by decide) ?_
      refine lv_icmp_ge (tgt := 98) hx hb dX0_missing_9 (by decide) (fun c9 => ?_) (fun c9 => ?_)
      · have c9 := (nI_leI (a := 4) (b := i6) (by omega) (by omega)).mp c9
        have ei : 4 = i6 := by omega
        subst ei
        refine lv_iload hx hb dX0_missing_98 (lv_at hl 4 rfl) ?_
        exact w_iret () hx hb hr hlocks hK hP hD hS (Nat.le_of_ble_eq_true rfl) (Nat.le_of_ble_eq_true rfl) dX0_missing_100 (show (p_sm (p_lack F sh no p q nw sp) 4) = p_miss F sh no p q nw sp from by rfl)
      · have c9 := mt (nI_leI (a := 4) (b := i6) (by omega) (by omega)).mpr c9
        have hlt_i6 : i6 < 4 := by omega
        refine lv_iconst (v := 0) hx hb dX0_missing_12 (by decide) ?_
        refine lv_istore (lv' := [(6, .int 0), (0, .ref h), (1, .int (nI p)), (2, .int q), (3, .int sp), (4, .int (p_sm (p_lack F sh no p q nw sp) i6)), (5, .int (nI i6))]) hx hb dX0_missing_13 hl (by decide) rfl (fun ls hl => ?_)
        refine lv_iconst (v := 0) hx hb dX0_missing_15 (by decide) ?_
        refine lv_istore (lv' := [(7, .int 0), (6, .int 0), (0, .ref h), (1, .int (nI p)), (2, .int q), (3, .int sp), (4, .int (p_sm (p_lack F sh no p q nw sp) i6)), (5, .int (nI i6))]) hx hb dX0_missing_16 hl (by decide) rfl (fun ls hl => ?_)
        have key18 : ∀ (n i18 : Nat), i18 ≤ no → no < i18 + n → ∀ (x6 : Int32) (x7 : Int32), x6 = nI (p_ct (p_need F sh p q nw sp i6) i18) → x7 = nI i18 → ∀ (H : Heap) (locs : List Loc), va_P G vwCl (Dk cI cZ h a F nq no np sh nw) H → va_D A (Dk cI cZ h a F nq no np sh nw) → va_S A s.heap H locs → ∀ ls : Array Slot, lv_has ls 8 [(0, .ref h), (1, .int (nI p)), (2, .int q), (3, .int sp), (4, .int (p_sm (p_lack F sh no p q nw sp) i6)), (5, .int (nI i6)), (6, .int x6), (7, .int x7)] → W pg l e ({ frames := 4, cells := 0, slots := 0, locals := 90 } : Room) s m ([.ref h, .int (nI p), .int q, .int sp] : List Value).toArray below meth cd H locs (0) (0) (MQ below (va_Qi (fun (r : Int32) (_ : Unit) => r = p_miss F sh no p q nw sp) (fun _ => wP G (ty2 cI cZ) (Dk cI cZ h a F nq no np sh nw) A) A) ([.ref h, .int (nI p), .int q, .int sp] : List Value).toArray s 0 0 A) (F0 m 18 ls []) := by
          intro n
          induction n with
          | zero => intro i18 h1 h2; exact absurd h2 (by omega)
          | succ n ih18 =>
            intro i18 hi_i18 hn_i18 x6 x7 e6 e7 H locs hP hD hS ls hl
            subst e6 e7
            refine lv_iload hx hb dX0_missing_18 (lv_at hl 7 rfl) ?_
            refine lv_aload_n hx hb dX0_missing_20 rfl (lv_at hl 0 rfl) ?_
            refine va_get (ci := 0) (v := .int (nI no)) (C := RX0) (T := TX0) (N := 16) hx hb hts hin hown hK hP 0 rfl rfl 12 (by decide) (hts (.fieldLink RX0 74 "CurfewDesk" "orderCount" "I") (by decide +kernel)) (fun _ h9 => h9) rfl dX0_missing_21 ?_
            refine lv_icmp_ge (tgt := 69) hx hb dX0_missing_24 (by decide) (fun c24 => ?_) (fun c24 => ?_)
            · have c24 := (nI_leI (a := no) (b := i18) (by omega) (by omega)).mp c24
              have ei : no = i18 := by omega
              subst ei
              refine lv_iload hx hb dX0_missing_69 (lv_at hl 4 rfl) ?_
              refine lv_iconst (v := 0) hx hb dX0_missing_71 (by decide) ?_
              refine lv_iload hx hb dX0_missing_72 (lv_at hl 6 rfl) ?_
              refine lv_aload_n hx hb dX0_missing_74 rfl (lv_at hl 0 rfl) ?_
              refine va_get (ci := 0) (v := .ref (a 9)) (C := RX0) (T := TX0) (N := 16) hx hb hts hin hown hK hP 0 rfl rfl 9 (by decide) (hts (.fieldLink RX0 38 "CurfewDesk" "personStamps" "[I") (by decide +kernel)) (fun _ h9 => h9) rfl dX0_missing_75 ?_
              refine lv_iload_n hx hb dX0_missing_78 rfl (lv_at hl 1 rfl) ?_
              refine lv_iload hx hb dX0_missing_79 (lv_at hl 5 rfl) ?_
              refine w_st_i (va_runS (As := [.int (nI p), .int (nI i6)]) (rest := [.ref (a 9), .int (nI (p_ct (p_need F sh p q nw sp i6) no)), .int 0, .int (p_sm (p_lack F sh no p q nw sp) i6)]) ⟨hx, hb, hml, hown, hts⟩ (c_X0_stampPlace l G H.size p i6 ) (va_cwS 2 hts gX0_missing_X0_stampPlace rfl rfl rfl (by decide +kernel) ⟨(Nat.le_of_ble_eq_true rfl), (Nat.le_of_ble_eq_true rfl)⟩) ⟨wPre_blind, w_pre (hK.sub [] rfl) w_P0 (w_D0 (A := A))⟩ rfl rfl hl.1 rfl (lv_room (Nat.le_of_ble_eq_true rfl)) dX0_missing_81 ⟨(Nat.le_of_ble_eq_true rfl), (Nat.le_of_ble_eq_true rfl)⟩) hP hS hA (fun r81 u81 H locs hw81 hP hS => ?_)
              have hw81 : r81 = nI (p * 4 + i6) := hw81
              subst hw81
              refine w_iald hx hb hK hP 10 0 rfl rfl (f := (F 9)) (j := (p * 4 + i6)) (by omega) (by omega) dX0_missing_84 ?_
              refine lv_isub hx hb dX0_missing_85 ?_
              refine va_mmax hx hb (hml.trans hl.1.symm) hown (hts (.methodLink RX0 187 Lib.Math.max.name) (by decide +kernel)) (hts (.static Lib.Math.max.name) (by decide +kernel)) (hts (.initialized "java/lang/Math") (by decide +kernel)) (hts (.code Lib.Math.max.name Lib.Math.max.code 2 (some .int)) (by decide +kernel)) (Nat.le_of_ble_eq_true rfl) (Nat.le_of_ble_eq_true rfl) (Nat.le_of_ble_eq_true rfl) (Nat.le_of_ble_eq_true rfl) dX0_missing_86 ?_
              rw [← p_max0]
              refine lv_iadd hx hb dX0_missing_89 ?_
              refine lv_istore (lv' := [(4, .int ((p_sm (p_lack F sh no p q nw sp) i6) + (p_max0 ((nI (p_ct (p_need F sh p q nw sp i6) no)) - ((F 9) (p * 4 + i6)))))), (0, .ref h), (1, .int (nI p)), (2, .int q), (3, .int sp), (5, .int (nI i6)), (6, .int (nI (p_ct (p_need F sh p q nw sp i6) no))), (7, .int (nI no))]) hx hb dX0_missing_90 hl (by decide) rfl (fun ls hl => ?_)
              refine lv_iinc (v := nI i6 + 1) (lv' := [(5, .int (nI i6 + 1)), (4, .int ((p_sm (p_lack F sh no p q nw sp) i6) + (p_max0 ((nI (p_ct (p_need F sh p q nw sp i6) no)) - ((F 9) (p * 4 + i6)))))), (0, .ref h), (1, .int (nI p)), (2, .int q), (3, .int sp), (6, .int (nI (p_ct (p_need F sh p q nw sp i6) no))), (7, .int (nI no))]) hx hb dX0_missing_92 hl (k := 5) rfl rfl (by decide) rfl (fun ls hl => ?_)
              refine lv_goto (tgt := 6) hx hb dX0_missing_95 (by decide) ?_
              exact ih6 (i6 + 1) (by omega) (by omega) ((p_sm (p_lack F sh no p q nw sp) i6) + (p_max0 ((nI (p_ct (p_need F sh p q nw sp i6) no)) - ((F 9) (p * 4 + i6))))) (nI i6 + 1) (by rfl) (by first | exact nI_1 _ | exact nct_t (by assumption) | exact nct_f (by assumption) | exact nct_b | rfl) _ _ hP hD hS _ (lv_sub hl [2, 3, 4, 5, 1, 0] rfl)
            · have c24 := mt (nI_leI (a := no) (b := i18) (by omega) (by omega)).mpr c24
              have hlt_i18 : i18 < no := by omega
              refine lv_iload hx hb dX0_missing_27 (lv_at hl 7 rfl) ?_
              refine lv_iload_n hx hb dX0_missing_29 rfl (lv_at hl 3 rfl) ?_
              refine lv_icmp_eq (tgt := 63) hx hb dX0_missing_30 (by decide) (fun c30 => ?_) (fun c30 => ?_)
              · refine lv_iinc (v := nI i18 + 1) (lv' := [(7, .int (nI i18 + 1)), (0, .ref h), (1, .int (nI p)), (2, .int q), (3, .int sp), (4, .int (p_sm (p_lack F sh no p q nw sp) i6)), (5, .int (nI i6)), (6, .int (nI (p_ct (p_need F sh p q nw sp i6) i18)))]) hx hb dX0_missing_63 hl (k := 7) rfl rfl (by decide) rfl (fun ls hl => ?_)
                refine lv_goto (tgt := 18) hx hb dX0_missing_66 (by decide) ?_
                exact ih18 (i18 + 1) (by omega) (by omega) (nI (p_ct (p_need F sh p q nw sp i6) i18)) (nI i18 + 1) (by first | exact nct_t (by simp only [p_need, decide_eq_true c30, Bool.not_true, Bool.not_false, Bool.true_or, Bool.false_or, Bool.or_true, Bool.or_false, Bool.true_and, Bool.false_and, Bool.and_true, Bool.and_false, b2i_T, b2i_F]) | exact nct_f (by simp only [p_need, decide_eq_true c30, Bool.not_true, Bool.not_false, Bool.true_or, Bool.false_or, Bool.or_true, Bool.or_false, Bool.true_and, Bool.false_and, Bool.and_true, Bool.and_false, b2i_T, b2i_F])) (by first | exact nI_1 _ | exact nct_t (by assumption) | exact nct_f (by assumption) | exact nct_b | rfl) _ _ hP hD hS _ (lv_sub hl [1, 2, 3, 4, 5, 6, 7, 0] rfl)
              · refine lv_aload_n hx hb dX0_missing_33 rfl (lv_at hl 0 rfl) ?_
                refine va_get (ci := 0) (v := .ref (a 3)) (C := RX0) (T := TX0) (N := 16) hx hb hts hin hown hK hP 0 rfl rfl 3 (by decide) (hts (.fieldLink RX0 19 "CurfewDesk" "orderColour" "[I") (by decide +kernel)) (fun _ h9 => h9) rfl dX0_missing_34 ?_
                refine lv_iload hx hb dX0_missing_37 (lv_at hl 7 rfl) ?_
                refine w_iald hx hb hK hP 4 0 rfl rfl (f := (F 3)) (j := i18) (by omega) (by omega) dX0_missing_39 ?_
                refine lv_iload hx hb dX0_missing_40 (lv_at hl 5 rfl) ?_
                refine lv_icmp_ne (tgt := 63) hx hb dX0_missing_42 (by decide) (fun c42 => ?_) (fun c42 => ?_)
                · refine lv_iinc (v := nI i18 + 1) (lv' := [(7, .int (nI i18 + 1)), (0, .ref h), (1, .int (nI p)), (2, .int q), (3, .int sp), (4, .int (p_sm (p_lack F sh no p q nw sp) i6)), (5, .int (nI i6)), (6, .int (nI (p_ct (p_need F sh p q nw sp i6) i18)))]) hx hb dX0_missing_63 hl (k := 7) rfl rfl (by decide) rfl (fun ls hl => ?_)
                  refine lv_goto (tgt := 18) hx hb dX0_missing_66 (by decide) ?_
                  exact ih18 (i18 + 1) (by omega) (by omega) (nI (p_ct (p_need F sh p q nw sp i6) i18)) (nI i18 + 1) (by first | exact nct_t (by simp only [p_need, decide_eq_false c30, decide_eq_false c42, Bool.not_true, Bool.not_false, Bool.true_or, Bool.false_or, Bool.or_true, Bool.or_false, Bool.true_and, Bool.false_and, Bool.and_true, Bool.and_false, b2i_T, b2i_F]) | exact nct_f (by simp only [p_need, decide_eq_false c30, decide_eq_false c42, Bool.not_true, Bool.not_false, Bool.true_or, Bool.false_or, Bool.or_true, Bool.or_false, Bool.true_and, Bool.false_and, Bool.and_true, Bool.and_false, b2i_T, b2i_F])) (by first | exact nI_1 _ | exact nct_t (by assumption) | exact nct_f (by assumption) | exact nct_b | rfl) _ _ hP hD hS _ (lv_sub hl [1, 2, 3, 4, 5, 6, 7, 0] rfl)
                · refine lv_aload_n hx hb dX0_missing_45 rfl (lv_at hl 0 rfl) ?_
                  refine lv_iload hx hb dX0_missing_46 (lv_at hl 7 rfl) ?_
                  refine lv_iload_n hx hb dX0_missing_48 rfl (lv_at hl 1 rfl) ?_
                  refine lv_iload_n hx hb dX0_missing_49 rfl (lv_at hl 2 rfl) ?_
                  refine lv_aload_n hx hb dX0_missing_50 rfl (lv_at hl 0 rfl) ?_
                  refine va_get (ci := 0) (v := .int nw) (C := RX0) (T := TX0) (N := 16) hx hb hts hin hown hK hP 0 rfl rfl 15 (by decide) (hts (.fieldLink RX0 101 "CurfewDesk" "now" "I") (by decide +kernel)) (fun _ h9 => h9) rfl dX0_missing_51 ?_
                  refine w_in_i (va_runV (As := [.int (nI i18), .int (nI p), .int q, .int nw]) (rest := []) ⟨hx, hb, hml, hown, hts⟩ (c_X0_bars l G cI cZ h a F nq no np sh nw H.size i18 p q nw (by omega) (by omega)) (cwV 4 hts gX0_missing_X0_bars rfl rfl rfl (by decide +kernel) ⟨(Nat.le_of_ble_eq_true rfl), (Nat.le_of_ble_eq_true rfl)⟩) ⟨wPre_blind, va_recv hK hP (ci := 0) (q0 := 0) rfl rfl, w_pre hK hP hD⟩ rfl rfl hl.1 rfl (lv_room (Nat.le_of_ble_eq_true rfl)) dX0_missing_54 ⟨(Nat.le_of_ble_eq_true rfl), (Nat.le_of_ble_eq_true rfl)⟩) hD hS hA (fun r54 u54 H locs hw54 hP hD hS => ?_)
                  have hP : va_P G vwCl (Dk cI cZ h a F nq no np sh nw) H := hP
                  have hD : va_D A (Dk cI cZ h a F nq no np sh nw) := hD
                  have hw54 : r54 = b2i (p_bars F sh i18 p q nw) := hw54
                  subst hw54
                  refine lv_if_eq (tgt := 63) hx hb dX0_missing_57 (by decide) (fun c57 => ?_) (fun c57 => ?_)
                  · have c57 := b2i_0.mp c57
                    refine lv_iinc (v := nI i18 + 1) (lv' := [(7, .int (nI i18 + 1)), (0, .ref h), (1, .int (nI p)), (2, .int q), (3, .int sp), (4, .int (p_sm (p_lack F sh no p q nw sp) i6)), (5, .int (nI i6)), (6, .int (nI (p_ct (p_need F sh p q nw sp i6) i18)))]) hx hb dX0_missing_63 hl (k := 7) rfl rfl (by decide) rfl (fun ls hl => ?_)
                    refine lv_goto (tgt := 18) hx hb dX0_missing_66 (by decide) ?_
                    exact ih18 (i18 + 1) (by omega) (by omega) (nI (p_ct (p_need F sh p q nw sp i6) i18)) (nI i18 + 1) (by first | exact nct_t (by simp only [p_need, decide_eq_false c30, decide_eq_true c42, c57, Bool.not_true, Bool.not_false, Bool.true_or, Bool.false_or, Bool.or_true, Bool.or_false, Bool.true_and, Bool.false_and, Bool.and_true, Bool.and_false, b2i_T, b2i_F]) | exact nct_f (by simp only [p_need, decide_eq_false c30, decide_eq_true c42, c57, Bool.not_true, Bool.not_false, Bool.true_or, Bool.false_or, Bool.or_true, Bool.or_false, Bool.true_and, Bool.false_and, Bool.and_true, Bool.and_false, b2i_T, b2i_F])) (by first | exact nI_1 _ | exact nct_t (by assumption) | exact nct_f (by assumption) | exact nct_b | rfl) _ _ hP hD hS _ (lv_sub hl [1, 2, 3, 4, 5, 6, 7, 0] rfl)
                  · have c57 := b2i_1.mp c57
                    refine lv_iinc (v := nI (p_ct (p_need F sh p q nw sp i6) i18) + 1) (lv' := [(6, .int (nI (p_ct (p_need F sh p q nw sp i6) i18) + 1)), (0, .ref h), (1, .int (nI p)), (2, .int q), (3, .int sp), (4, .int (p_sm (p_lack F sh no p q nw sp) i6)), (5, .int (nI i6)), (7, .int (nI i18))]) hx hb dX0_missing_60 hl (k := 6) rfl rfl (by decide) rfl (fun ls hl => ?_)
                    refine lv_iinc (v := nI i18 + 1) (lv' := [(7, .int (nI i18 + 1)), (6, .int (nI (p_ct (p_need F sh p q nw sp i6) i18) + 1)), (0, .ref h), (1, .int (nI p)), (2, .int q), (3, .int sp), (4, .int (p_sm (p_lack F sh no p q nw sp) i6)), (5, .int (nI i6))]) hx hb dX0_missing_63 hl (k := 7) rfl rfl (by decide) rfl (fun ls hl => ?_)
                    refine lv_goto (tgt := 18) hx hb dX0_missing_66 (by decide) ?_
                    exact ih18 (i18 + 1) (by omega) (by omega) (nI (p_ct (p_need F sh p q nw sp i6) i18) + 1) (nI i18 + 1) (by first | exact nct_t (by simp only [p_need, decide_eq_false c30, decide_eq_true c42, c57, Bool.not_true, Bool.not_false, Bool.true_or, Bool.false_or, Bool.or_true, Bool.or_false, Bool.true_and, Bool.false_and, Bool.and_true, Bool.and_false, b2i_T, b2i_F]) | exact nct_f (by simp only [p_need, decide_eq_false c30, decide_eq_true c42, c57, Bool.not_true, Bool.not_false, Bool.true_or, Bool.false_or, Bool.or_true, Bool.or_false, Bool.true_and, Bool.false_and, Bool.and_true, Bool.and_false, b2i_T, b2i_F])) (by first | exact nI_1 _ | exact nct_t (by assumption) | exact nct_f (by assumption) | exact nct_b | rfl) _ _ hP hD hS _ (lv_sub hl [2, 3, 4, 5, 6, 7, 1, 0] rfl)
        exact key18 (no + 1) 0 (by omega) (by omega) 0 0 (by first | rfl | simp [p_ct, p_sm, p_fl, p_fg, nI_0]) (by first | rfl | simp [p_ct, p_sm, p_fl, p_fg, nI_0]) _ _ hP hD hS _ (lv_sub hl [2, 3, 4, 5, 6, 7, 1, 0] rfl)
  exact key6 (4 + 1) 0 (by omega) (by omega) 0 0 (by first | rfl | simp [p_ct, p_sm, p_fl, p_fg, nI_0]) (by first | rfl | simp [p_ct, p_sm, p_fl, p_fg, nI_0]) _ _ hP hD hS _ (lv_sub hl [2, 3, 4, 5, 1, 0] rfl)
set_option maxHeartbeats 4000000 in
set_option maxRecDepth 100000 in
theorem c_X0_pairsFreedBy (l : Launch) (G : va_G) (cI cZ : ClassId) (h : Nat) (a : Nat → Nat) (F : Nat → Nat → Int32) (nq no np : Nat) (sh nw : Int32) (sz : Nat) (o : Nat) (ho : o < 10) (hno : no ≤ 10) (hnp : np ≤ 20) : Met l yX0_pairsFreedBy wsX0_pairsFreedBy ({ frames := 5, cells := 0, slots := 0, locals := 117 } : Room) (va_Pc [.ref h, .int (nI o)] (wPre G (ty2 cI cZ) (Dk cI cZ h a F nq no np sh nw) sz)) (va_Qi (fun (r : Int32) (_ : Unit) => r = nI (p_ct (p_fr F sh no nw o) np)) (fun _ => wP G (ty2 cI cZ) (Dk cI cZ h a F nq no np sh nw) (va_A (Dk cI cZ h a F nq no np sh nw) sz)) (va_A (Dk cI cZ h a F nq no np sh nw) sz)) 0 0 (va_A (Dk cI cZ h a F nq no np sh nw) sz) := by
  refine w_met (cc := cX0_pairsFreedBy) (maxL := 5) (ret := (some .int)) (by decide) rfl (Nat.le_of_ble_eq_true rfl) ?_
  intro pg e s m below meth cd hx hb hml hr hts hown hlocks hnm hK hsz hP hD hA hS ls hl
  have hown : s.vm.findClass RX0 = some m.cls := hown
  have hin : ∀ w ∈ wsX00, w ∈ wsX0_pairsFreedBy := by decide +kernel
  have hl : lv_has ls 5 [(0, .ref h), (1, .int (nI o))] := hl
  generalize hAe : va_A (Dk cI cZ h a F nq no np sh nw) sz = A at hD hA hS ⊢
  refine lv_aload_n hx hb dX0_pairsFreedBy_0 rfl (lv_at hl 0 rfl) ?_
  refine va_get (ci := 0) (v := .ref (a 0)) (C := RX0) (T := TX0) (N := 16) hx hb hts hin hown hK hP 0 rfl rfl 0 (by decide) (hts (.fieldLink RX0 9 "CurfewDesk" "orderQuarter" "[I") (by decide +kernel)) (fun _ h9 => h9) rfl dX0_pairsFreedBy_1 ?_
  refine lv_iload_n hx hb dX0_pairsFreedBy_4 rfl (lv_at hl 1 rfl) ?_
  refine w_iald hx hb hK hP 1 0 rfl rfl (f := (F 0)) (j := o) (by omega) (by omega) dX0_pairsFreedBy_5 ?_
  refine lv_istore_n (lv' := [(2, .int ((F 0) o)), (0, .ref h), (1, .int (nI o))]) hx hb dX0_pairsFreedBy_6 rfl hl (by decide) rfl (fun ls hl => ?_)
  refine lv_iconst (v := 0) hx hb dX0_pairsFreedBy_7 (by decide) ?_
  refine lv_istore_n (lv' := [(3, .int 0), (2, .int ((F 0) o)), (0, .ref h), (1, .int (nI o))]) hx hb dX0_pairsFreedBy_8 rfl hl (by decide) rfl (fun ls hl => ?_)
  refine lv_iconst (v := 0) hx hb dX0_pairsFreedBy_9 (by decide) ?_
  refine lv_istore (lv' := [(4, .int 0), (3, .int 0), (2, .int ((F 0) o)), (0, .ref h), (1, .int (nI o))]) hx hb dX0_pairsFreedBy_10 hl (by decide) rfl (fun ls hl => ?_)
  have key12 : ∀ (n i12 : Nat), i12 ≤ np → np < i12 + n → ∀ (x3 : Int32) (x4 : Int32), x3 = nI (p_ct (p_fr F sh no nw o) i12) → x4 = nI i12 → ∀ (H : Heap) (locs : List Loc), va_P G vwCl (Dk cI cZ h a F nq no np sh nw) H → va_D A (Dk cI cZ h a F nq no np sh nw) → va_S A s.heap H locs → ∀ ls : Array Slot, lv_has ls 5 [(0, .ref h), (1, .int (nI o)), (2, .int ((F 0) o)), (3, .int x3), (4, .int x4)] → W pg l e ({ frames := 5, cells := 0, slots := 0, locals := 117 } : Room) s m ([.ref h, .int (nI o)] : List Value).toArray below meth cd H locs (0) (0) (MQ below (va_Qi (fun (r : Int32) (_ : Unit) => r = nI (p_ct (p_fr F sh no nw o) np)) (fun _ => wP G (ty2 cI cZ) (Dk cI cZ h a F nq no np sh nw) A) A) ([.ref h, .int (nI o)] : List Value).toArray s 0 0 A) (F0 m 12 ls []) := by
    intro n
    induction n with
    | zero => intro i12 h1 h2; exact absurd h2 (by omega)
    | succ n ih12 =>
      intro i12 hi_i12 hn_i12 x3 x4 e3 e4 H locs hP hD hS ls hl
      subst e3 e4
      refine lv_iload hx hb dX0_pairsFreedBy_12 (lv_at hl 4 rfl) ?_
      refine lv_aload_n hx hb dX0_pairsFreedBy_14 rfl (lv_at hl 0 rfl) ?_
      refine va_get (ci := 0) (v := .int (nI np)) (C := RX0) (T := TX0) (N := 16) hx hb hts hin hown hK hP 0 rfl rfl 13 (by decide) (hts (.fieldLink RX0 59 "CurfewDesk" "personCount" "I") (by decide +kernel)) (fun _ h9 => h9) rfl dX0_pairsFreedBy_15 ?_
      refine lv_icmp_ge (tgt := 52) hx hb dX0_pairsFreedBy_18 (by decide) (fun c18 => ?_) (fun c18 => ?_)
      · have c18 := (nI_leI (a := np) (b := i12) (by omega) (by omega)).mp c18
        have ei : np = i12 := by omega
        subst ei
        refine lv_iload_n hx hb dX0_pairsFreedBy_52 rfl (lv_at hl 3 rfl) ?_
        exact w_iret () hx hb hr hlocks hK hP hD hS (Nat.le_of_ble_eq_true rfl) (Nat.le_of_ble_eq_true rfl) dX0_pairsFreedBy_53 (show (nI (p_ct (p_fr F sh no nw o) np)) = nI (p_ct (p_fr F sh no nw o) np) from by rfl)
      · have c18 := mt (nI_leI (a := np) (b := i12) (by omega) (by omega)).mpr c18
        have hlt_i12 : i12 < np := by omega
        refine lv_aload_n hx hb dX0_pairsFreedBy_21 rfl (lv_at hl 0 rfl) ?_
        refine lv_iload hx hb dX0_pairsFreedBy_22 (lv_at hl 4 rfl) ?_
        refine lv_iload_n hx hb dX0_pairsFreedBy_24 rfl (lv_at hl 2 rfl) ?_
        refine lv_iconst (v := (-1)) hx hb dX0_pairsFreedBy_25 (by decide) ?_
        refine w_in_i (va_runV (As := [.int (nI i12), .int ((F 0) o), .int (-1)]) (rest := []) ⟨hx, hb, hml, hown, hts⟩ (c_X0_missing l G cI cZ h a F nq no np sh nw H.size i12 ((F 0) o) (-1) (by omega) (by omega)) (cwV 3 hts gX0_pairsFreedBy_X0_missing rfl rfl rfl (by decide +kernel) ⟨(Nat.le_of_ble_eq_true rfl), (Nat.le_of_ble_eq_true rfl)⟩) ⟨wPre_blind, va_recv hK hP (ci := 0) (q0 := 0) rfl rfl, w_pre hK hP hD⟩ rfl rfl hl.1 rfl (lv_room (Nat.le_of_ble_eq_true rfl)) dX0_pairsFreedBy_26 ⟨(Nat.le_of_ble_eq_true rfl), (Nat.le_of_ble_eq_true rfl)⟩) hD hS hA (fun r26 u26 H locs hw26 hP hD hS => ?_)
        have hP : va_P G vwCl (Dk cI cZ h a F nq no np sh nw) H := hP
        have hD : va_D A (Dk cI cZ h a F nq no np sh nw) := hD
        have hw26 : r26 = p_miss F sh no i12 ((F 0) o) nw (-1) := hw26
        subst hw26
        refine lv_if_le (tgt := 46) hx hb dX0_pairsFreedBy_29 (by decide) (fun c29 => ?_) (fun c29 => ?_)
        · refine lv_iinc (v := nI i12 + 1) (lv' := [(4, .int (nI i12 + 1)), (0, .ref h), (1, .int (nI o)), (2, .int ((F 0) o)), (3, .int (nI (p_ct (p_fr F sh no nw o) i12)))]) hx hb dX0_pairsFreedBy_46 hl (k := 4) rfl rfl (by decide) rfl (fun ls hl => ?_)
          refine lv_goto (tgt := 12) hx hb dX0_pairsFreedBy_49 (by decide) ?_
          exact ih12 (i12 + 1) (by omega) (by omega) (nI (p_ct (p_fr F sh no nw o) i12)) (nI i12 + 1) (by first | exact nct_t (by simp only [p_fr, decide_eq_true c29, Bool.not_true, Bool.not_false, Bool.true_or, Bool.false_or, Bool.or_true, Bool.or_false, Bool.true_and, Bool.false_and, Bool.and_true, Bool.and_false, b2i_T, b2i_F]) | exact nct_f (by simp only [p_fr, decide_eq_true c29, Bool.not_true, Bool.not_false, Bool.true_or, Bool.false_or, Bool.or_true, Bool.or_false, Bool.true_and, Bool.false_and, Bool.and_true, Bool.and_false, b2i_T, b2i_F])) (by first | exact nI_1 _ | exact nct_t (by assumption) | exact nct_f (by assumption) | exact nct_b | rfl) _ _ hP hD hS _ (lv_sub hl [1, 2, 3, 4, 0] rfl)
        · refine lv_aload_n hx hb dX0_pairsFreedBy_32 rfl (lv_at hl 0 rfl) ?_
          refine lv_iload hx hb dX0_pairsFreedBy_33 (lv_at hl 4 rfl) ?_
          refine lv_iload_n hx hb dX0_pairsFreedBy_35 rfl (lv_at hl 2 rfl) ?_
          refine lv_iload_n hx hb dX0_pairsFreedBy_36 rfl (lv_at hl 1 rfl) ?_
          refine w_in_i (va_runV (As := [.int (nI i12), .int ((F 0) o), .int (nI o)]) (rest := []) ⟨hx, hb, hml, hown, hts⟩ (c_X0_missing l G cI cZ h a F nq no np sh nw H.size i12 ((F 0) o) (nI o) (by omega) (by omega)) (cwV 3 hts gX0_pairsFreedBy_X0_missing rfl rfl rfl (by decide +kernel) ⟨(Nat.le_of_ble_eq_true rfl), (Nat.le_of_ble_eq_true rfl)⟩) ⟨wPre_blind, va_recv hK hP (ci := 0) (q0 := 0) rfl rfl, w_pre hK hP hD⟩ rfl rfl hl.1 rfl (lv_room (Nat.le_of_ble_eq_true rfl)) dX0_pairsFreedBy_37 ⟨(Nat.le_of_ble_eq_true rfl), (Nat.le_of_ble_eq_true rfl)⟩) hD hS hA (fun r37 u37 H locs hw37 hP hD hS => ?_)
          have hP : va_P G vwCl (Dk cI cZ h a F nq no np sh nw) H := hP
          have hD : va_D A (Dk cI cZ h a F nq no np sh nw) := hD
          have hw37 : r37 = p_miss F sh no i12 ((F 0) o) nw (nI o) := hw37
          subst hw37
          refine lv_if_ne (tgt := 46) hx hb dX0_pairsFreedBy_40 (by decide) (fun c40 => ?_) (fun c40 => ?_)
          · refine lv_iinc (v := nI i12 + 1) (lv' := [(4, .int (nI i12 + 1)), (0, .ref h), (1, .int (nI o)), (2, .int ((F 0) o)), (3, .int (nI (p_ct (p_fr F sh no nw o) i12)))]) hx hb dX0_pairsFreedBy_46 hl (k := 4) rfl rfl (by decide) rfl (fun ls hl => ?_)
            refine lv_goto (tgt := 12) hx hb dX0_pairsFreedBy_49 (by decide) ?_
            exact ih12 (i12 + 1) (by omega) (by omega) (nI (p_ct (p_fr F sh no nw o) i12)) (nI i12 + 1) (by first | exact nct_t (by simp only [p_fr, decide_eq_false c29, decide_eq_false c40, Bool.not_true, Bool.not_false, Bool.true_or, Bool.false_or, Bool.or_true, Bool.or_false, Bool.true_and, Bool.false_and, Bool.and_true, Bool.and_false, b2i_T, b2i_F]) | exact nct_f (by simp only [p_fr, decide_eq_false c29, decide_eq_false c40, Bool.not_true, Bool.not_false, Bool.true_or, Bool.false_or, Bool.or_true, Bool.or_false, Bool.true_and, Bool.false_and, Bool.and_true, Bool.and_false, b2i_T, b2i_F])) (by first | exact nI_1 _ | exact nct_t (by assumption) | exact nct_f (by assumption) | exact nct_b | rfl) _ _ hP hD hS _ (lv_sub hl [1, 2, 3, 4, 0] rfl)
          · refine lv_iinc (v := nI (p_ct (p_fr F sh no nw o) i12) + 1) (lv' := [(3, .int (nI (p_ct (p_fr F sh no nw o) i12) + 1)), (0, .ref h), (1, .int (nI o)), (2, .int ((F 0) o)), (4, .int (nI i12))]) hx hb dX0_pairsFreedBy_43 hl (k := 3) rfl rfl (by decide) rfl (fun ls hl => ?_)
            refine lv_iinc (v := nI i12 + 1) (lv' := [(4, .int (nI i12 + 1)), (3, .int (nI (p_ct (p_fr F sh no nw o) i12) + 1)), (0, .ref h), (1, .int (nI o)), (2, .int ((F 0) o))]) hx hb dX0_pairsFreedBy_46 hl (k := 4) rfl rfl (by decide) rfl (fun ls hl => ?_)
            refine lv_goto (tgt := 12) hx hb dX0_pairsFreedBy_49 (by decide) ?_
            exact ih12 (i12 + 1) (by omega) (by omega) (nI (p_ct (p_fr F sh no nw o) i12) + 1) (nI i12 + 1) (by first | exact nct_t (by simp only [p_fr, decide_eq_false c29, decide_eq_true c40, Bool.not_true, Bool.not_false, Bool.true_or, Bool.false_or, Bool.or_true, Bool.or_false, Bool.true_and, Bool.false_and, Bool.and_true, Bool.and_false, b2i_T, b2i_F]) | exact nct_f (by simp only [p_fr, decide_eq_false c29, decide_eq_true c40, Bool.not_true, Bool.not_false, Bool.true_or, Bool.false_or, Bool.or_true, Bool.or_false, Bool.true_and, Bool.false_and, Bool.and_true, Bool.and_false, b2i_T, b2i_F])) (by first | exact nI_1 _ | exact nct_t (by assumption) | exact nct_f (by assumption) | exact nct_b | rfl) _ _ hP hD hS _ (lv_sub hl [2, 3, 4, 1, 0] rfl)
  exact key12 (np + 1) 0 (by omega) (by omega) 0 0 (by first | rfl | simp [p_ct, p_sm, p_fl, p_fg, nI_0]) (by first | rfl | simp [p_ct, p_sm, p_fl, p_fg, nI_0]) _ _ hP hD hS _ (lv_sub hl [3, 4, 2, 1, 0] rfl)
set_option maxHeartbeats 4000000 in
set_option maxRecDepth 100000 in
theorem c_X0_useStamp (l : Launch) (G : va_G) (cI cZ : ClassId) (h : Nat) (a : Nat → Nat) (F : Nat → Nat → Int32) (nq no np : Nat) (sh nw : Int32) (sz : Nat) (p : Nat) (c : Nat) (hp : p < 20) (hc : c < 4) : Met l yX0_useStamp wsX0_useStamp ({ frames := 1, cells := 0, slots := 0, locals := 21 } : Room) (va_Pc [.ref h, .int (nI p), .int (nI c)] (wPre G (ty2 cI cZ) (Dk cI cZ h a F nq no np sh nw) sz)) (va_Qi (fun (r : Int32) (_ : Unit) => r = b2i (!decide (F 9 (p * 4 + c) = 0))) (fun _ => wP G (ty2 cI cZ) (Dk cI cZ h a (p_us F p c) nq no np sh nw) (va_A (Dk cI cZ h a F nq no np sh nw) sz)) (va_A (Dk cI cZ h a F nq no np sh nw) sz)) 0 0 (va_A (Dk cI cZ h a F nq no np sh nw) sz) := by
  refine w_met (cc := cX0_useStamp) (maxL := 4) (ret := (some .boolean)) (by decide) rfl (Nat.le_of_ble_eq_true rfl) ?_
  intro pg e s m below meth cd hx hb hml hr hts hown hlocks hnm hK hsz hP hD hA hS ls hl
  have hown : s.vm.findClass RX0 = some m.cls := hown
  have hin : ∀ w ∈ wsX00, w ∈ wsX0_useStamp := by decide +kernel
  have hl : lv_has ls 4 [(0, .ref h), (1, .int (nI p)), (2, .int (nI c))] := hl
  generalize hAe : va_A (Dk cI cZ h a F nq no np sh nw) sz = A at hD hA hS ⊢
  refine lv_iload_n hx hb dX0_useStamp_0 rfl (lv_at hl 1 rfl) ?_
  refine lv_iload_n hx hb dX0_useStamp_1 rfl (lv_at hl 2 rfl) ?_
  refine w_st_i (va_runS (As := [.int (nI p), .int (nI c)]) (rest := []) ⟨hx, hb, hml, hown, hts⟩ (c_X0_stampPlace l G s.heap.size p c ) (va_cwS 2 hts gX0_useStamp_X0_stampPlace rfl rfl rfl (by decide +kernel) ⟨(Nat.le_of_ble_eq_true rfl), (Nat.le_of_ble_eq_true rfl)⟩) ⟨wPre_blind, w_pre (hK.sub [] rfl) w_P0 (w_D0 (A := A))⟩ rfl rfl hl.1 rfl (lv_room (Nat.le_of_ble_eq_true rfl)) dX0_useStamp_2 ⟨(Nat.le_of_ble_eq_true rfl), (Nat.le_of_ble_eq_true rfl)⟩) hP hS hA (fun r2 u2 H locs hw2 hP hS => ?_)
  have hw2 : r2 = nI (p * 4 + c) := hw2
  subst hw2
  refine lv_istore_n (lv' := [(3, .int (nI (p * 4 + c))), (0, .ref h), (1, .int (nI p)), (2, .int (nI c))]) hx hb dX0_useStamp_5 rfl hl (by decide) rfl (fun ls hl => ?_)
  refine lv_aload_n hx hb dX0_useStamp_6 rfl (lv_at hl 1 rfl) ?_
  refine va_get (ci := 0) (v := .ref (a 9)) (C := RX0) (T := TX0) (N := 16) hx hb hts hin hown hK hP 0 rfl rfl 9 (by decide) (hts (.fieldLink RX0 38 "CurfewDesk" "personStamps" "[I") (by decide +kernel)) (fun _ h9 => h9) rfl dX0_useStamp_7 ?_
  refine lv_iload_n hx hb dX0_useStamp_10 rfl (lv_at hl 0 rfl) ?_
  refine w_iald hx hb hK hP 10 0 rfl rfl (f := (F 9)) (j := (p * 4 + c)) (by omega) (by omega) dX0_useStamp_11 ?_
  refine lv_if_ne (tgt := 17) hx hb dX0_useStamp_12 (by decide) (fun c12 => ?_) (fun c12 => ?_)
  · refine lv_aload_n hx hb dX0_useStamp_17 rfl (lv_at hl 1 rfl) ?_
    refine va_get (ci := 0) (v := .ref (a 9)) (C := RX0) (T := TX0) (N := 16) hx hb hts hin hown hK hP 0 rfl rfl 9 (by decide) (hts (.fieldLink RX0 38 "CurfewDesk" "personStamps" "[I") (by decide +kernel)) (fun _ h9 => h9) rfl dX0_useStamp_18 ?_
    refine lv_iload_n hx hb dX0_useStamp_21 rfl (lv_at hl 0 rfl) ?_
    refine lv_dup2_11 hx hb dX0_useStamp_22 rfl rfl ?_
    refine w_iald hx hb hK hP 10 0 rfl rfl (f := (F 9)) (j := (p * 4 + c)) (by omega) (by omega) dX0_useStamp_23 ?_
    refine lv_iconst (v := 1) hx hb dX0_useStamp_24 (by decide) ?_
    refine lv_isub hx hb dX0_useStamp_25 ?_
    refine w_iast hx hb hK hP hD hS 10 0 rfl rfl (f := (F 9)) (j := (p * 4 + c)) (by omega) (by omega) dX0_useStamp_26 (fun H locs hP hD hS => ?_)
    have hP : va_P G vwCl (Dk cI cZ h a (va_up F 9 (upd (F 9) (p * 4 + c) (((F 9) (p * 4 + c)) - 1))) nq no np sh nw) H := hP
    have hD : va_D A (Dk cI cZ h a (va_up F 9 (upd (F 9) (p * 4 + c) (((F 9) (p * 4 + c)) - 1))) nq no np sh nw) := hD
    refine lv_aload_n hx hb dX0_useStamp_27 rfl (lv_at hl 1 rfl) ?_
    refine va_get (ci := 0) (v := .ref (a 10)) (C := RX0) (T := TX0) (N := 16) hx hb hts hin hown hK hP 0 rfl rfl 10 (by decide) (hts (.fieldLink RX0 41 "CurfewDesk" "usedStamps" "[I") (by decide +kernel)) (fun _ h9 => h9) rfl dX0_useStamp_28 ?_
    refine lv_iload_n hx hb dX0_useStamp_31 rfl (lv_at hl 3 rfl) ?_
    refine lv_dup2_11 hx hb dX0_useStamp_32 rfl rfl ?_
    refine w_iald hx hb hK hP 11 0 rfl rfl (f := (F 10)) (j := c) (by omega) (by omega) dX0_useStamp_33 ?_
    refine lv_iconst (v := 1) hx hb dX0_useStamp_34 (by decide) ?_
    refine lv_iadd hx hb dX0_useStamp_35 ?_
    refine w_iast hx hb hK hP hD hS 11 0 rfl rfl (f := (F 10)) (j := c) (by omega) (by omega) dX0_useStamp_36 (fun H locs hP hD hS => ?_)
    have hP : va_P G vwCl (Dk cI cZ h a (va_up (va_up F 9 (upd (F 9) (p * 4 + c) (((F 9) (p * 4 + c)) - 1))) 10 (upd (F 10) c (((F 10) c) + 1))) nq no np sh nw) H := hP
    have hD : va_D A (Dk cI cZ h a (va_up (va_up F 9 (upd (F 9) (p * 4 + c) (((F 9) (p * 4 + c)) - 1))) 10 (upd (F 10) c (((F 10) c) + 1))) nq no np sh nw) := hD
    refine lv_iconst (v := 1) hx hb dX0_useStamp_37 (by decide) ?_
    have hP : va_P G vwCl (Dk cI cZ h a (p_us F p c) nq no np sh nw) H := by (first | rw [p_us, if_pos c12] | rw [p_us, if_neg c12]); exact hP
    have hD : va_D A (Dk cI cZ h a (p_us F p c) nq no np sh nw) := by (first | rw [p_us, if_pos c12] | rw [p_us, if_neg c12]); exact hD
    exact w_zret () hx hb hr hlocks hK hP hD hS (Nat.le_of_ble_eq_true rfl) (Nat.le_of_ble_eq_true rfl) dX0_useStamp_38 rfl (show 1 = b2i (!decide (F 9 (p * 4 + c) = 0)) from by simp only [decide_eq_false c12, Bool.not_true, Bool.not_false, Bool.true_or, Bool.false_or, Bool.or_true, Bool.or_false, Bool.true_and, Bool.false_and, Bool.and_true, Bool.and_false, b2i_T, b2i_F])
  · refine lv_iconst (v := 0) hx hb dX0_useStamp_15 (by decide) ?_
    have hP : va_P G vwCl (Dk cI cZ h a (p_us F p c) nq no np sh nw) H := by (first | rw [p_us, if_pos c12] | rw [p_us, if_neg c12]); exact hP
    have hD : va_D A (Dk cI cZ h a (p_us F p c) nq no np sh nw) := by (first | rw [p_us, if_pos c12] | rw [p_us, if_neg c12]); exact hD
    exact w_zret () hx hb hr hlocks hK hP hD hS (Nat.le_of_ble_eq_true rfl) (Nat.le_of_ble_eq_true rfl) dX0_useStamp_16 rfl (show 0 = b2i (!decide (F 9 (p * 4 + c) = 0)) from by simp only [decide_eq_true c12, Bool.not_true, Bool.not_false, Bool.true_or, Bool.false_or, Bool.or_true, Bool.or_false, Bool.true_and, Bool.false_and, Bool.and_true, Bool.and_false, b2i_T, b2i_F])
set_option maxHeartbeats 4000000 in
set_option maxRecDepth 100000 in
theorem c_X0_fineOnce (l : Launch) (G : va_G) (cI cZ : ClassId) (h : Nat) (a : Nat → Nat) (F : Nat → Nat → Int32) (nq no np : Nat) (sh nw : Int32) (sz : Nat) (p : Nat) (hp : p < 20) : Met l yX0_fineOnce wsX0_fineOnce ({ frames := 0, cells := 0, slots := 0, locals := 0 } : Room) (va_Pc [.ref h, .int (nI p)] (wPre G (ty2 cI cZ) (Dk cI cZ h a F nq no np sh nw) sz)) (va_Qi (fun (r : Int32) (_ : Unit) => r = 10 * (F 7 p + 1)) (fun _ => wP G (ty2 cI cZ) (Dk cI cZ h a (p_fine F p) nq no np sh nw) (va_A (Dk cI cZ h a F nq no np sh nw) sz)) (va_A (Dk cI cZ h a F nq no np sh nw) sz)) 0 0 (va_A (Dk cI cZ h a F nq no np sh nw) sz) := by
  refine w_met (cc := cX0_fineOnce) (maxL := 3) (ret := (some .int)) (by decide) rfl (Nat.le_of_ble_eq_true rfl) ?_
  intro pg e s m below meth cd hx hb hml hr hts hown hlocks hnm hK hsz hP hD hA hS ls hl
  have hown : s.vm.findClass RX0 = some m.cls := hown
  have hin : ∀ w ∈ wsX00, w ∈ wsX0_fineOnce := by decide +kernel
  have hl : lv_has ls 3 [(0, .ref h), (1, .int (nI p))] := hl
  generalize hAe : va_A (Dk cI cZ h a F nq no np sh nw) sz = A at hD hA hS ⊢
  refine lv_aload_n hx hb dX0_fineOnce_0 rfl (lv_at hl 0 rfl) ?_
  refine va_get (ci := 0) (v := .ref (a 7)) (C := RX0) (T := TX0) (N := 16) hx hb hts hin hown hK hP 0 rfl rfl 7 (by decide) (hts (.fieldLink RX0 32 "CurfewDesk" "personFined" "[I") (by decide +kernel)) (fun _ h9 => h9) rfl dX0_fineOnce_1 ?_
  refine lv_iload_n hx hb dX0_fineOnce_4 rfl (lv_at hl 1 rfl) ?_
  refine lv_dup2_11 hx hb dX0_fineOnce_5 rfl rfl ?_
  refine w_iald hx hb hK hP 8 0 rfl rfl (f := (F 7)) (j := p) (by omega) (by omega) dX0_fineOnce_6 ?_
  refine lv_iconst (v := 1) hx hb dX0_fineOnce_7 (by decide) ?_
  refine lv_iadd hx hb dX0_fineOnce_8 ?_
  refine w_iast hx hb hK hP hD hS 8 0 rfl rfl (f := (F 7)) (j := p) (by omega) (by omega) dX0_fineOnce_9 (fun H locs hP hD hS => ?_)
  have hP : va_P G vwCl (Dk cI cZ h a (va_up F 7 (upd (F 7) p (((F 7) p) + 1))) nq no np sh nw) H := hP
  have hD : va_D A (Dk cI cZ h a (va_up F 7 (upd (F 7) p (((F 7) p) + 1))) nq no np sh nw) := hD
  refine lv_bipush (v := 10) hx hb dX0_fineOnce_10 (by decide) ?_
  refine lv_aload_n hx hb dX0_fineOnce_12 rfl (lv_at hl 0 rfl) ?_
  refine va_get (ci := 0) (v := .ref (a 7)) (C := RX0) (T := TX0) (N := 16) hx hb hts hin hown hK hP 0 rfl rfl 7 (by decide) (hts (.fieldLink RX0 32 "CurfewDesk" "personFined" "[I") (by decide +kernel)) (fun _ h9 => h9) rfl dX0_fineOnce_13 ?_
  refine lv_iload_n hx hb dX0_fineOnce_16 rfl (lv_at hl 1 rfl) ?_
  refine w_iald hx hb hK hP 8 0 rfl rfl (f := (upd (F 7) p (((F 7) p) + 1))) (j := p) (by omega) (by omega) dX0_fineOnce_17 ?_
  rw [pk_us]
  refine lv_imul hx hb dX0_fineOnce_18 ?_
  refine lv_istore_n (lv' := [(2, .int (10 * (((F 7) p) + 1))), (0, .ref h), (1, .int (nI p))]) hx hb dX0_fineOnce_19 rfl hl (by decide) rfl (fun ls hl => ?_)
  refine lv_aload_n hx hb dX0_fineOnce_20 rfl (lv_at hl 1 rfl) ?_
  refine va_get (ci := 0) (v := .ref (a 8)) (C := RX0) (T := TX0) (N := 16) hx hb hts hin hown hK hP 0 rfl rfl 8 (by decide) (hts (.fieldLink RX0 35 "CurfewDesk" "personOwes" "[I") (by decide +kernel)) (fun _ h9 => h9) rfl dX0_fineOnce_21 ?_
  refine lv_iload_n hx hb dX0_fineOnce_24 rfl (lv_at hl 2 rfl) ?_
  refine lv_dup2_11 hx hb dX0_fineOnce_25 rfl rfl ?_
  refine w_iald hx hb hK hP 9 0 rfl rfl (f := (F 8)) (j := p) (by omega) (by omega) dX0_fineOnce_26 ?_
  refine lv_iload_n hx hb dX0_fineOnce_27 rfl (lv_at hl 0 rfl) ?_
  refine lv_iadd hx hb dX0_fineOnce_28 ?_
  refine w_iast hx hb hK hP hD hS 9 0 rfl rfl (f := (F 8)) (j := p) (by omega) (by omega) dX0_fineOnce_29 (fun H locs hP hD hS => ?_)
  have hP : va_P G vwCl (Dk cI cZ h a (va_up (va_up F 7 (upd (F 7) p (((F 7) p) + 1))) 8 (upd (F 8) p (((F 8) p) + (10 * (((F 7) p) + 1))))) nq no np sh nw) H := hP
  have hD : va_D A (Dk cI cZ h a (va_up (va_up F 7 (upd (F 7) p (((F 7) p) + 1))) 8 (upd (F 8) p (((F 8) p) + (10 * (((F 7) p) + 1))))) nq no np sh nw) := hD
  refine lv_iload_n hx hb dX0_fineOnce_30 rfl (lv_at hl 0 rfl) ?_
  exact w_iret () hx hb hr hlocks hK hP hD hS (Nat.le_of_ble_eq_true rfl) (Nat.le_of_ble_eq_true rfl) dX0_fineOnce_31 (show (10 * (((F 7) p) + 1)) = 10 * (F 7 p + 1) from by rfl)
