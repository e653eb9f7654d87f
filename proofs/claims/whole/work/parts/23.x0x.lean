set_option maxHeartbeats 4000000 in
set_option maxRecDepth 100000 in
theorem cx_X0_quarterOf (l : Launch) (hfl : l.flags = flags0) (G : va_G) (cI cZ : ClassId) (h : Nat) (a : Nat → Nat) (F : Nat → Nat → Int32) (nq no np : Nat) (sh nw : Int32) (sz : Nat) (x : Int32) (hno : no ≤ 10) : vx_Met l yX0_quarterOf wsX0_quarterOf ({ frames := 7, cells := 1, slots := 6, locals := 103 } : Room) (va_Pc [.ref h, .int x] (wPreX G (ty2 cI cZ) (Dk cI cZ h a F nq no np sh nw) sz)) (va_Qi (fun (r : Int32) (_ : Unit) => k1 (p_in x no) = 0 ∧ r = F 0 x.toNatClampNeg) (fun _ => wP G (ty2 cI cZ) (Dk cI cZ h a F nq no np sh nw) (va_A (Dk cI cZ h a F nq no np sh nw) sz)) (va_A (Dk cI cZ h a F nq no np sh nw) sz)) (wXC (fun E : String => E = "java/lang/IndexOutOfBoundsException" ∧ k1 (p_in x no) = 1) G (ty2 cI cZ) (Dk cI cZ h a F nq no np sh nw) (va_A (Dk cI cZ h a F nq no np sh nw) sz)) 1 6 (va_A (Dk cI cZ h a F nq no np sh nw) sz) := by
  refine w_metX (cc := cX0_quarterOf) (maxL := 2) (ret := (some .int)) (by decide) rfl (Nat.le_of_ble_eq_true rfl) ?_
  intro pg e s m below meth cd hx hb hml hr hts hown hlocks hnm hno9 hZ hK hsz hP hD hA hS ls hl
  have hown : s.vm.findClass RX0 = some m.cls := hown
  have hin : ∀ w ∈ wsX00, w ∈ wsX0_quarterOf := by decide +kernel
  have hl : lv_has ls 2 [(0, .ref h), (1, .int x)] := hl
  generalize hAe : va_A (Dk cI cZ h a F nq no np sh nw) sz = A at hD hA hS hZ ⊢
  refine lv_aload_n hx hb dX0_quarterOf_0 rfl (lv_at hl 0 rfl) ?_
  refine lv_iload_n hx hb dX0_quarterOf_1 rfl (lv_at hl 1 rfl) ?_
  refine w_prop_v (vx_runV (As := [.int x]) (rest := []) ⟨hx, hb, hml, hown, hts⟩ (cx_X0_requireOrder l hfl G cI cZ h a F nq no np sh nw s.heap.size x (by omega)) (cwV 1 hts gX0_quarterOf_X0_requireOrder rfl rfl rfl (by decide +kernel) ⟨(Nat.le_of_ble_eq_true rfl), (Nat.le_of_ble_eq_true rfl)⟩) ⟨wPreX_blind, va_recv hK hP (ci := 0) (q0 := 0) rfl rfl, w_preX hK hP hD (w_free hD hS hA) hS hZ⟩ rfl rfl hl.1 rfl (lv_room (Nat.le_of_ble_eq_true rfl)) dX0_quarterOf_2 ⟨(Nat.le_of_ble_eq_true rfl), (Nat.le_of_ble_eq_true rfl)⟩) hK hD hS hA hno9 hlocks (Nat.le_of_ble_eq_true rfl) (Nat.le_of_ble_eq_true rfl) (fun E h => ⟨h.1, by rw [h.2]; rfl⟩) (fun u H locs hw2 hP hD hS => ?_)
  have hw2 : p_in x no = true := hw2
  have hP : va_P G vwCl (Dk cI cZ h a F nq no np sh nw) H := hP
  have hD : va_D A (Dk cI cZ h a F nq no np sh nw) := hD
  obtain ⟨j, hj, rfl⟩ := pin_of hw2
  refine lv_aload_n hx hb dX0_quarterOf_5 rfl (lv_at hl 0 rfl) ?_
  refine va_get (ci := 0) (v := .ref (a 0)) (C := RX0) (T := TX0) (N := 16) hx hb hts hin hown hK hP 0 rfl rfl 0 (by decide) (hts (.fieldLink RX0 9 "CurfewDesk" "orderQuarter" "[I") (by decide +kernel)) (fun _ h9 => h9) rfl dX0_quarterOf_6 ?_
  refine lv_iload_n hx hb dX0_quarterOf_9 rfl (lv_at hl 1 rfl) ?_
  refine w_iald hx hb hK hP 1 0 rfl rfl (f := (F 0)) (j := j) (by omega) (by omega) dX0_quarterOf_10 ?_
  refine vx_ret ?_
  exact w_iret () hx hb hr hlocks hK hP hD hS (Nat.le_of_ble_eq_true rfl) (Nat.le_of_ble_eq_true rfl) dX0_quarterOf_11 (show k1 (p_in (nI j) no) = 0 ∧ ((F 0) j) = F 0 (nI j).toNatClampNeg from by exact ⟨by rw [hw2]; rfl, by simp only [nI_clamp (show j < 2 ^ 31 by omega)]⟩)
set_option maxHeartbeats 4000000 in
set_option maxRecDepth 100000 in
theorem cx_X0_colourOf (l : Launch) (hfl : l.flags = flags0) (G : va_G) (cI cZ : ClassId) (h : Nat) (a : Nat → Nat) (F : Nat → Nat → Int32) (nq no np : Nat) (sh nw : Int32) (sz : Nat) (x : Int32) (hno : no ≤ 10) : vx_Met l yX0_colourOf wsX0_colourOf ({ frames := 7, cells := 1, slots := 6, locals := 103 } : Room) (va_Pc [.ref h, .int x] (wPreX G (ty2 cI cZ) (Dk cI cZ h a F nq no np sh nw) sz)) (va_Qi (fun (r : Int32) (_ : Unit) => k1 (p_in x no) = 0 ∧ r = F 3 x.toNatClampNeg) (fun _ => wP G (ty2 cI cZ) (Dk cI cZ h a F nq no np sh nw) (va_A (Dk cI cZ h a F nq no np sh nw) sz)) (va_A (Dk cI cZ h a F nq no np sh nw) sz)) (wXC (fun E : String => E = "java/lang/IndexOutOfBoundsException" ∧ k1 (p_in x no) = 1) G (ty2 cI cZ) (Dk cI cZ h a F nq no np sh nw) (va_A (Dk cI cZ h a F nq no np sh nw) sz)) 1 6 (va_A (Dk cI cZ h a F nq no np sh nw) sz) := by
  refine w_metX (cc := cX0_colourOf) (maxL := 2) (ret := (some .int)) (by decide) rfl (Nat.le_of_ble_eq_true rfl) ?_
  intro pg e s m below meth cd hx hb hml hr hts hown hlocks hnm hno9 hZ hK hsz hP hD hA hS ls hl
  have hown : s.vm.findClass RX0 = some m.cls := hown
  have hin : ∀ w ∈ wsX00, w ∈ wsX0_colourOf := by decide +kernel
  have hl : lv_has ls 2 [(0, .ref h), (1, .int x)] := hl
  generalize hAe : va_A (Dk cI cZ h a F nq no np sh nw) sz = A at hD hA hS hZ ⊢
  refine lv_aload_n hx hb dX0_colourOf_0 rfl (lv_at hl 0 rfl) ?_
  refine lv_iload_n hx hb dX0_colourOf_1 rfl (lv_at hl 1 rfl) ?_
  refine w_prop_v (vx_runV (As := [.int x]) (rest := []) ⟨hx, hb, hml, hown, hts⟩ (cx_X0_requireOrder l hfl G cI cZ h a F nq no np sh nw s.heap.size x (by omega)) (cwV 1 hts gX0_colourOf_X0_requireOrder rfl rfl rfl (by decide +kernel) ⟨(Nat.le_of_ble_eq_true rfl), (Nat.le_of_ble_eq_true rfl)⟩) ⟨wPreX_blind, va_recv hK hP (ci := 0) (q0 := 0) rfl rfl, w_preX hK hP hD (w_free hD hS hA) hS hZ⟩ rfl rfl hl.1 rfl (lv_room (Nat.le_of_ble_eq_true rfl)) dX0_colourOf_2 ⟨(Nat.le_of_ble_eq_true rfl), (Nat.le_of_ble_eq_true rfl)⟩) hK hD hS hA hno9 hlocks (Nat.le_of_ble_eq_true rfl) (Nat.le_of_ble_eq_true rfl) (fun E h => ⟨h.1, by rw [h.2]; rfl⟩) (fun u H locs hw2 hP hD hS => ?_)
  have hw2 : p_in x no = true := hw2
  have hP : va_P G vwCl (Dk cI cZ h a F nq no np sh nw) H := hP
  have hD : va_D A (Dk cI cZ h a F nq no np sh nw) := hD
  obtain ⟨j, hj, rfl⟩ := pin_of hw2
  refine lv_aload_n hx hb dX0_colourOf_5 rfl (lv_at hl 0 rfl) ?_
  refine va_get (ci := 0) (v := .ref (a 3)) (C := RX0) (T := TX0) (N := 16) hx hb hts hin hown hK hP 0 rfl rfl 3 (by decide) (hts (.fieldLink RX0 19 "CurfewDesk" "orderColour" "[I") (by decide +kernel)) (fun _ h9 => h9) rfl dX0_colourOf_6 ?_
  refine lv_iload_n hx hb dX0_colourOf_9 rfl (lv_at hl 1 rfl) ?_
  refine w_iald hx hb hK hP 4 0 rfl rfl (f := (F 3)) (j := j) (by omega) (by omega) dX0_colourOf_10 ?_
  refine vx_ret ?_
  exact w_iret () hx hb hr hlocks hK hP hD hS (Nat.le_of_ble_eq_true rfl) (Nat.le_of_ble_eq_true rfl) dX0_colourOf_11 (show k1 (p_in (nI j) no) = 0 ∧ ((F 3) j) = F 3 (nI j).toNatClampNeg from by exact ⟨by rw [hw2]; rfl, by simp only [nI_clamp (show j < 2 ^ 31 by omega)]⟩)
set_option maxHeartbeats 4000000 in
set_option maxRecDepth 100000 in
theorem cx_X0_isInForce (l : Launch) (hfl : l.flags = flags0) (G : va_G) (cI cZ : ClassId) (h : Nat) (a : Nat → Nat) (F : Nat → Nat → Int32) (nq no np : Nat) (sh nw : Int32) (sz : Nat) (x : Int32) (hno : no ≤ 10) (H4 : ∀ j, F 4 j = 0 ∨ F 4 j = 1) : vx_Met l yX0_isInForce wsX0_isInForce ({ frames := 7, cells := 1, slots := 6, locals := 103 } : Room) (va_Pc [.ref h, .int x] (wPreX G (ty2 cI cZ) (Dk cI cZ h a F nq no np sh nw) sz)) (va_Qi (fun (r : Int32) (_ : Unit) => k1 (p_in x no) = 0 ∧ r = F 4 x.toNatClampNeg) (fun _ => wP G (ty2 cI cZ) (Dk cI cZ h a F nq no np sh nw) (va_A (Dk cI cZ h a F nq no np sh nw) sz)) (va_A (Dk cI cZ h a F nq no np sh nw) sz)) (wXC (fun E : String => E = "java/lang/IndexOutOfBoundsException" ∧ k1 (p_in x no) = 1) G (ty2 cI cZ) (Dk cI cZ h a F nq no np sh nw) (va_A (Dk cI cZ h a F nq no np sh nw) sz)) 1 6 (va_A (Dk cI cZ h a F nq no np sh nw) sz) := by
  refine w_metX (cc := cX0_isInForce) (maxL := 2) (ret := (some .boolean)) (by decide) rfl (Nat.le_of_ble_eq_true rfl) ?_
  intro pg e s m below meth cd hx hb hml hr hts hown hlocks hnm hno9 hZ hK hsz hP hD hA hS ls hl
  have hown : s.vm.findClass RX0 = some m.cls := hown
  have hin : ∀ w ∈ wsX00, w ∈ wsX0_isInForce := by decide +kernel
  have hl : lv_has ls 2 [(0, .ref h), (1, .int x)] := hl
  generalize hAe : va_A (Dk cI cZ h a F nq no np sh nw) sz = A at hD hA hS hZ ⊢
  refine lv_aload_n hx hb dX0_isInForce_0 rfl (lv_at hl 0 rfl) ?_
  refine lv_iload_n hx hb dX0_isInForce_1 rfl (lv_at hl 1 rfl) ?_
  refine w_prop_v (vx_runV (As := [.int x]) (rest := []) ⟨hx, hb, hml, hown, hts⟩ (cx_X0_requireOrder l hfl G cI cZ h a F nq no np sh nw s.heap.size x (by omega)) (cwV 1 hts gX0_isInForce_X0_requireOrder rfl rfl rfl (by decide +kernel) ⟨(Nat.le_of_ble_eq_true rfl), (Nat.le_of_ble_eq_true rfl)⟩) ⟨wPreX_blind, va_recv hK hP (ci := 0) (q0 := 0) rfl rfl, w_preX hK hP hD (w_free hD hS hA) hS hZ⟩ rfl rfl hl.1 rfl (lv_room (Nat.le_of_ble_eq_true rfl)) dX0_isInForce_2 ⟨(Nat.le_of_ble_eq_true rfl), (Nat.le_of_ble_eq_true rfl)⟩) hK hD hS hA hno9 hlocks (Nat.le_of_ble_eq_true rfl) (Nat.le_of_ble_eq_true rfl) (fun E h => ⟨h.1, by rw [h.2]; rfl⟩) (fun u H locs hw2 hP hD hS => ?_)
  have hw2 : p_in x no = true := hw2
  have hP : va_P G vwCl (Dk cI cZ h a F nq no np sh nw) H := hP
  have hD : va_D A (Dk cI cZ h a F nq no np sh nw) := hD
  obtain ⟨j, hj, rfl⟩ := pin_of hw2
  refine lv_aload_n hx hb dX0_isInForce_5 rfl (lv_at hl 0 rfl) ?_
  refine va_get (ci := 0) (v := .ref (a 4)) (C := RX0) (T := TX0) (N := 16) hx hb hts hin hown hK hP 0 rfl rfl 4 (by decide) (hts (.fieldLink RX0 22 "CurfewDesk" "orderInForce" "[Z") (by decide +kernel)) (fun _ h9 => h9) rfl dX0_isInForce_6 ?_
  refine lv_iload_n hx hb dX0_isInForce_9 rfl (lv_at hl 1 rfl) ?_
  refine w_zald hx hb hK hP 5 1 rfl rfl (f := (F 4)) (j := j) (by omega) (by omega) dX0_isInForce_10 ?_
  refine vx_ret ?_
  exact w_zret () hx hb hr hlocks hK hP hD hS (Nat.le_of_ble_eq_true rfl) (Nat.le_of_ble_eq_true rfl) dX0_isInForce_11 (by rcases H4 j with h | h <;> rw [h] <;> rfl) (show k1 (p_in (nI j) no) = 0 ∧ ((F 4) j) = F 4 (nI j).toNatClampNeg from by exact ⟨by rw [hw2]; rfl, by simp only [nI_clamp (show j < 2 ^ 31 by omega)]⟩)
set_option maxHeartbeats 4000000 in
set_option maxRecDepth 100000 in
theorem cx_X0_isOn (l : Launch) (hfl : l.flags = flags0) (G : va_G) (cI cZ : ClassId) (h : Nat) (a : Nat → Nat) (F : Nat → Nat → Int32) (nq no np : Nat) (sh nw : Int32) (sz : Nat) (x : Int32) (hno : no ≤ 10) : vx_Met l yX0_isOn wsX0_isOn ({ frames := 7, cells := 1, slots := 6, locals := 103 } : Room) (va_Pc [.ref h, .int x] (wPreX G (ty2 cI cZ) (Dk cI cZ h a F nq no np sh nw) sz)) (va_Qi (fun (r : Int32) (_ : Unit) => k1 (p_in x no) = 0 ∧ r = b2i (p_on F sh x.toNatClampNeg nw)) (fun _ => wP G (ty2 cI cZ) (Dk cI cZ h a F nq no np sh nw) (va_A (Dk cI cZ h a F nq no np sh nw) sz)) (va_A (Dk cI cZ h a F nq no np sh nw) sz)) (wXC (fun E : String => E = "java/lang/IndexOutOfBoundsException" ∧ k1 (p_in x no) = 1) G (ty2 cI cZ) (Dk cI cZ h a F nq no np sh nw) (va_A (Dk cI cZ h a F nq no np sh nw) sz)) 1 6 (va_A (Dk cI cZ h a F nq no np sh nw) sz) := by
  refine w_metX (cc := cX0_isOn) (maxL := 2) (ret := (some .boolean)) (by decide) rfl (Nat.le_of_ble_eq_true rfl) ?_
  intro pg e s m below meth cd hx hb hml hr hts hown hlocks hnm hno9 hZ hK hsz hP hD hA hS ls hl
  have hown : s.vm.findClass RX0 = some m.cls := hown
  have hin : ∀ w ∈ wsX00, w ∈ wsX0_isOn := by decide +kernel
  have hl : lv_has ls 2 [(0, .ref h), (1, .int x)] := hl
  generalize hAe : va_A (Dk cI cZ h a F nq no np sh nw) sz = A at hD hA hS hZ ⊢
  refine lv_aload_n hx hb dX0_isOn_0 rfl (lv_at hl 0 rfl) ?_
  refine lv_iload_n hx hb dX0_isOn_1 rfl (lv_at hl 1 rfl) ?_
  refine w_prop_v (vx_runV (As := [.int x]) (rest := []) ⟨hx, hb, hml, hown, hts⟩ (cx_X0_requireOrder l hfl G cI cZ h a F nq no np sh nw s.heap.size x (by omega)) (cwV 1 hts gX0_isOn_X0_requireOrder rfl rfl rfl (by decide +kernel) ⟨(Nat.le_of_ble_eq_true rfl), (Nat.le_of_ble_eq_true rfl)⟩) ⟨wPreX_blind, va_recv hK hP (ci := 0) (q0 := 0) rfl rfl, w_preX hK hP hD (w_free hD hS hA) hS hZ⟩ rfl rfl hl.1 rfl (lv_room (Nat.le_of_ble_eq_true rfl)) dX0_isOn_2 ⟨(Nat.le_of_ble_eq_true rfl), (Nat.le_of_ble_eq_true rfl)⟩) hK hD hS hA hno9 hlocks (Nat.le_of_ble_eq_true rfl) (Nat.le_of_ble_eq_true rfl) (fun E h => ⟨h.1, by rw [h.2]; rfl⟩) (fun u H locs hw2 hP hD hS => ?_)
  have hw2 : p_in x no = true := hw2
  have hP : va_P G vwCl (Dk cI cZ h a F nq no np sh nw) H := hP
  have hD : va_D A (Dk cI cZ h a F nq no np sh nw) := hD
  obtain ⟨j, hj, rfl⟩ := pin_of hw2
  refine lv_aload_n hx hb dX0_isOn_5 rfl (lv_at hl 0 rfl) ?_
  refine lv_iload_n hx hb dX0_isOn_6 rfl (lv_at hl 1 rfl) ?_
  refine lv_aload_n hx hb dX0_isOn_7 rfl (lv_at hl 0 rfl) ?_
  refine va_get (ci := 0) (v := .int nw) (C := RX0) (T := TX0) (N := 16) hx hb hts hin hown hK hP 0 rfl rfl 15 (by decide) (hts (.fieldLink RX0 101 "CurfewDesk" "now" "I") (by decide +kernel)) (fun _ h9 => h9) rfl dX0_isOn_8 ?_
  refine w_in_i (va_runV (As := [.int (nI j), .int nw]) (rest := []) ⟨hx, hb, hml, hown, hts⟩ (c_X0_isOnAt l G cI cZ h a F nq no np sh nw H.size j nw (by omega)) (cwV 2 hts gX0_isOn_X0_isOnAt rfl rfl rfl (by decide +kernel) ⟨(Nat.le_of_ble_eq_true rfl), (Nat.le_of_ble_eq_true rfl)⟩) ⟨wPre_blind, va_recv hK hP (ci := 0) (q0 := 0) rfl rfl, w_pre hK hP hD⟩ rfl rfl hl.1 rfl (lv_room (Nat.le_of_ble_eq_true rfl)) dX0_isOn_11 ⟨(Nat.le_of_ble_eq_true rfl), (Nat.le_of_ble_eq_true rfl)⟩) hD hS hA (fun r11 u11 H locs hw11 hP hD hS => ?_)
  have hP : va_P G vwCl (Dk cI cZ h a F nq no np sh nw) H := hP
  have hD : va_D A (Dk cI cZ h a F nq no np sh nw) := hD
  have hw11 : r11 = b2i (p_on F sh j nw) := hw11
  subst hw11
  refine vx_ret ?_
  exact w_zret () hx hb hr hlocks hK hP hD hS (Nat.le_of_ble_eq_true rfl) (Nat.le_of_ble_eq_true rfl) dX0_isOn_14 (b2i_n _) (show k1 (p_in (nI j) no) = 0 ∧ (b2i (p_on F sh j nw)) = b2i (p_on F sh (nI j).toNatClampNeg nw) from by exact ⟨by rw [hw2]; rfl, by simp only [nI_clamp (show j < 2 ^ 31 by omega)]⟩)
set_option maxHeartbeats 4000000 in
set_option maxRecDepth 100000 in
theorem cx_X0_isExempt (l : Launch) (hfl : l.flags = flags0) (G : va_G) (cI cZ : ClassId) (h : Nat) (a : Nat → Nat) (F : Nat → Nat → Int32) (nq no np : Nat) (sh nw : Int32) (sz : Nat) (x : Int32) (t : Int32) (hno : no ≤ 10) : vx_Met l yX0_isExempt wsX0_isExempt ({ frames := 7, cells := 2, slots := 12, locals := 103 } : Room) (va_Pc [.ref h, .int x, .int t] (wPreX G (ty2 cI cZ) (Dk cI cZ h a F nq no np sh nw) sz)) (va_Qi (fun (r : Int32) (_ : Unit) => k1 (p_in x no && p_in t 8) = 0 ∧ r = b2i (p_ex F x.toNatClampNeg t)) (fun _ => wP G (ty2 cI cZ) (Dk cI cZ h a F nq no np sh nw) (va_A (Dk cI cZ h a F nq no np sh nw) sz)) (va_A (Dk cI cZ h a F nq no np sh nw) sz)) (wXC (fun E : String => E = "java/lang/IndexOutOfBoundsException" ∧ k1 (p_in x no && p_in t 8) = 1) G (ty2 cI cZ) (Dk cI cZ h a F nq no np sh nw) (va_A (Dk cI cZ h a F nq no np sh nw) sz)) 2 12 (va_A (Dk cI cZ h a F nq no np sh nw) sz) := by
  refine w_metX (cc := cX0_isExempt) (maxL := 3) (ret := (some .boolean)) (by decide) rfl (Nat.le_of_ble_eq_true rfl) ?_
  intro pg e s m below meth cd hx hb hml hr hts hown hlocks hnm hno9 hZ hK hsz hP hD hA hS ls hl
  have hown : s.vm.findClass RX0 = some m.cls := hown
  have hl : lv_has ls 3 [(0, .ref h), (1, .int x), (2, .int t)] := hl
  generalize hAe : va_A (Dk cI cZ h a F nq no np sh nw) sz = A at hD hA hS hZ ⊢
  refine lv_aload_n hx hb dX0_isExempt_0 rfl (lv_at hl 0 rfl) ?_
  refine lv_iload_n hx hb dX0_isExempt_1 rfl (lv_at hl 1 rfl) ?_
  refine w_prop_v (vx_runV (As := [.int x]) (rest := []) ⟨hx, hb, hml, hown, hts⟩ (cx_X0_requireOrder l hfl G cI cZ h a F nq no np sh nw s.heap.size x (by omega)) (cwV 1 hts gX0_isExempt_X0_requireOrder rfl rfl rfl (by decide +kernel) ⟨(Nat.le_of_ble_eq_true rfl), (Nat.le_of_ble_eq_true rfl)⟩) ⟨wPreX_blind, va_recv hK hP (ci := 0) (q0 := 0) rfl rfl, w_preX hK hP hD (w_free hD hS hA) hS hZ⟩ rfl rfl hl.1 rfl (lv_room (Nat.le_of_ble_eq_true rfl)) dX0_isExempt_2 ⟨(Nat.le_of_ble_eq_true rfl), (Nat.le_of_ble_eq_true rfl)⟩) hK hD hS hA hno9 hlocks (Nat.le_of_ble_eq_true rfl) (Nat.le_of_ble_eq_true rfl) (fun E h => ⟨h.1, by rw [h.2]; rfl⟩) (fun u H locs hw2 hP hD hS => ?_)
  have hw2 : p_in x no = true := hw2
  have hP : va_P G vwCl (Dk cI cZ h a F nq no np sh nw) H := hP
  have hD : va_D A (Dk cI cZ h a F nq no np sh nw) := hD
  obtain ⟨j, hj, rfl⟩ := pin_of hw2
  refine lv_iload_n hx hb dX0_isExempt_5 rfl (lv_at hl 2 rfl) ?_
  refine w_prop0_v (vx_runS (As := [.int t]) (rest := []) ⟨hx, hb, hml, hown, hts⟩ (cx_X0_requireTrade l hfl G H.size t ) (va_cwS 1 hts gX0_isExempt_X0_requireTrade rfl rfl rfl (by decide +kernel) ⟨(Nat.le_of_ble_eq_true rfl), (Nat.le_of_ble_eq_true rfl)⟩) ⟨wPreX_blind, w_preX (hK.sub [] rfl) w_P0 w_D0 (w_free0 hS hA) hS hZ⟩ rfl rfl hl.1 rfl (lv_room (Nat.le_of_ble_eq_true rfl)) dX0_isExempt_6 ⟨(Nat.le_of_ble_eq_true rfl), (Nat.le_of_ble_eq_true rfl)⟩) hK hP hD hS hA hno9 hlocks (Nat.le_of_ble_eq_true rfl) (Nat.le_of_ble_eq_true rfl) (fun E h => ⟨h.1, by rw [hw2, h.2]; rfl⟩) (fun u H locs hw6 hP hS => ?_)
  have hw6 : p_in t 8 = true := hw6
  refine lv_aload_n hx hb dX0_isExempt_9 rfl (lv_at hl 0 rfl) ?_
  refine lv_iload_n hx hb dX0_isExempt_10 rfl (lv_at hl 1 rfl) ?_
  refine lv_iload_n hx hb dX0_isExempt_11 rfl (lv_at hl 2 rfl) ?_
  refine w_in_i (va_runV (As := [.int (nI j), .int t]) (rest := []) ⟨hx, hb, hml, hown, hts⟩ (c_X0_exempts l G cI cZ h a F nq no np sh nw H.size j t (by omega)) (cwV 2 hts gX0_isExempt_X0_exempts rfl rfl rfl (by decide +kernel) ⟨(Nat.le_of_ble_eq_true rfl), (Nat.le_of_ble_eq_true rfl)⟩) ⟨wPre_blind, va_recv hK hP (ci := 0) (q0 := 0) rfl rfl, w_pre hK hP hD⟩ rfl rfl hl.1 rfl (lv_room (Nat.le_of_ble_eq_true rfl)) dX0_isExempt_12 ⟨(Nat.le_of_ble_eq_true rfl), (Nat.le_of_ble_eq_true rfl)⟩) hD hS hA (fun r12 u12 H locs hw12 hP hD hS => ?_)
  have hP : va_P G vwCl (Dk cI cZ h a F nq no np sh nw) H := hP
  have hD : va_D A (Dk cI cZ h a F nq no np sh nw) := hD
  have hw12 : r12 = b2i (p_ex F j t) := hw12
  subst hw12
  refine vx_ret ?_
  exact w_zret () hx hb hr hlocks hK hP hD hS (Nat.le_of_ble_eq_true rfl) (Nat.le_of_ble_eq_true rfl) dX0_isExempt_15 (b2i_n _) (show k1 (p_in (nI j) no && p_in t 8) = 0 ∧ (b2i (p_ex F j t)) = b2i (p_ex F (nI j).toNatClampNeg t) from by exact ⟨by rw [hw2, hw6]; rfl, by simp only [nI_clamp (show j < 2 ^ 31 by omega)]⟩)
set_option maxHeartbeats 4000000 in
set_option maxRecDepth 100000 in
theorem cx_X0_tradeOf (l : Launch) (hfl : l.flags = flags0) (G : va_G) (cI cZ : ClassId) (h : Nat) (a : Nat → Nat) (F : Nat → Nat → Int32) (nq no np : Nat) (sh nw : Int32) (sz : Nat) (x : Int32) (hnp : np ≤ 20) : vx_Met l yX0_tradeOf wsX0_tradeOf ({ frames := 7, cells := 1, slots := 6, locals := 103 } : Room) (va_Pc [.ref h, .int x] (wPreX G (ty2 cI cZ) (Dk cI cZ h a F nq no np sh nw) sz)) (va_Qi (fun (r : Int32) (_ : Unit) => k1 (p_in x np) = 0 ∧ r = F 6 x.toNatClampNeg) (fun _ => wP G (ty2 cI cZ) (Dk cI cZ h a F nq no np sh nw) (va_A (Dk cI cZ h a F nq no np sh nw) sz)) (va_A (Dk cI cZ h a F nq no np sh nw) sz)) (wXC (fun E : String => E = "java/lang/IndexOutOfBoundsException" ∧ k1 (p_in x np) = 1) G (ty2 cI cZ) (Dk cI cZ h a F nq no np sh nw) (va_A (Dk cI cZ h a F nq no np sh nw) sz)) 1 6 (va_A (Dk cI cZ h a F nq no np sh nw) sz) := by
  refine w_metX (cc := cX0_tradeOf) (maxL := 2) (ret := (some .int)) (by decide) rfl (Nat.le_of_ble_eq_true rfl) ?_
  intro pg e s m below meth cd hx hb hml hr hts hown hlocks hnm hno9 hZ hK hsz hP hD hA hS ls hl
  have hown : s.vm.findClass RX0 = some m.cls := hown
  have hin : ∀ w ∈ wsX00, w ∈ wsX0_tradeOf := by decide +kernel
  have hl : lv_has ls 2 [(0, .ref h), (1, .int x)] := hl
  generalize hAe : va_A (Dk cI cZ h a F nq no np sh nw) sz = A at hD hA hS hZ ⊢
  refine lv_aload_n hx hb dX0_tradeOf_0 rfl (lv_at hl 0 rfl) ?_
  refine lv_iload_n hx hb dX0_tradeOf_1 rfl (lv_at hl 1 rfl) ?_
  refine w_prop_v (vx_runV (As := [.int x]) (rest := []) ⟨hx, hb, hml, hown, hts⟩ (cx_X0_requirePerson l hfl G cI cZ h a F nq no np sh nw s.heap.size x (by omega)) (cwV 1 hts gX0_tradeOf_X0_requirePerson rfl rfl rfl (by decide +kernel) ⟨(Nat.le_of_ble_eq_true rfl), (Nat.le_of_ble_eq_true rfl)⟩) ⟨wPreX_blind, va_recv hK hP (ci := 0) (q0 := 0) rfl rfl, w_preX hK hP hD (w_free hD hS hA) hS hZ⟩ rfl rfl hl.1 rfl (lv_room (Nat.le_of_ble_eq_true rfl)) dX0_tradeOf_2 ⟨(Nat.le_of_ble_eq_true rfl), (Nat.le_of_ble_eq_true rfl)⟩) hK hD hS hA hno9 hlocks (Nat.le_of_ble_eq_true rfl) (Nat.le_of_ble_eq_true rfl) (fun E h => ⟨h.1, by rw [h.2]; rfl⟩) (fun u H locs hw2 hP hD hS => ?_)
  have hw2 : p_in x np = true := hw2
  have hP : va_P G vwCl (Dk cI cZ h a F nq no np sh nw) H := hP
  have hD : va_D A (Dk cI cZ h a F nq no np sh nw) := hD
  obtain ⟨j, hj, rfl⟩ := pin_of hw2
  refine lv_aload_n hx hb dX0_tradeOf_5 rfl (lv_at hl 0 rfl) ?_
  refine va_get (ci := 0) (v := .ref (a 6)) (C := RX0) (T := TX0) (N := 16) hx hb hts hin hown hK hP 0 rfl rfl 6 (by decide) (hts (.fieldLink RX0 29 "CurfewDesk" "personTrade" "[I") (by decide +kernel)) (fun _ h9 => h9) rfl dX0_tradeOf_6 ?_
  refine lv_iload_n hx hb dX0_tradeOf_9 rfl (lv_at hl 1 rfl) ?_
  refine w_iald hx hb hK hP 7 0 rfl rfl (f := (F 6)) (j := j) (by omega) (by omega) dX0_tradeOf_10 ?_
  refine vx_ret ?_
  exact w_iret () hx hb hr hlocks hK hP hD hS (Nat.le_of_ble_eq_true rfl) (Nat.le_of_ble_eq_true rfl) dX0_tradeOf_11 (show k1 (p_in (nI j) np) = 0 ∧ ((F 6) j) = F 6 (nI j).toNatClampNeg from by exact ⟨by rw [hw2]; rfl, by simp only [nI_clamp (show j < 2 ^ 31 by omega)]⟩)
set_option maxHeartbeats 4000000 in
set_option maxRecDepth 100000 in
theorem cx_X0_owes (l : Launch) (hfl : l.flags = flags0) (G : va_G) (cI cZ : ClassId) (h : Nat) (a : Nat → Nat) (F : Nat → Nat → Int32) (nq no np : Nat) (sh nw : Int32) (sz : Nat) (x : Int32) (hnp : np ≤ 20) : vx_Met l yX0_owes wsX0_owes ({ frames := 7, cells := 1, slots := 6, locals := 103 } : Room) (va_Pc [.ref h, .int x] (wPreX G (ty2 cI cZ) (Dk cI cZ h a F nq no np sh nw) sz)) (va_Qi (fun (r : Int32) (_ : Unit) => k1 (p_in x np) = 0 ∧ r = F 8 x.toNatClampNeg) (fun _ => wP G (ty2 cI cZ) (Dk cI cZ h a F nq no np sh nw) (va_A (Dk cI cZ h a F nq no np sh nw) sz)) (va_A (Dk cI cZ h a F nq no np sh nw) sz)) (wXC (fun E : String => E = "java/lang/IndexOutOfBoundsException" ∧ k1 (p_in x np) = 1) G (ty2 cI cZ) (Dk cI cZ h a F nq no np sh nw) (va_A (Dk cI cZ h a F nq no np sh nw) sz)) 1 6 (va_A (Dk cI cZ h a F nq no np sh nw) sz) := by
  refine w_metX (cc := cX0_owes) (maxL := 2) (ret := (some .int)) (by decide) rfl (Nat.le_of_ble_eq_true rfl) ?_
  intro pg e s m below meth cd hx hb hml hr hts hown hlocks hnm hno9 hZ hK hsz hP hD hA hS ls hl
  have hown : s.vm.findClass RX0 = some m.cls := hown
  have hin : ∀ w ∈ wsX00, w ∈ wsX0_owes := by decide +kernel
  have hl : lv_has ls 2 [(0, .ref h), (1, .int x)] := hl
  generalize hAe : va_A (Dk cI cZ h a F nq no np sh nw) sz = A at hD hA hS hZ ⊢
  refine lv_aload_n hx hb dX0_owes_0 rfl (lv_at hl 0 rfl) ?_
  refine lv_iload_n hx hb dX0_owes_1 rfl (lv_at hl 1 rfl) ?_
  refine w_prop_v (vx_runV (As := [.int x]) (rest := []) ⟨hx, hb, hml, hown, hts⟩ (cx_X0_requirePerson l hfl G cI cZ h a F nq no np sh nw s.heap.size x (by omega)) (cwV 1 hts gX0_owes_X0_requirePerson rfl rfl rfl (by decide +kernel) ⟨(Nat.le_of_ble_eq_true rfl), (Nat.le_of_ble_eq_true rfl)⟩) ⟨wPreX_blind, va_recv hK hP (ci := 0) (q0 := 0) rfl rfl, w_preX hK hP hD (w_free hD hS hA) hS hZ⟩ rfl rfl hl.1 rfl (lv_room (Nat.le_of_ble_eq_true rfl)) dX0_owes_2 ⟨(Nat.le_of_ble_eq_true rfl), (Nat.le_of_ble_eq_true rfl)⟩) hK hD hS hA hno9 hlocks (Nat.le_of_ble_eq_true rfl) (Nat.le_of_ble_eq_true rfl) (fun E h => ⟨h.1, by rw [h.2]; rfl⟩) (fun u H locs hw2 hP hD hS => ?_)
  have hw2 : p_in x np = true := hw2
  have hP : va_P G vwCl (Dk cI cZ h a F nq no np sh nw) H := hP
  have hD : va_D A (Dk cI cZ h a F nq no np sh nw) := hD
  obtain ⟨j, hj, rfl⟩ := pin_of hw2
  refine lv_aload_n hx hb dX0_owes_5 rfl (lv_at hl 0 rfl) ?_
  refine va_get (ci := 0) (v := .ref (a 8)) (C := RX0) (T := TX0) (N := 16) hx hb hts hin hown hK hP 0 rfl rfl 8 (by decide) (hts (.fieldLink RX0 35 "CurfewDesk" "personOwes" "[I") (by decide +kernel)) (fun _ h9 => h9) rfl dX0_owes_6 ?_
  refine lv_iload_n hx hb dX0_owes_9 rfl (lv_at hl 1 rfl) ?_
  refine w_iald hx hb hK hP 9 0 rfl rfl (f := (F 8)) (j := j) (by omega) (by omega) dX0_owes_10 ?_
  refine vx_ret ?_
  exact w_iret () hx hb hr hlocks hK hP hD hS (Nat.le_of_ble_eq_true rfl) (Nat.le_of_ble_eq_true rfl) dX0_owes_11 (show k1 (p_in (nI j) np) = 0 ∧ ((F 8) j) = F 8 (nI j).toNatClampNeg from by exact ⟨by rw [hw2]; rfl, by simp only [nI_clamp (show j < 2 ^ 31 by omega)]⟩)
set_option maxHeartbeats 4000000 in
set_option maxRecDepth 100000 in
theorem cx_X0_timesFined (l : Launch) (hfl : l.flags = flags0) (G : va_G) (cI cZ : ClassId) (h : Nat) (a : Nat → Nat) (F : Nat → Nat → Int32) (nq no np : Nat) (sh nw : Int32) (sz : Nat) (x : Int32) (hnp : np ≤ 20) : vx_Met l yX0_timesFined wsX0_timesFined ({ frames := 7, cells := 1, slots := 6, locals := 103 } : Room) (va_Pc [.ref h, .int x] (wPreX G (ty2 cI cZ) (Dk cI cZ h a F nq no np sh nw) sz)) (va_Qi (fun (r : Int32) (_ : Unit) => k1 (p_in x np) = 0 ∧ r = F 7 x.toNatClampNeg) (fun _ => wP G (ty2 cI cZ) (Dk cI cZ h a F nq no np sh nw) (va_A (Dk cI cZ h a F nq no np sh nw) sz)) (va_A (Dk cI cZ h a F nq no np sh nw) sz)) (wXC (fun E : String => E = "java/lang/IndexOutOfBoundsException" ∧ k1 (p_in x np) = 1) G (ty2 cI cZ) (Dk cI cZ h a F nq no np sh nw) (va_A (Dk cI cZ h a F nq no np sh nw) sz)) 1 6 (va_A (Dk cI cZ h a F nq no np sh nw) sz) := by
  refine w_metX (cc := cX0_timesFined) (maxL := 2) (ret := (some .int)) (by decide) rfl (Nat.le_of_ble_eq_true rfl) ?_
  intro pg e s m below meth cd hx hb hml hr hts hown hlocks hnm hno9 hZ hK hsz hP hD hA hS ls hl
  have hown : s.vm.findClass RX0 = some m.cls := hown
  have hin : ∀ w ∈ wsX00, w ∈ wsX0_timesFined := by decide +kernel
  have hl : lv_has ls 2 [(0, .ref h), (1, .int x)] := hl
  generalize hAe : va_A (Dk cI cZ h a F nq no np sh nw) sz = A at hD hA hS hZ ⊢
  refine lv_aload_n hx hb dX0_timesFined_0 rfl (lv_at hl 0 rfl) ?_
  refine lv_iload_n hx hb dX0_timesFined_1 rfl (lv_at hl 1 rfl) ?_
  refine w_prop_v (vx_runV (As := [.int x]) (rest := []) ⟨hx, hb, hml, hown, hts⟩ (cx_X0_requirePerson l hfl G cI cZ h a F nq no np sh nw s.heap.size x (by omega)) (cwV 1 hts gX0_timesFined_X0_requirePerson rfl rfl rfl (by decide +kernel) ⟨(Nat.le_of_ble_eq_true rfl), (Nat.le_of_ble_eq_true rfl)⟩) ⟨wPreX_blind, va_recv hK hP (ci := 0) (q0 := 0) rfl rfl, w_preX hK hP hD (w_free hD hS hA) hS hZ⟩ rfl rfl hl.1 rfl (lv_room (Nat.le_of_ble_eq_true rfl)) dX0_timesFined_2 ⟨(Nat.le_of_ble_eq_true rfl), (Nat.le_of_ble_eq_true rfl)⟩) hK hD hS hA hno9 hlocks (Nat.le_of_ble_eq_true rfl) (Nat.le_of_ble_eq_true rfl) (fun E h => ⟨h.1, by rw [h.2]; rfl⟩) (fun u H locs hw2 hP hD hS => ?_)
  have hw2 : p_in x np = true := hw2
  have hP : va_P G vwCl (Dk cI cZ h a F nq no np sh nw) H := hP
  have hD : va_D A (Dk cI cZ h a F nq no np sh nw) := hD
  obtain ⟨j, hj, rfl⟩ := pin_of hw2
  refine lv_aload_n hx hb dX0_timesFined_5 rfl (lv_at hl 0 rfl) ?_
  refine va_get (ci := 0) (v := .ref (a 7)) (C := RX0) (T := TX0) (N := 16) hx hb hts hin hown hK hP 0 rfl rfl 7 (by decide) (hts (.fieldLink RX0 32 "CurfewDesk" "personFined" "[I") (by decide +kernel)) (fun _ h9 => h9) rfl dX0_timesFined_6 ?_
  refine lv_iload_n hx hb dX0_timesFined_9 rfl (lv_at hl 1 rfl) ?_
  refine w_iald hx hb hK hP 8 0 rfl rfl (f := (F 7)) (j := j) (by omega) (by omega) dX0_timesFined_10 ?_
  refine vx_ret ?_
  exact w_iret () hx hb hr hlocks hK hP hD hS (Nat.le_of_ble_eq_true rfl) (Nat.le_of_ble_eq_true rfl) dX0_timesFined_11 (show k1 (p_in (nI j) np) = 0 ∧ ((F 7) j) = F 7 (nI j).toNatClampNeg from by exact ⟨by rw [hw2]; rfl, by simp only [nI_clamp (show j < 2 ^ 31 by omega)]⟩)
set_option maxHeartbeats 4000000 in
set_option maxRecDepth 100000 in
theorem cx_X0_stampsOf (l : Launch) (hfl : l.flags = flags0) (G : va_G) (cI cZ : ClassId) (h : Nat) (a : Nat → Nat) (F : Nat → Nat → Int32) (nq no np : Nat) (sh nw : Int32) (sz : Nat) (x : Int32) (y : Int32) (hnp : np ≤ 20) : vx_Met l yX0_stampsOf wsX0_stampsOf ({ frames := 7, cells := 2, slots := 12, locals := 103 } : Room) (va_Pc [.ref h, .int x, .int y] (wPreX G (ty2 cI cZ) (Dk cI cZ h a F nq no np sh nw) sz)) (va_Qi (fun (r : Int32) (_ : Unit) => k1 (p_in x np && p_in y 4) = 0 ∧ r = F 9 (p_pl x y)) (fun _ => wP G (ty2 cI cZ) (Dk cI cZ h a F nq no np sh nw) (va_A (Dk cI cZ h a F nq no np sh nw) sz)) (va_A (Dk cI cZ h a F nq no np sh nw) sz)) (wXC (fun E : String => E = "java/lang/IndexOutOfBoundsException" ∧ k1 (p_in x np && p_in y 4) = 1) G (ty2 cI cZ) (Dk cI cZ h a F nq no np sh nw) (va_A (Dk cI cZ h a F nq no np sh nw) sz)) 2 12 (va_A (Dk cI cZ h a F nq no np sh nw) sz) := by
  refine w_metX (cc := cX0_stampsOf) (maxL := 3) (ret := (some .int)) (by decide) rfl (Nat.le_of_ble_eq_true rfl) ?_
  intro pg e s m below meth cd hx hb hml hr hts hown hlocks hnm hno9 hZ hK hsz hP hD hA hS ls hl
  have hown : s.vm.findClass RX0 = some m.cls := hown
  have hin : ∀ w ∈ wsX00, w ∈ wsX0_stampsOf := by decide +kernel
  have hl : lv_has ls 3 [(0, .ref h), (1, .int x), (2, .int y)] := hl
  generalize hAe : va_A (Dk cI cZ h a F nq no np sh nw) sz = A at hD hA hS hZ ⊢
  refine lv_aload_n hx hb dX0_stampsOf_0 rfl (lv_at hl 0 rfl) ?_
  refine lv_iload_n hx hb dX0_stampsOf_1 rfl (lv_at hl 1 rfl) ?_
  refine w_prop_v (vx_runV (As := [.int x]) (rest := []) ⟨hx, hb, hml, hown, hts⟩ (cx_X0_requirePerson l hfl G cI cZ h a F nq no np sh nw s.heap.size x (by omega)) (cwV 1 hts gX0_stampsOf_X0_requirePerson rfl rfl rfl (by decide +kernel) ⟨(Nat.le_of_ble_eq_true rfl), (Nat.le_of_ble_eq_true rfl)⟩) ⟨wPreX_blind, va_recv hK hP (ci := 0) (q0 := 0) rfl rfl, w_preX hK hP hD (w_free hD hS hA) hS hZ⟩ rfl rfl hl.1 rfl (lv_room (Nat.le_of_ble_eq_true rfl)) dX0_stampsOf_2 ⟨(Nat.le_of_ble_eq_true rfl), (Nat.le_of_ble_eq_true rfl)⟩) hK hD hS hA hno9 hlocks (Nat.le_of_ble_eq_true rfl) (Nat.le_of_ble_eq_true rfl) (fun E h => ⟨h.1, by rw [h.2]; rfl⟩) (fun u H locs hw2 hP hD hS => ?_)
  have hw2 : p_in x np = true := hw2
  have hP : va_P G vwCl (Dk cI cZ h a F nq no np sh nw) H := hP
  have hD : va_D A (Dk cI cZ h a F nq no np sh nw) := hD
  obtain ⟨j, hj, rfl⟩ := pin_of hw2
  refine lv_iload_n hx hb dX0_stampsOf_5 rfl (lv_at hl 2 rfl) ?_
  refine w_prop0_v (vx_runS (As := [.int y]) (rest := []) ⟨hx, hb, hml, hown, hts⟩ (cx_X0_requireColour l hfl G H.size y ) (va_cwS 1 hts gX0_stampsOf_X0_requireColour rfl rfl rfl (by decide +kernel) ⟨(Nat.le_of_ble_eq_true rfl), (Nat.le_of_ble_eq_true rfl)⟩) ⟨wPreX_blind, w_preX (hK.sub [] rfl) w_P0 w_D0 (w_free0 hS hA) hS hZ⟩ rfl rfl hl.1 rfl (lv_room (Nat.le_of_ble_eq_true rfl)) dX0_stampsOf_6 ⟨(Nat.le_of_ble_eq_true rfl), (Nat.le_of_ble_eq_true rfl)⟩) hK hP hD hS hA hno9 hlocks (Nat.le_of_ble_eq_true rfl) (Nat.le_of_ble_eq_true rfl) (fun E h => ⟨h.1, by rw [hw2, h.2]; rfl⟩) (fun u H locs hw6 hP hS => ?_)
  have hw6 : p_in y 4 = true := hw6
  obtain ⟨c, hc, rfl⟩ := pin_of hw6
  refine lv_aload_n hx hb dX0_stampsOf_9 rfl (lv_at hl 0 rfl) ?_
  refine va_get (ci := 0) (v := .ref (a 9)) (C := RX0) (T := TX0) (N := 16) hx hb hts hin hown hK hP 0 rfl rfl 9 (by decide) (hts (.fieldLink RX0 38 "CurfewDesk" "personStamps" "[I") (by decide +kernel)) (fun _ h9 => h9) rfl dX0_stampsOf_10 ?_
  refine lv_iload_n hx hb dX0_stampsOf_13 rfl (lv_at hl 1 rfl) ?_
  refine lv_iload_n hx hb dX0_stampsOf_14 rfl (lv_at hl 2 rfl) ?_
  refine w_st_i (va_runS (As := [.int (nI j), .int (nI c)]) (rest := [.ref (a 9)]) ⟨hx, hb, hml, hown, hts⟩ (c_X0_stampPlace l G H.size j c ) (va_cwS 2 hts gX0_stampsOf_X0_stampPlace rfl rfl rfl (by decide +kernel) ⟨(Nat.le_of_ble_eq_true rfl), (Nat.le_of_ble_eq_true rfl)⟩) ⟨wPre_blind, w_pre (hK.sub [] rfl) w_P0 (w_D0 (A := A))⟩ rfl rfl hl.1 rfl (lv_room (Nat.le_of_ble_eq_true rfl)) dX0_stampsOf_15 ⟨(Nat.le_of_ble_eq_true rfl), (Nat.le_of_ble_eq_true rfl)⟩) hP hS hA (fun r15 u15 H locs hw15 hP hS => ?_)
  have hw15 : r15 = nI (j * 4 + c) := hw15
  subst hw15
  refine w_iald hx hb hK hP 10 0 rfl rfl (f := (F 9)) (j := (j * 4 + c)) (by omega) (by omega) dX0_stampsOf_18 ?_
  refine vx_ret ?_
  exact w_iret () hx hb hr hlocks hK hP hD hS (Nat.le_of_ble_eq_true rfl) (Nat.le_of_ble_eq_true rfl) dX0_stampsOf_19 (show k1 (p_in (nI j) np && p_in (nI c) 4) = 0 ∧ ((F 9) (j * 4 + c)) = F 9 (p_pl (nI j) (nI c)) from by exact ⟨by rw [hw2, hw6]; rfl, by simp only [p_pl, nI_clamp (show j < 2 ^ 31 by omega), nI_clamp (show c < 2 ^ 31 by omega)]⟩)
set_option maxHeartbeats 4000000 in
set_option maxRecDepth 100000 in
theorem cx_X0_stampsUsed (l : Launch) (hfl : l.flags = flags0) (G : va_G) (cI cZ : ClassId) (h : Nat) (a : Nat → Nat) (F : Nat → Nat → Int32) (nq no np : Nat) (sh nw : Int32) (sz : Nat) (x : Int32) : vx_Met l yX0_stampsUsed wsX0_stampsUsed ({ frames := 7, cells := 1, slots := 6, locals := 102 } : Room) (va_Pc [.ref h, .int x] (wPreX G (ty2 cI cZ) (Dk cI cZ h a F nq no np sh nw) sz)) (va_Qi (fun (r : Int32) (_ : Unit) => k1 (p_in x 4) = 0 ∧ r = F 10 x.toNatClampNeg) (fun _ => wP G (ty2 cI cZ) (Dk cI cZ h a F nq no np sh nw) (va_A (Dk cI cZ h a F nq no np sh nw) sz)) (va_A (Dk cI cZ h a F nq no np sh nw) sz)) (wXC (fun E : String => E = "java/lang/IndexOutOfBoundsException" ∧ k1 (p_in x 4) = 1) G (ty2 cI cZ) (Dk cI cZ h a F nq no np sh nw) (va_A (Dk cI cZ h a F nq no np sh nw) sz)) 1 6 (va_A (Dk cI cZ h a F nq no np sh nw) sz) := by
  refine w_metX (cc := cX0_stampsUsed) (maxL := 2) (ret := (some .int)) (by decide) rfl (Nat.le_of_ble_eq_true rfl) ?_
  intro pg e s m below meth cd hx hb hml hr hts hown hlocks hnm hno9 hZ hK hsz hP hD hA hS ls hl
  have hown : s.vm.findClass RX0 = some m.cls := hown
  have hin : ∀ w ∈ wsX00, w ∈ wsX0_stampsUsed := by decide +kernel
  have hl : lv_has ls 2 [(0, .ref h), (1, .int x)] := hl
  generalize hAe : va_A (Dk cI cZ h a F nq no np sh nw) sz = A at hD hA hS hZ ⊢
  refine lv_iload_n hx hb dX0_stampsUsed_0 rfl (lv_at hl 1 rfl) ?_
  refine w_prop0_v (vx_runS (As := [.int x]) (rest := []) ⟨hx, hb, hml, hown, hts⟩ (cx_X0_requireColour l hfl G s.heap.size x ) (va_cwS 1 hts gX0_stampsUsed_X0_requireColour rfl rfl rfl (by decide +kernel) ⟨(Nat.le_of_ble_eq_true rfl), (Nat.le_of_ble_eq_true rfl)⟩) ⟨wPreX_blind, w_preX (hK.sub [] rfl) w_P0 w_D0 (w_free0 hS hA) hS hZ⟩ rfl rfl hl.1 rfl (lv_room (Nat.le_of_ble_eq_true rfl)) dX0_stampsUsed_1 ⟨(Nat.le_of_ble_eq_true rfl), (Nat.le_of_ble_eq_true rfl)⟩) hK hP hD hS hA hno9 hlocks (Nat.le_of_ble_eq_true rfl) (Nat.le_of_ble_eq_true rfl) (fun E h => ⟨h.1, by rw [h.2]; rfl⟩) (fun u H locs hw1 hP hS => ?_)
  have hw1 : p_in x 4 = true := hw1
  obtain ⟨j, hj, rfl⟩ := pin_of hw1
  refine lv_aload_n hx hb dX0_stampsUsed_4 rfl (lv_at hl 0 rfl) ?_
  refine va_get (ci := 0) (v := .ref (a 10)) (C := RX0) (T := TX0) (N := 16) hx hb hts hin hown hK hP 0 rfl rfl 10 (by decide) (hts (.fieldLink RX0 41 "CurfewDesk" "usedStamps" "[I") (by decide +kernel)) (fun _ h9 => h9) rfl dX0_stampsUsed_5 ?_
  refine lv_iload_n hx hb dX0_stampsUsed_8 rfl (lv_at hl 1 rfl) ?_
  refine w_iald hx hb hK hP 11 0 rfl rfl (f := (F 10)) (j := j) (by omega) (by omega) dX0_stampsUsed_9 ?_
  refine vx_ret ?_
  exact w_iret () hx hb hr hlocks hK hP hD hS (Nat.le_of_ble_eq_true rfl) (Nat.le_of_ble_eq_true rfl) dX0_stampsUsed_10 (show k1 (p_in (nI j) 4) = 0 ∧ ((F 10) j) = F 10 (nI j).toNatClampNeg from by exact ⟨by rw [hw1]; rfl, by simp only [nI_clamp (show j < 2 ^ 31 by omega)]⟩)
set_option maxHeartbeats 4000000 in
set_option maxRecDepth 100000 in
theorem cx_X0_duskIn (l : Launch) (hfl : l.flags = flags0) (G : va_G) (cI cZ : ClassId) (h : Nat) (a : Nat → Nat) (F : Nat → Nat → Int32) (nq no np : Nat) (sh nw : Int32) (sz : Nat) (x : Int32) : vx_Met l yX0_duskIn wsX0_duskIn ({ frames := 7, cells := 1, slots := 6, locals := 104 } : Room) (va_Pc [.ref h, .int x] (wPreX G (ty2 cI cZ) (Dk cI cZ h a F nq no np sh nw) sz)) (va_Qi (fun (r : Int32) (_ : Unit) => k1 (p_wi x 0 99) = 0 ∧ r = p_dusk (nw / 48 + x) sh) (fun _ => wP G (ty2 cI cZ) (Dk cI cZ h a F nq no np sh nw) (va_A (Dk cI cZ h a F nq no np sh nw) sz)) (va_A (Dk cI cZ h a F nq no np sh nw) sz)) (wXC (fun E : String => E = "java/lang/IllegalArgumentException" ∧ k1 (p_wi x 0 99) = 1) G (ty2 cI cZ) (Dk cI cZ h a F nq no np sh nw) (va_A (Dk cI cZ h a F nq no np sh nw) sz)) 1 6 (va_A (Dk cI cZ h a F nq no np sh nw) sz) := by
  refine w_metX (cc := cX0_duskIn) (maxL := 2) (ret := (some .int)) (by decide) rfl (Nat.le_of_ble_eq_true rfl) ?_
  intro pg e s m below meth cd hx hb hml hr hts hown hlocks hnm hno9 hZ hK hsz hP hD hA hS ls hl
  have hown : s.vm.findClass RX0 = some m.cls := hown
  have hl : lv_has ls 2 [(0, .ref h), (1, .int x)] := hl
  generalize hAe : va_A (Dk cI cZ h a F nq no np sh nw) sz = A at hD hA hS hZ ⊢
  refine lv_iload_n hx hb dX0_duskIn_0 rfl (lv_at hl 1 rfl) ?_
  refine lv_iconst (v := 0) hx hb dX0_duskIn_1 (by decide) ?_
  refine lv_bipush (v := 99) hx hb dX0_duskIn_2 (by decide) ?_
  refine w_prop0_v (vx_runS (As := [.int x, .int 0, .int 99]) (rest := []) ⟨hx, hb, hml, hown, hts⟩ (cx_X0_requireWithin l hfl G s.heap.size x 0 99 ) (va_cwS 3 hts gX0_duskIn_X0_requireWithin rfl rfl rfl (by decide +kernel) ⟨(Nat.le_of_ble_eq_true rfl), (Nat.le_of_ble_eq_true rfl)⟩) ⟨wPreX_blind, w_preX (hK.sub [] rfl) w_P0 w_D0 (w_free0 hS hA) hS hZ⟩ rfl rfl hl.1 rfl (lv_room (Nat.le_of_ble_eq_true rfl)) dX0_duskIn_4 ⟨(Nat.le_of_ble_eq_true rfl), (Nat.le_of_ble_eq_true rfl)⟩) hK hP hD hS hA hno9 hlocks (Nat.le_of_ble_eq_true rfl) (Nat.le_of_ble_eq_true rfl) (fun E h => ⟨h.1, by rw [h.2]; rfl⟩) (fun u H locs hw4 hP hS => ?_)
  have hw4 : p_wi x 0 99 = true := hw4
  refine lv_aload_n hx hb dX0_duskIn_7 rfl (lv_at hl 0 rfl) ?_
  refine lv_aload_n hx hb dX0_duskIn_8 rfl (lv_at hl 0 rfl) ?_
  refine w_in_i (va_runV (As := []) (rest := [.ref h]) ⟨hx, hb, hml, hown, hts⟩ (c_X0_day l G cI cZ h a F nq no np sh nw H.size ) (cwV 0 hts gX0_duskIn_X0_day rfl rfl rfl (by decide +kernel) ⟨(Nat.le_of_ble_eq_true rfl), (Nat.le_of_ble_eq_true rfl)⟩) ⟨wPre_blind, va_recv hK hP (ci := 0) (q0 := 0) rfl rfl, w_pre hK hP hD⟩ rfl rfl hl.1 rfl (lv_room (Nat.le_of_ble_eq_true rfl)) dX0_duskIn_9 ⟨(Nat.le_of_ble_eq_true rfl), (Nat.le_of_ble_eq_true rfl)⟩) hD hS hA (fun r9 u9 H locs hw9 hP hD hS => ?_)
  have hP : va_P G vwCl (Dk cI cZ h a F nq no np sh nw) H := hP
  have hD : va_D A (Dk cI cZ h a F nq no np sh nw) := hD
  have hw9 : r9 = nw / 48 := hw9
  subst hw9
  refine lv_iload_n hx hb dX0_duskIn_12 rfl (lv_at hl 1 rfl) ?_
  refine lv_iadd hx hb dX0_duskIn_13 ?_
  refine w_in_i (va_runV (As := [.int ((nw / 48) + x)]) (rest := []) ⟨hx, hb, hml, hown, hts⟩ (c_X0_duskOf l G cI cZ h a F nq no np sh nw H.size ((nw / 48) + x) ) (cwV 1 hts gX0_duskIn_X0_duskOf rfl rfl rfl (by decide +kernel) ⟨(Nat.le_of_ble_eq_true rfl), (Nat.le_of_ble_eq_true rfl)⟩) ⟨wPre_blind, va_recv hK hP (ci := 0) (q0 := 0) rfl rfl, w_pre hK hP hD⟩ rfl rfl hl.1 rfl (lv_room (Nat.le_of_ble_eq_true rfl)) dX0_duskIn_14 ⟨(Nat.le_of_ble_eq_true rfl), (Nat.le_of_ble_eq_true rfl)⟩) hD hS hA (fun r14 u14 H locs hw14 hP hD hS => ?_)
  have hP : va_P G vwCl (Dk cI cZ h a F nq no np sh nw) H := hP
  have hD : va_D A (Dk cI cZ h a F nq no np sh nw) := hD
  have hw14 : r14 = p_dusk ((nw / 48) + x) sh := hw14
  subst hw14
  refine vx_ret ?_
  exact w_iret () hx hb hr hlocks hK hP hD hS (Nat.le_of_ble_eq_true rfl) (Nat.le_of_ble_eq_true rfl) dX0_duskIn_17 (show k1 (p_wi x 0 99) = 0 ∧ (p_dusk ((nw / 48) + x) sh) = p_dusk (nw / 48 + x) sh from by first | exact ⟨by rw [hw4]; rfl, rfl⟩ | rfl)
set_option maxHeartbeats 4000000 in
set_option maxRecDepth 100000 in
theorem cx_X0_dawnIn (l : Launch) (hfl : l.flags = flags0) (G : va_G) (cI cZ : ClassId) (h : Nat) (a : Nat → Nat) (F : Nat → Nat → Int32) (nq no np : Nat) (sh nw : Int32) (sz : Nat) (x : Int32) : vx_Met l yX0_dawnIn wsX0_dawnIn ({ frames := 7, cells := 1, slots := 6, locals := 104 } : Room) (va_Pc [.ref h, .int x] (wPreX G (ty2 cI cZ) (Dk cI cZ h a F nq no np sh nw) sz)) (va_Qi (fun (r : Int32) (_ : Unit) => k1 (p_wi x 0 99) = 0 ∧ r = p_dawn (nw / 48 + x)) (fun _ => wP G (ty2 cI cZ) (Dk cI cZ h a F nq no np sh nw) (va_A (Dk cI cZ h a F nq no np sh nw) sz)) (va_A (Dk cI cZ h a F nq no np sh nw) sz)) (wXC (fun E : String => E = "java/lang/IllegalArgumentException" ∧ k1 (p_wi x 0 99) = 1) G (ty2 cI cZ) (Dk cI cZ h a F nq no np sh nw) (va_A (Dk cI cZ h a F nq no np sh nw) sz)) 1 6 (va_A (Dk cI cZ h a F nq no np sh nw) sz) := by
  refine w_metX (cc := cX0_dawnIn) (maxL := 2) (ret := (some .int)) (by decide) rfl (Nat.le_of_ble_eq_true rfl) ?_
  intro pg e s m below meth cd hx hb hml hr hts hown hlocks hnm hno9 hZ hK hsz hP hD hA hS ls hl
  have hown : s.vm.findClass RX0 = some m.cls := hown
  have hl : lv_has ls 2 [(0, .ref h), (1, .int x)] := hl
  generalize hAe : va_A (Dk cI cZ h a F nq no np sh nw) sz = A at hD hA hS hZ ⊢
  refine lv_iload_n hx hb dX0_dawnIn_0 rfl (lv_at hl 1 rfl) ?_
  refine lv_iconst (v := 0) hx hb dX0_dawnIn_1 (by decide) ?_
  refine lv_bipush (v := 99) hx hb dX0_dawnIn_2 (by decide) ?_
  refine w_prop0_v (vx_runS (As := [.int x, .int 0, .int 99]) (rest := []) ⟨hx, hb, hml, hown, hts⟩ (cx_X0_requireWithin l hfl G s.heap.size x 0 99 ) (va_cwS 3 hts gX0_dawnIn_X0_requireWithin rfl rfl rfl (by decide +kernel) ⟨(Nat.le_of_ble_eq_true rfl), (Nat.le_of_ble_eq_true rfl)⟩) ⟨wPreX_blind, w_preX (hK.sub [] rfl) w_P0 w_D0 (w_free0 hS hA) hS hZ⟩ rfl rfl hl.1 rfl (lv_room (Nat.le_of_ble_eq_true rfl)) dX0_dawnIn_4 ⟨(Nat.le_of_ble_eq_true rfl), (Nat.le_of_ble_eq_true rfl)⟩) hK hP hD hS hA hno9 hlocks (Nat.le_of_ble_eq_true rfl) (Nat.le_of_ble_eq_true rfl) (fun E h => ⟨h.1, by rw [h.2]; rfl⟩) (fun u H locs hw4 hP hS => ?_)
  have hw4 : p_wi x 0 99 = true := hw4
  refine lv_aload_n hx hb dX0_dawnIn_7 rfl (lv_at hl 0 rfl) ?_
  refine w_in_i (va_runV (As := []) (rest := []) ⟨hx, hb, hml, hown, hts⟩ (c_X0_day l G cI cZ h a F nq no np sh nw H.size ) (cwV 0 hts gX0_dawnIn_X0_day rfl rfl rfl (by decide +kernel) ⟨(Nat.le_of_ble_eq_true rfl), (Nat.le_of_ble_eq_true rfl)⟩) ⟨wPre_blind, va_recv hK hP (ci := 0) (q0 := 0) rfl rfl, w_pre hK hP hD⟩ rfl rfl hl.1 rfl (lv_room (Nat.le_of_ble_eq_true rfl)) dX0_dawnIn_8 ⟨(Nat.le_of_ble_eq_true rfl), (Nat.le_of_ble_eq_true rfl)⟩) hD hS hA (fun r8 u8 H locs hw8 hP hD hS => ?_)
  have hP : va_P G vwCl (Dk cI cZ h a F nq no np sh nw) H := hP
  have hD : va_D A (Dk cI cZ h a F nq no np sh nw) := hD
  have hw8 : r8 = nw / 48 := hw8
  subst hw8
  refine lv_iload_n hx hb dX0_dawnIn_11 rfl (lv_at hl 1 rfl) ?_
  refine lv_iadd hx hb dX0_dawnIn_12 ?_
  refine w_st_i (va_runS (As := [.int ((nw / 48) + x)]) (rest := []) ⟨hx, hb, hml, hown, hts⟩ (c_X0_dawnOf l G H.size ((nw / 48) + x) ) (va_cwS 1 hts gX0_dawnIn_X0_dawnOf rfl rfl rfl (by decide +kernel) ⟨(Nat.le_of_ble_eq_true rfl), (Nat.le_of_ble_eq_true rfl)⟩) ⟨wPre_blind, w_pre (hK.sub [] rfl) w_P0 (w_D0 (A := A))⟩ rfl rfl hl.1 rfl (lv_room (Nat.le_of_ble_eq_true rfl)) dX0_dawnIn_13 ⟨(Nat.le_of_ble_eq_true rfl), (Nat.le_of_ble_eq_true rfl)⟩) hP hS hA (fun r13 u13 H locs hw13 hP hS => ?_)
  have hw13 : r13 = p_dawn ((nw / 48) + x) := hw13
  subst hw13
  refine vx_ret ?_
  exact w_iret () hx hb hr hlocks hK hP hD hS (Nat.le_of_ble_eq_true rfl) (Nat.le_of_ble_eq_true rfl) dX0_dawnIn_16 (show k1 (p_wi x 0 99) = 0 ∧ (p_dawn ((nw / 48) + x)) = p_dawn (nw / 48 + x) from by first | exact ⟨by rw [hw4]; rfl, rfl⟩ | rfl)
set_option maxHeartbeats 4000000 in
set_option maxRecDepth 100000 in
theorem cx_X0_setShift (l : Launch) (hfl : l.flags = flags0) (G : va_G) (cI cZ : ClassId) (h : Nat) (a : Nat → Nat) (F : Nat → Nat → Int32) (nq no np : Nat) (sh nw : Int32) (sz : Nat) (x : Int32) : vx_Met l yX0_setShift wsX0_setShift ({ frames := 7, cells := 1, slots := 6, locals := 104 } : Room) (va_Pc [.ref h, .int x] (wPreX G (ty2 cI cZ) (Dk cI cZ h a F nq no np sh nw) sz)) (va_Qi (fun (r : Int32) (_ : Unit) => k1 (p_wi x (-4) 4) = 0 ∧ r = sh) (fun _ => wP G (ty2 cI cZ) (Dk cI cZ h a F nq no np x nw) (va_A (Dk cI cZ h a F nq no np sh nw) sz)) (va_A (Dk cI cZ h a F nq no np sh nw) sz)) (wXC (fun E : String => E = "java/lang/IllegalArgumentException" ∧ k1 (p_wi x (-4) 4) = 1) G (ty2 cI cZ) (Dk cI cZ h a F nq no np sh nw) (va_A (Dk cI cZ h a F nq no np sh nw) sz)) 1 6 (va_A (Dk cI cZ h a F nq no np sh nw) sz) := by
  refine w_metX (cc := cX0_setShift) (maxL := 3) (ret := (some .int)) (by decide) rfl (Nat.le_of_ble_eq_true rfl) ?_
  intro pg e s m below meth cd hx hb hml hr hts hown hlocks hnm hno9 hZ hK hsz hP hD hA hS ls hl
  have hown : s.vm.findClass RX0 = some m.cls := hown
  have hin : ∀ w ∈ wsX00, w ∈ wsX0_setShift := by decide +kernel
  have hl : lv_has ls 3 [(0, .ref h), (1, .int x)] := hl
  generalize hAe : va_A (Dk cI cZ h a F nq no np sh nw) sz = A at hD hA hS hZ ⊢
  refine lv_iload_n hx hb dX0_setShift_0 rfl (lv_at hl 1 rfl) ?_
  refine lv_bipush (v := (-4)) hx hb dX0_setShift_1 (by decide) ?_
  refine lv_iconst (v := 4) hx hb dX0_setShift_3 (by decide) ?_
  refine w_prop0_v (vx_runS (As := [.int x, .int (-4), .int 4]) (rest := []) ⟨hx, hb, hml, hown, hts⟩ (cx_X0_requireWithin l hfl G s.heap.size x (-4) 4 ) (va_cwS 3 hts gX0_setShift_X0_requireWithin rfl rfl rfl (by decide +kernel) ⟨(Nat.le_of_ble_eq_true rfl), (Nat.le_of_ble_eq_true rfl)⟩) ⟨wPreX_blind, w_preX (hK.sub [] rfl) w_P0 w_D0 (w_free0 hS hA) hS hZ⟩ rfl rfl hl.1 rfl (lv_room (Nat.le_of_ble_eq_true rfl)) dX0_setShift_4 ⟨(Nat.le_of_ble_eq_true rfl), (Nat.le_of_ble_eq_true rfl)⟩) hK hP hD hS hA hno9 hlocks (Nat.le_of_ble_eq_true rfl) (Nat.le_of_ble_eq_true rfl) (fun E h => ⟨h.1, by rw [h.2]; rfl⟩) (fun u H locs hw4 hP hS => ?_)
  have hw4 : p_wi x (-4) 4 = true := hw4
  refine lv_aload_n hx hb dX0_setShift_7 rfl (lv_at hl 0 rfl) ?_
  refine va_get (ci := 0) (v := .int sh) (C := RX0) (T := TX0) (N := 16) hx hb hts hin hown hK hP 0 rfl rfl 14 (by decide) (hts (.fieldLink RX0 86 "CurfewDesk" "duskShift" "I") (by decide +kernel)) (fun _ h9 => h9) rfl dX0_setShift_8 ?_
  refine lv_istore_n (lv' := [(2, .int sh), (0, .ref h), (1, .int x)]) hx hb dX0_setShift_11 rfl hl (by decide) rfl (fun ls hl => ?_)
  refine lv_aload_n hx hb dX0_setShift_12 rfl (lv_at hl 1 rfl) ?_
  refine lv_iload_n hx hb dX0_setShift_13 rfl (lv_at hl 2 rfl) ?_
  refine va_put (ci := 0) (v := .int x) (ty := .int) (C := RX0) (T := TX0) (N := 16) hx hb hts hin tyX0 tyX0_ok nmX0 hown hK hP hD hS 0 rfl rfl 14 (by decide) (hts (.fieldLink RX0 86 "CurfewDesk" "duskShift" "I") (by decide +kernel)) (fun _ h9 => h9) rfl (by decide +kernel) rfl rfl (Nat.le_of_ble_eq_true rfl) dX0_setShift_14 (fun H locs hP hD hS => ?_)
  have hP : va_P G vwCl (Dk cI cZ h a F nq no np x nw) H := hP
  have hD : va_D A (Dk cI cZ h a F nq no np x nw) := hD
  refine lv_iload_n hx hb dX0_setShift_17 rfl (lv_at hl 0 rfl) ?_
  refine vx_ret ?_
  exact w_iret () hx hb hr hlocks hK hP hD hS (Nat.le_of_ble_eq_true rfl) (Nat.le_of_ble_eq_true rfl) dX0_setShift_18 (show k1 (p_wi x (-4) 4) = 0 ∧ sh = sh from by exact ⟨by rw [hw4]; rfl, rfl⟩)
set_option maxHeartbeats 4000000 in
set_option maxRecDepth 100000 in
theorem cx_X0_turnExempt (l : Launch) (hfl : l.flags = flags0) (G : va_G) (cI cZ : ClassId) (h : Nat) (a : Nat → Nat) (F : Nat → Nat → Int32) (nq no np : Nat) (sh nw : Int32) (sz : Nat) (x : Int32) (t : Int32) (hno : no ≤ 10) : vx_Met l yX0_turnExempt wsX0_turnExempt ({ frames := 7, cells := 2, slots := 12, locals := 103 } : Room) (va_Pc [.ref h, .int x, .int t] (wPreX G (ty2 cI cZ) (Dk cI cZ h a F nq no np sh nw) sz)) (va_Qi (fun (r : Int32) (_ : Unit) => k1 (p_in x no && p_in t 8) = 0 ∧ r = b2i (p_ex (n_ex F x.toNatClampNeg t) x.toNatClampNeg t)) (fun _ => wP G (ty2 cI cZ) (Dk cI cZ h a (n_ex F x.toNatClampNeg t) nq no np sh nw) (va_A (Dk cI cZ h a F nq no np sh nw) sz)) (va_A (Dk cI cZ h a F nq no np sh nw) sz)) (wXC (fun E : String => E = "java/lang/IndexOutOfBoundsException" ∧ k1 (p_in x no && p_in t 8) = 1) G (ty2 cI cZ) (Dk cI cZ h a F nq no np sh nw) (va_A (Dk cI cZ h a F nq no np sh nw) sz)) 2 12 (va_A (Dk cI cZ h a F nq no np sh nw) sz) := by
  refine w_metX (cc := cX0_turnExempt) (maxL := 3) (ret := (some .boolean)) (by decide) rfl (Nat.le_of_ble_eq_true rfl) ?_
  intro pg e s m below meth cd hx hb hml hr hts hown hlocks hnm hno9 hZ hK hsz hP hD hA hS ls hl
  have hown : s.vm.findClass RX0 = some m.cls := hown
  have hin : ∀ w ∈ wsX00, w ∈ wsX0_turnExempt := by decide +kernel
  have hl : lv_has ls 3 [(0, .ref h), (1, .int x), (2, .int t)] := hl
  generalize hAe : va_A (Dk cI cZ h a F nq no np sh nw) sz = A at hD hA hS hZ ⊢
  refine lv_aload_n hx hb dX0_turnExempt_0 rfl (lv_at hl 0 rfl) ?_
  refine lv_iload_n hx hb dX0_turnExempt_1 rfl (lv_at hl 1 rfl) ?_
  refine w_prop_v (vx_runV (As := [.int x]) (rest := []) ⟨hx, hb, hml, hown, hts⟩ (cx_X0_requireOrder l hfl G cI cZ h a F nq no np sh nw s.heap.size x (by omega)) (cwV 1 hts gX0_turnExempt_X0_requireOrder rfl rfl rfl (by decide +kernel) ⟨(Nat.le_of_ble_eq_true rfl), (Nat.le_of_ble_eq_true rfl)⟩) ⟨wPreX_blind, va_recv hK hP (ci := 0) (q0 := 0) rfl rfl, w_preX hK hP hD (w_free hD hS hA) hS hZ⟩ rfl rfl hl.1 rfl (lv_room (Nat.le_of_ble_eq_true rfl)) dX0_turnExempt_2 ⟨(Nat.le_of_ble_eq_true rfl), (Nat.le_of_ble_eq_true rfl)⟩) hK hD hS hA hno9 hlocks (Nat.le_of_ble_eq_true rfl) (Nat.le_of_ble_eq_true rfl) (fun E h => ⟨h.1, by rw [h.2]; rfl⟩) (fun u H locs hw2 hP hD hS => ?_)
  have hw2 : p_in x no = true := hw2
  have hP : va_P G vwCl (Dk cI cZ h a F nq no np sh nw) H := hP
  have hD : va_D A (Dk cI cZ h a F nq no np sh nw) := hD
  obtain ⟨j, hj, rfl⟩ := pin_of hw2
  refine lv_iload_n hx hb dX0_turnExempt_5 rfl (lv_at hl 2 rfl) ?_
  refine w_prop0_v (vx_runS (As := [.int t]) (rest := []) ⟨hx, hb, hml, hown, hts⟩ (cx_X0_requireTrade l hfl G H.size t ) (va_cwS 1 hts gX0_turnExempt_X0_requireTrade rfl rfl rfl (by decide +kernel) ⟨(Nat.le_of_ble_eq_true rfl), (Nat.le_of_ble_eq_true rfl)⟩) ⟨wPreX_blind, w_preX (hK.sub [] rfl) w_P0 w_D0 (w_free0 hS hA) hS hZ⟩ rfl rfl hl.1 rfl (lv_room (Nat.le_of_ble_eq_true rfl)) dX0_turnExempt_6 ⟨(Nat.le_of_ble_eq_true rfl), (Nat.le_of_ble_eq_true rfl)⟩) hK hP hD hS hA hno9 hlocks (Nat.le_of_ble_eq_true rfl) (Nat.le_of_ble_eq_true rfl) (fun E h => ⟨h.1, by rw [hw2, h.2]; rfl⟩) (fun u H locs hw6 hP hS => ?_)
  have hw6 : p_in t 8 = true := hw6
  refine lv_aload_n hx hb dX0_turnExempt_9 rfl (lv_at hl 0 rfl) ?_
  refine va_get (ci := 0) (v := .ref (a 5)) (C := RX0) (T := TX0) (N := 16) hx hb hts hin hown hK hP 0 rfl rfl 5 (by decide) (hts (.fieldLink RX0 26 "CurfewDesk" "orderExempt" "[I") (by decide +kernel)) (fun _ h9 => h9) rfl dX0_turnExempt_10 ?_
  refine lv_iload_n hx hb dX0_turnExempt_13 rfl (lv_at hl 1 rfl) ?_
  refine lv_dup2_11 hx hb dX0_turnExempt_14 rfl rfl ?_
  refine w_iald hx hb hK hP 6 0 rfl rfl (f := (F 5)) (j := j) (by omega) (by omega) dX0_turnExempt_15 ?_
  refine lv_iconst (v := 1) hx hb dX0_turnExempt_16 (by decide) ?_
  refine lv_iload_n hx hb dX0_turnExempt_17 rfl (lv_at hl 2 rfl) ?_
  refine lv_ishl hx hb dX0_turnExempt_18 ?_
  refine lv_ixor hx hb dX0_turnExempt_19 ?_
  refine w_iast hx hb hK hP hD hS 6 0 rfl rfl (f := (F 5)) (j := j) (by omega) (by omega) dX0_turnExempt_20 (fun H locs hP hD hS => ?_)
  have hP : va_P G vwCl (Dk cI cZ h a (va_up F 5 (upd (F 5) j (((F 5) j) ^^^ (1 <<< (t &&& 31))))) nq no np sh nw) H := hP
  have hD : va_D A (Dk cI cZ h a (va_up F 5 (upd (F 5) j (((F 5) j) ^^^ (1 <<< (t &&& 31))))) nq no np sh nw) := hD
  refine lv_aload_n hx hb dX0_turnExempt_21 rfl (lv_at hl 0 rfl) ?_
  refine lv_iload_n hx hb dX0_turnExempt_22 rfl (lv_at hl 1 rfl) ?_
  refine lv_iload_n hx hb dX0_turnExempt_23 rfl (lv_at hl 2 rfl) ?_
  refine w_in_i (va_runV (As := [.int (nI j), .int t]) (rest := []) ⟨hx, hb, hml, hown, hts⟩ (c_X0_exempts l G cI cZ h a (va_up F 5 (upd (F 5) j (((F 5) j) ^^^ (1 <<< (t &&& 31))))) nq no np sh nw H.size j t (by omega)) (cwV 2 hts gX0_turnExempt_X0_exempts rfl rfl rfl (by decide +kernel) ⟨(Nat.le_of_ble_eq_true rfl), (Nat.le_of_ble_eq_true rfl)⟩) ⟨wPre_blind, va_recv hK hP (ci := 0) (q0 := 0) rfl rfl, w_pre hK hP hD⟩ rfl rfl hl.1 rfl (lv_room (Nat.le_of_ble_eq_true rfl)) dX0_turnExempt_24 ⟨(Nat.le_of_ble_eq_true rfl), (Nat.le_of_ble_eq_true rfl)⟩) hD hS hA (fun r24 u24 H locs hw24 hP hD hS => ?_)
  have hP : va_P G vwCl (Dk cI cZ h a (va_up F 5 (upd (F 5) j (((F 5) j) ^^^ (1 <<< (t &&& 31))))) nq no np sh nw) H := hP
  have hD : va_D A (Dk cI cZ h a (va_up F 5 (upd (F 5) j (((F 5) j) ^^^ (1 <<< (t &&& 31))))) nq no np sh nw) := hD
  have hw24 : r24 = b2i (p_ex (va_up F 5 (upd (F 5) j (((F 5) j) ^^^ (1 <<< (t &&& 31))))) j t) := hw24
  subst hw24
  have hP : va_P G vwCl (Dk cI cZ h a (n_ex F (nI j).toNatClampNeg t) nq no np sh nw) H := by (rw [nI_clamp (show j < 2 ^ 31 by omega)]); exact hP
  have hD : va_D A (Dk cI cZ h a (n_ex F (nI j).toNatClampNeg t) nq no np sh nw) := by (rw [nI_clamp (show j < 2 ^ 31 by omega)]); exact hD
  refine vx_ret ?_
  exact w_zret () hx hb hr hlocks hK hP hD hS (Nat.le_of_ble_eq_true rfl) (Nat.le_of_ble_eq_true rfl) dX0_turnExempt_27 (b2i_n _) (show k1 (p_in (nI j) no && p_in t 8) = 0 ∧ (b2i (p_ex (va_up F 5 (upd (F 5) j (((F 5) j) ^^^ (1 <<< (t &&& 31))))) j t)) = b2i (p_ex (n_ex F (nI j).toNatClampNeg t) (nI j).toNatClampNeg t) from by exact ⟨by rw [hw2, hw6]; rfl, by simp only [nI_clamp (show j < 2 ^ 31 by omega)]; rfl⟩)
set_option maxHeartbeats 4000000 in
set_option maxRecDepth 100000 in
theorem cx_X0_turnOrder (l : Launch) (hfl : l.flags = flags0) (G : va_G) (cI cZ : ClassId) (h : Nat) (a : Nat → Nat) (F : Nat → Nat → Int32) (nq no np : Nat) (sh nw : Int32) (sz : Nat) (x : Int32) (hno : no ≤ 10) : vx_Met l yX0_turnOrder wsX0_turnOrder ({ frames := 7, cells := 1, slots := 6, locals := 103 } : Room) (va_Pc [.ref h, .int x] (wPreX G (ty2 cI cZ) (Dk cI cZ h a F nq no np sh nw) sz)) (va_Qi (fun (r : Int32) (_ : Unit) => k1 (p_in x no) = 0 ∧ r = b2i (decide (F 4 x.toNatClampNeg = 0))) (fun _ => wP G (ty2 cI cZ) (Dk cI cZ h a (n_fo F x.toNatClampNeg) nq no np sh nw) (va_A (Dk cI cZ h a F nq no np sh nw) sz)) (va_A (Dk cI cZ h a F nq no np sh nw) sz)) (wXC (fun E : String => E = "java/lang/IndexOutOfBoundsException" ∧ k1 (p_in x no) = 1) G (ty2 cI cZ) (Dk cI cZ h a F nq no np sh nw) (va_A (Dk cI cZ h a F nq no np sh nw) sz)) 1 6 (va_A (Dk cI cZ h a F nq no np sh nw) sz) := by
  refine w_metX (cc := cX0_turnOrder) (maxL := 2) (ret := (some .boolean)) (by decide) rfl (Nat.le_of_ble_eq_true rfl) ?_
  intro pg e s m below meth cd hx hb hml hr hts hown hlocks hnm hno9 hZ hK hsz hP hD hA hS ls hl
  have hown : s.vm.findClass RX0 = some m.cls := hown
  have hin : ∀ w ∈ wsX00, w ∈ wsX0_turnOrder := by decide +kernel
  have hl : lv_has ls 2 [(0, .ref h), (1, .int x)] := hl
  generalize hAe : va_A (Dk cI cZ h a F nq no np sh nw) sz = A at hD hA hS hZ ⊢
  refine lv_aload_n hx hb dX0_turnOrder_0 rfl (lv_at hl 0 rfl) ?_
  refine lv_iload_n hx hb dX0_turnOrder_1 rfl (lv_at hl 1 rfl) ?_
  refine w_prop_v (vx_runV (As := [.int x]) (rest := []) ⟨hx, hb, hml, hown, hts⟩ (cx_X0_requireOrder l hfl G cI cZ h a F nq no np sh nw s.heap.size x (by omega)) (cwV 1 hts gX0_turnOrder_X0_requireOrder rfl rfl rfl (by decide +kernel) ⟨(Nat.le_of_ble_eq_true rfl), (Nat.le_of_ble_eq_true rfl)⟩) ⟨wPreX_blind, va_recv hK hP (ci := 0) (q0 := 0) rfl rfl, w_preX hK hP hD (w_free hD hS hA) hS hZ⟩ rfl rfl hl.1 rfl (lv_room (Nat.le_of_ble_eq_true rfl)) dX0_turnOrder_2 ⟨(Nat.le_of_ble_eq_true rfl), (Nat.le_of_ble_eq_true rfl)⟩) hK hD hS hA hno9 hlocks (Nat.le_of_ble_eq_true rfl) (Nat.le_of_ble_eq_true rfl) (fun E h => ⟨h.1, by rw [h.2]; rfl⟩) (fun u H locs hw2 hP hD hS => ?_)
  have hw2 : p_in x no = true := hw2
  have hP : va_P G vwCl (Dk cI cZ h a F nq no np sh nw) H := hP
  have hD : va_D A (Dk cI cZ h a F nq no np sh nw) := hD
  obtain ⟨j, hj, rfl⟩ := pin_of hw2
  refine lv_aload_n hx hb dX0_turnOrder_5 rfl (lv_at hl 0 rfl) ?_
  refine va_get (ci := 0) (v := .ref (a 4)) (C := RX0) (T := TX0) (N := 16) hx hb hts hin hown hK hP 0 rfl rfl 4 (by decide) (hts (.fieldLink RX0 22 "CurfewDesk" "orderInForce" "[Z") (by decide +kernel)) (fun _ h9 => h9) rfl dX0_turnOrder_6 ?_
  refine lv_iload_n hx hb dX0_turnOrder_9 rfl (lv_at hl 1 rfl) ?_
  refine lv_aload_n hx hb dX0_turnOrder_10 rfl (lv_at hl 0 rfl) ?_
  refine va_get (ci := 0) (v := .ref (a 4)) (C := RX0) (T := TX0) (N := 16) hx hb hts hin hown hK hP 0 rfl rfl 4 (by decide) (hts (.fieldLink RX0 22 "CurfewDesk" "orderInForce" "[Z") (by decide +kernel)) (fun _ h9 => h9) rfl dX0_turnOrder_11 ?_
  refine lv_iload_n hx hb dX0_turnOrder_14 rfl (lv_at hl 1 rfl) ?_
  refine w_zald hx hb hK hP 5 1 rfl rfl (f := (F 4)) (j := j) (by omega) (by omega) dX0_turnOrder_15 ?_
  refine w_selN (v1 := 1) (v2 := 0) hx hb dX0_turnOrder_16 (by decide) dX0_turnOrder_19 (by decide) dX0_turnOrder_20 (by decide) dX0_turnOrder_23 (by decide) ?_
  rw [b2i_nz]
  refine w_zast hx hb hK hP hD hS 5 1 rfl rfl (f := (F 4)) (j := j) (by omega) (by omega) (b2i_v _) dX0_turnOrder_24 (fun H locs hP hD hS => ?_)
  have hP : va_P G vwCl (Dk cI cZ h a (va_up F 4 (upd (F 4) j (b2i (decide ((F 4) j = 0))))) nq no np sh nw) H := hP
  have hD : va_D A (Dk cI cZ h a (va_up F 4 (upd (F 4) j (b2i (decide ((F 4) j = 0))))) nq no np sh nw) := hD
  refine lv_aload_n hx hb dX0_turnOrder_25 rfl (lv_at hl 0 rfl) ?_
  refine va_get (ci := 0) (v := .ref (a 4)) (C := RX0) (T := TX0) (N := 16) hx hb hts hin hown hK hP 0 rfl rfl 4 (by decide) (hts (.fieldLink RX0 22 "CurfewDesk" "orderInForce" "[Z") (by decide +kernel)) (fun _ h9 => h9) rfl dX0_turnOrder_26 ?_
  refine lv_iload_n hx hb dX0_turnOrder_29 rfl (lv_at hl 1 rfl) ?_
  refine w_zald hx hb hK hP 5 1 rfl rfl (f := (upd (F 4) j (b2i (decide ((F 4) j = 0))))) (j := j) (by omega) (by omega) dX0_turnOrder_30 ?_
  rw [pk_us]
  have hP : va_P G vwCl (Dk cI cZ h a (n_fo F (nI j).toNatClampNeg) nq no np sh nw) H := by (rw [nI_clamp (show j < 2 ^ 31 by omega)]); exact hP
  have hD : va_D A (Dk cI cZ h a (n_fo F (nI j).toNatClampNeg) nq no np sh nw) := by (rw [nI_clamp (show j < 2 ^ 31 by omega)]); exact hD
  refine vx_ret ?_
  exact w_zret () hx hb hr hlocks hK hP hD hS (Nat.le_of_ble_eq_true rfl) (Nat.le_of_ble_eq_true rfl) dX0_turnOrder_31 (b2i_n _) (show k1 (p_in (nI j) no) = 0 ∧ (b2i (decide ((F 4) j = 0))) = b2i (decide (F 4 (nI j).toNatClampNeg = 0)) from by exact ⟨by rw [hw2]; rfl, by simp only [nI_clamp (show j < 2 ^ 31 by omega)]⟩)
set_option maxHeartbeats 4000000 in
set_option maxRecDepth 100000 in
theorem cx_X0_takePass (l : Launch) (hfl : l.flags = flags0) (G : va_G) (cI cZ : ClassId) (h : Nat) (a : Nat → Nat) (F : Nat → Nat → Int32) (nq no np : Nat) (sh nw : Int32) (sz : Nat) (x : Int32) (y : Int32) (hnp : np ≤ 20) : vx_Met l yX0_takePass wsX0_takePass ({ frames := 7, cells := 2, slots := 12, locals := 103 } : Room) (va_Pc [.ref h, .int x, .int y] (wPreX G (ty2 cI cZ) (Dk cI cZ h a F nq no np sh nw) sz)) (va_Qi (fun (r : Int32) (_ : Unit) => k1 (p_in x np && p_in y 4) = 0 ∧ r = F 9 (p_pl x y)) (fun _ => wP G (ty2 cI cZ) (Dk cI cZ h a (n_st F (p_pl x y) 0) nq no np sh nw) (va_A (Dk cI cZ h a F nq no np sh nw) sz)) (va_A (Dk cI cZ h a F nq no np sh nw) sz)) (wXC (fun E : String => E = "java/lang/IndexOutOfBoundsException" ∧ k1 (p_in x np && p_in y 4) = 1) G (ty2 cI cZ) (Dk cI cZ h a F nq no np sh nw) (va_A (Dk cI cZ h a F nq no np sh nw) sz)) 2 12 (va_A (Dk cI cZ h a F nq no np sh nw) sz) := by
  refine w_metX (cc := cX0_takePass) (maxL := 5) (ret := (some .int)) (by decide) rfl (Nat.le_of_ble_eq_true rfl) ?_
  intro pg e s m below meth cd hx hb hml hr hts hown hlocks hnm hno9 hZ hK hsz hP hD hA hS ls hl
  have hown : s.vm.findClass RX0 = some m.cls := hown
  have hin : ∀ w ∈ wsX00, w ∈ wsX0_takePass := by decide +kernel
  have hl : lv_has ls 5 [(0, .ref h), (1, .int x), (2, .int y)] := hl
  generalize hAe : va_A (Dk cI cZ h a F nq no np sh nw) sz = A at hD hA hS hZ ⊢
  refine lv_aload_n hx hb dX0_takePass_0 rfl (lv_at hl 0 rfl) ?_
  refine lv_iload_n hx hb dX0_takePass_1 rfl (lv_at hl 1 rfl) ?_
  refine w_prop_v (vx_runV (As := [.int x]) (rest := []) ⟨hx, hb, hml, hown, hts⟩ (cx_X0_requirePerson l hfl G cI cZ h a F nq no np sh nw s.heap.size x (by omega)) (cwV 1 hts gX0_takePass_X0_requirePerson rfl rfl rfl (by decide +kernel) ⟨(Nat.le_of_ble_eq_true rfl), (Nat.le_of_ble_eq_true rfl)⟩) ⟨wPreX_blind, va_recv hK hP (ci := 0) (q0 := 0) rfl rfl, w_preX hK hP hD (w_free hD hS hA) hS hZ⟩ rfl rfl hl.1 rfl (lv_room (Nat.le_of_ble_eq_true rfl)) dX0_takePass_2 ⟨(Nat.le_of_ble_eq_true rfl), (Nat.le_of_ble_eq_true rfl)⟩) hK hD hS hA hno9 hlocks (Nat.le_of_ble_eq_true rfl) (Nat.le_of_ble_eq_true rfl) (fun E h => ⟨h.1, by rw [h.2]; rfl⟩) (fun u H locs hw2 hP hD hS => ?_)
  have hw2 : p_in x np = true := hw2
  have hP : va_P G vwCl (Dk cI cZ h a F nq no np sh nw) H := hP
  have hD : va_D A (Dk cI cZ h a F nq no np sh nw) := hD
  obtain ⟨j, hj, rfl⟩ := pin_of hw2
  refine lv_iload_n hx hb dX0_takePass_5 rfl (lv_at hl 2 rfl) ?_
  refine w_prop0_v (vx_runS (As := [.int y]) (rest := []) ⟨hx, hb, hml, hown, hts⟩ (cx_X0_requireColour l hfl G H.size y ) (va_cwS 1 hts gX0_takePass_X0_requireColour rfl rfl rfl (by decide +kernel) ⟨(Nat.le_of_ble_eq_true rfl), (Nat.le_of_ble_eq_true rfl)⟩) ⟨wPreX_blind, w_preX (hK.sub [] rfl) w_P0 w_D0 (w_free0 hS hA) hS hZ⟩ rfl rfl hl.1 rfl (lv_room (Nat.le_of_ble_eq_true rfl)) dX0_takePass_6 ⟨(Nat.le_of_ble_eq_true rfl), (Nat.le_of_ble_eq_true rfl)⟩) hK hP hD hS hA hno9 hlocks (Nat.le_of_ble_eq_true rfl) (Nat.le_of_ble_eq_true rfl) (fun E h => ⟨h.1, by rw [hw2, h.2]; rfl⟩) (fun u H locs hw6 hP hS => ?_)
  have hw6 : p_in y 4 = true := hw6
  obtain ⟨c, hc, rfl⟩ := pin_of hw6
  refine lv_iload_n hx hb dX0_takePass_9 rfl (lv_at hl 1 rfl) ?_
  refine lv_iload_n hx hb dX0_takePass_10 rfl (lv_at hl 2 rfl) ?_
  refine w_st_i (va_runS (As := [.int (nI j), .int (nI c)]) (rest := []) ⟨hx, hb, hml, hown, hts⟩ (c_X0_stampPlace l G H.size j c ) (va_cwS 2 hts gX0_takePass_X0_stampPlace rfl rfl rfl (by decide +kernel) ⟨(Nat.le_of_ble_eq_true rfl), (Nat.le_of_ble_eq_true rfl)⟩) ⟨wPre_blind, w_pre (hK.sub [] rfl) w_P0 (w_D0 (A := A))⟩ rfl rfl hl.1 rfl (lv_room (Nat.le_of_ble_eq_true rfl)) dX0_takePass_11 ⟨(Nat.le_of_ble_eq_true rfl), (Nat.le_of_ble_eq_true rfl)⟩) hP hS hA (fun r11 u11 H locs hw11 hP hS => ?_)
  have hw11 : r11 = nI (j * 4 + c) := hw11
  subst hw11
  refine lv_istore_n (lv' := [(3, .int (nI (j * 4 + c))), (0, .ref h), (1, .int (nI j)), (2, .int (nI c))]) hx hb dX0_takePass_14 rfl hl (by decide) rfl (fun ls hl => ?_)
  refine lv_aload_n hx hb dX0_takePass_15 rfl (lv_at hl 1 rfl) ?_
  refine va_get (ci := 0) (v := .ref (a 9)) (C := RX0) (T := TX0) (N := 16) hx hb hts hin hown hK hP 0 rfl rfl 9 (by decide) (hts (.fieldLink RX0 38 "CurfewDesk" "personStamps" "[I") (by decide +kernel)) (fun _ h9 => h9) rfl dX0_takePass_16 ?_
  refine lv_iload_n hx hb dX0_takePass_19 rfl (lv_at hl 0 rfl) ?_
  refine w_iald hx hb hK hP 10 0 rfl rfl (f := (F 9)) (j := (j * 4 + c)) (by omega) (by omega) dX0_takePass_20 ?_
  refine lv_istore (lv' := [(4, .int ((F 9) (j * 4 + c))), (3, .int (nI (j * 4 + c))), (0, .ref h), (1, .int (nI j)), (2, .int (nI c))]) hx hb dX0_takePass_21 hl (by decide) rfl (fun ls hl => ?_)
  refine lv_aload_n hx hb dX0_takePass_23 rfl (lv_at hl 2 rfl) ?_
  refine va_get (ci := 0) (v := .ref (a 9)) (C := RX0) (T := TX0) (N := 16) hx hb hts hin hown hK hP 0 rfl rfl 9 (by decide) (hts (.fieldLink RX0 38 "CurfewDesk" "personStamps" "[I") (by decide +kernel)) (fun _ h9 => h9) rfl dX0_takePass_24 ?_
  refine lv_iload_n hx hb dX0_takePass_27 rfl (lv_at hl 1 rfl) ?_
  refine lv_iconst (v := 0) hx hb dX0_takePass_28 (by decide) ?_
  refine w_iast hx hb hK hP hD hS 10 0 rfl rfl (f := (F 9)) (j := (j * 4 + c)) (by omega) (by omega) dX0_takePass_29 (fun H locs hP hD hS => ?_)
  have hP : va_P G vwCl (Dk cI cZ h a (va_up F 9 (upd (F 9) (j * 4 + c) 0)) nq no np sh nw) H := hP
  have hD : va_D A (Dk cI cZ h a (va_up F 9 (upd (F 9) (j * 4 + c) 0)) nq no np sh nw) := hD
  refine lv_iload hx hb dX0_takePass_30 (lv_at hl 0 rfl) ?_
  have hP : va_P G vwCl (Dk cI cZ h a (n_st F (p_pl (nI j) (nI c)) 0) nq no np sh nw) H := by (rw [p_pl, nI_clamp (show j < 2 ^ 31 by omega), nI_clamp (show c < 2 ^ 31 by omega)]); exact hP
  have hD : va_D A (Dk cI cZ h a (n_st F (p_pl (nI j) (nI c)) 0) nq no np sh nw) := by (rw [p_pl, nI_clamp (show j < 2 ^ 31 by omega), nI_clamp (show c < 2 ^ 31 by omega)]); exact hD
  refine vx_ret ?_
  exact w_iret () hx hb hr hlocks hK hP hD hS (Nat.le_of_ble_eq_true rfl) (Nat.le_of_ble_eq_true rfl) dX0_takePass_32 (show k1 (p_in (nI j) np && p_in (nI c) 4) = 0 ∧ ((F 9) (j * 4 + c)) = F 9 (p_pl (nI j) (nI c)) from by exact ⟨by rw [hw2, hw6]; rfl, by simp only [p_pl, nI_clamp (show j < 2 ^ 31 by omega), nI_clamp (show c < 2 ^ 31 by omega)]⟩)
set_option maxHeartbeats 4000000 in
set_option maxRecDepth 100000 in
theorem cx_X0_givePass (l : Launch) (hfl : l.flags = flags0) (G : va_G) (cI cZ : ClassId) (h : Nat) (a : Nat → Nat) (F : Nat → Nat → Int32) (nq no np : Nat) (sh nw : Int32) (sz : Nat) (x : Int32) (y : Int32) (z : Int32) (hnp : np ≤ 20) : vx_Met l yX0_givePass wsX0_givePass ({ frames := 7, cells := 3, slots := 18, locals := 104 } : Room) (va_Pc [.ref h, .int x, .int y, .int z] (wPreX G (ty2 cI cZ) (Dk cI cZ h a F nq no np sh nw) sz)) (va_Qi (fun (r : Int32) (_ : Unit) => k2 (p_in x np && p_in y 4) (p_wi z 1 9) = 0 ∧ r = p_cap (F 9 (p_pl x y) + z)) (fun _ => wP G (ty2 cI cZ) (Dk cI cZ h a (n_st F (p_pl x y) (p_cap (F 9 (p_pl x y) + z))) nq no np sh nw) (va_A (Dk cI cZ h a F nq no np sh nw) sz)) (va_A (Dk cI cZ h a F nq no np sh nw) sz)) (wXC (fun E : String => (E = "java/lang/IndexOutOfBoundsException" ∧ k2 (p_in x np && p_in y 4) (p_wi z 1 9) = 1) ∨ (E = "java/lang/IllegalArgumentException" ∧ k2 (p_in x np && p_in y 4) (p_wi z 1 9) = 2)) G (ty2 cI cZ) (Dk cI cZ h a F nq no np sh nw) (va_A (Dk cI cZ h a F nq no np sh nw) sz)) 3 18 (va_A (Dk cI cZ h a F nq no np sh nw) sz) := by
  refine w_metX (cc := cX0_givePass) (maxL := 5) (ret := (some .int)) (by decide) rfl (Nat.le_of_ble_eq_true rfl) ?_
  intro pg e s m below meth cd hx hb hml hr hts hown hlocks hnm hno9 hZ hK hsz hP hD hA hS ls hl
  have hown : s.vm.findClass RX0 = some m.cls := hown
  have hin : ∀ w ∈ wsX00, w ∈ wsX0_givePass := by decide +kernel
  have hl : lv_has ls 5 [(0, .ref h), (1, .int x), (2, .int y), (3, .int z)] := hl
  generalize hAe : va_A (Dk cI cZ h a F nq no np sh nw) sz = A at hD hA hS hZ ⊢
  refine lv_aload_n hx hb dX0_givePass_0 rfl (lv_at hl 0 rfl) ?_
  refine lv_iload_n hx hb dX0_givePass_1 rfl (lv_at hl 1 rfl) ?_
  refine w_prop_v (vx_runV (As := [.int x]) (rest := []) ⟨hx, hb, hml, hown, hts⟩ (cx_X0_requirePerson l hfl G cI cZ h a F nq no np sh nw s.heap.size x (by omega)) (cwV 1 hts gX0_givePass_X0_requirePerson rfl rfl rfl (by decide +kernel) ⟨(Nat.le_of_ble_eq_true rfl), (Nat.le_of_ble_eq_true rfl)⟩) ⟨wPreX_blind, va_recv hK hP (ci := 0) (q0 := 0) rfl rfl, w_preX hK hP hD (w_free hD hS hA) hS hZ⟩ rfl rfl hl.1 rfl (lv_room (Nat.le_of_ble_eq_true rfl)) dX0_givePass_2 ⟨(Nat.le_of_ble_eq_true rfl), (Nat.le_of_ble_eq_true rfl)⟩) hK hD hS hA hno9 hlocks (Nat.le_of_ble_eq_true rfl) (Nat.le_of_ble_eq_true rfl) (fun E h => Or.inl ⟨h.1, by rw [h.2]; rfl⟩) (fun u H locs hw2 hP hD hS => ?_)
  have hw2 : p_in x np = true := hw2
  have hP : va_P G vwCl (Dk cI cZ h a F nq no np sh nw) H := hP
  have hD : va_D A (Dk cI cZ h a F nq no np sh nw) := hD
  obtain ⟨j, hj, rfl⟩ := pin_of hw2
  refine lv_iload_n hx hb dX0_givePass_5 rfl (lv_at hl 2 rfl) ?_
  refine w_prop0_v (vx_runS (As := [.int y]) (rest := []) ⟨hx, hb, hml, hown, hts⟩ (cx_X0_requireColour l hfl G H.size y ) (va_cwS 1 hts gX0_givePass_X0_requireColour rfl rfl rfl (by decide +kernel) ⟨(Nat.le_of_ble_eq_true rfl), (Nat.le_of_ble_eq_true rfl)⟩) ⟨wPreX_blind, w_preX (hK.sub [] rfl) w_P0 w_D0 (w_free0 hS hA) hS hZ⟩ rfl rfl hl.1 rfl (lv_room (Nat.le_of_ble_eq_true rfl)) dX0_givePass_6 ⟨(Nat.le_of_ble_eq_true rfl), (Nat.le_of_ble_eq_true rfl)⟩) hK hP hD hS hA hno9 hlocks (Nat.le_of_ble_eq_true rfl) (Nat.le_of_ble_eq_true rfl) (fun E h => Or.inl ⟨h.1, by rw [hw2, h.2]; rfl⟩) (fun u H locs hw6 hP hS => ?_)
  have hw6 : p_in y 4 = true := hw6
  obtain ⟨c, hc, rfl⟩ := pin_of hw6
  refine lv_iload_n hx hb dX0_givePass_9 rfl (lv_at hl 3 rfl) ?_
  refine lv_iconst (v := 1) hx hb dX0_givePass_10 (by decide) ?_
  refine lv_bipush (v := 9) hx hb dX0_givePass_11 (by decide) ?_
  refine w_prop0_v (vx_runS (As := [.int z, .int 1, .int 9]) (rest := []) ⟨hx, hb, hml, hown, hts⟩ (cx_X0_requireWithin l hfl G H.size z 1 9 ) (va_cwS 3 hts gX0_givePass_X0_requireWithin rfl rfl rfl (by decide +kernel) ⟨(Nat.le_of_ble_eq_true rfl), (Nat.le_of_ble_eq_true rfl)⟩) ⟨wPreX_blind, w_preX (hK.sub [] rfl) w_P0 w_D0 (w_free0 hS hA) hS hZ⟩ rfl rfl hl.1 rfl (lv_room (Nat.le_of_ble_eq_true rfl)) dX0_givePass_13 ⟨(Nat.le_of_ble_eq_true rfl), (Nat.le_of_ble_eq_true rfl)⟩) hK hP hD hS hA hno9 hlocks (Nat.le_of_ble_eq_true rfl) (Nat.le_of_ble_eq_true rfl) (fun E h => Or.inr ⟨h.1, by rw [hw2, hw6, h.2]; rfl⟩) (fun u H locs hw13 hP hS => ?_)
  have hw13 : p_wi z 1 9 = true := hw13
  refine lv_iload_n hx hb dX0_givePass_16 rfl (lv_at hl 1 rfl) ?_
  refine lv_iload_n hx hb dX0_givePass_17 rfl (lv_at hl 2 rfl) ?_
  refine w_st_i (va_runS (As := [.int (nI j), .int (nI c)]) (rest := []) ⟨hx, hb, hml, hown, hts⟩ (c_X0_stampPlace l G H.size j c ) (va_cwS 2 hts gX0_givePass_X0_stampPlace rfl rfl rfl (by decide +kernel) ⟨(Nat.le_of_ble_eq_true rfl), (Nat.le_of_ble_eq_true rfl)⟩) ⟨wPre_blind, w_pre (hK.sub [] rfl) w_P0 (w_D0 (A := A))⟩ rfl rfl hl.1 rfl (lv_room (Nat.le_of_ble_eq_true rfl)) dX0_givePass_18 ⟨(Nat.le_of_ble_eq_true rfl), (Nat.le_of_ble_eq_true rfl)⟩) hP hS hA (fun r18 u18 H locs hw18 hP hS => ?_)
  have hw18 : r18 = nI (j * 4 + c) := hw18
  subst hw18
  refine lv_istore (lv' := [(4, .int (nI (j * 4 + c))), (0, .ref h), (1, .int (nI j)), (2, .int (nI c)), (3, .int z)]) hx hb dX0_givePass_21 hl (by decide) rfl (fun ls hl => ?_)
  refine lv_aload_n hx hb dX0_givePass_23 rfl (lv_at hl 1 rfl) ?_
  refine va_get (ci := 0) (v := .ref (a 9)) (C := RX0) (T := TX0) (N := 16) hx hb hts hin hown hK hP 0 rfl rfl 9 (by decide) (hts (.fieldLink RX0 38 "CurfewDesk" "personStamps" "[I") (by decide +kernel)) (fun _ h9 => h9) rfl dX0_givePass_24 ?_
  refine lv_iload hx hb dX0_givePass_27 (lv_at hl 0 rfl) ?_
  refine lv_bipush (v := 9) hx hb dX0_givePass_29 (by decide) ?_
  refine lv_aload_n hx hb dX0_givePass_31 rfl (lv_at hl 1 rfl) ?_
  refine va_get (ci := 0) (v := .ref (a 9)) (C := RX0) (T := TX0) (N := 16) hx hb hts hin hown hK hP 0 rfl rfl 9 (by decide) (hts (.fieldLink RX0 38 "CurfewDesk" "personStamps" "[I") (by decide +kernel)) (fun _ h9 => h9) rfl dX0_givePass_32 ?_
  refine lv_iload hx hb dX0_givePass_35 (lv_at hl 0 rfl) ?_
  refine w_iald hx hb hK hP 10 0 rfl rfl (f := (F 9)) (j := (j * 4 + c)) (by omega) (by omega) dX0_givePass_37 ?_
  refine lv_iload_n hx hb dX0_givePass_38 rfl (lv_at hl 4 rfl) ?_
  refine lv_iadd hx hb dX0_givePass_39 ?_
  refine va_mmin hx hb (hml.trans hl.1.symm) hown (hts (.methodLink RX0 96 Lib.Math.min.name) (by decide +kernel)) (hts (.static Lib.Math.min.name) (by decide +kernel)) (hts (.initialized "java/lang/Math") (by decide +kernel)) (hts (.code Lib.Math.min.name Lib.Math.min.code 2 (some .int)) (by decide +kernel)) (Nat.le_of_ble_eq_true rfl) (Nat.le_of_ble_eq_true rfl) (Nat.le_of_ble_eq_true rfl) (Nat.le_of_ble_eq_true rfl) dX0_givePass_40 ?_
  refine w_iast hx hb hK hP hD hS 10 0 rfl rfl (f := (F 9)) (j := (j * 4 + c)) (by omega) (by omega) dX0_givePass_43 (fun H locs hP hD hS => ?_)
  have hP : va_P G vwCl (Dk cI cZ h a (va_up F 9 (upd (F 9) (j * 4 + c) (if ((F 9) (j * 4 + c)) + z < 9 then (((F 9) (j * 4 + c)) + z) else 9))) nq no np sh nw) H := hP
  have hD : va_D A (Dk cI cZ h a (va_up F 9 (upd (F 9) (j * 4 + c) (if ((F 9) (j * 4 + c)) + z < 9 then (((F 9) (j * 4 + c)) + z) else 9))) nq no np sh nw) := hD
  refine lv_aload_n hx hb dX0_givePass_44 rfl (lv_at hl 1 rfl) ?_
  refine va_get (ci := 0) (v := .ref (a 9)) (C := RX0) (T := TX0) (N := 16) hx hb hts hin hown hK hP 0 rfl rfl 9 (by decide) (hts (.fieldLink RX0 38 "CurfewDesk" "personStamps" "[I") (by decide +kernel)) (fun _ h9 => h9) rfl dX0_givePass_45 ?_
  refine lv_iload hx hb dX0_givePass_48 (lv_at hl 0 rfl) ?_
  refine w_iald hx hb hK hP 10 0 rfl rfl (f := (upd (F 9) (j * 4 + c) (if ((F 9) (j * 4 + c)) + z < 9 then (((F 9) (j * 4 + c)) + z) else 9))) (j := (j * 4 + c)) (by omega) (by omega) dX0_givePass_50 ?_
  rw [pk_us]
  have hP : va_P G vwCl (Dk cI cZ h a (n_st F (p_pl (nI j) (nI c)) (p_cap (F 9 (p_pl (nI j) (nI c)) + z))) nq no np sh nw) H := by (rw [p_pl, nI_clamp (show j < 2 ^ 31 by omega), nI_clamp (show c < 2 ^ 31 by omega)]); exact hP
  have hD : va_D A (Dk cI cZ h a (n_st F (p_pl (nI j) (nI c)) (p_cap (F 9 (p_pl (nI j) (nI c)) + z))) nq no np sh nw) := by (rw [p_pl, nI_clamp (show j < 2 ^ 31 by omega), nI_clamp (show c < 2 ^ 31 by omega)]); exact hD
  refine vx_ret ?_
  exact w_iret () hx hb hr hlocks hK hP hD hS (Nat.le_of_ble_eq_true rfl) (Nat.le_of_ble_eq_true rfl) dX0_givePass_51 (show k2 (p_in (nI j) np && p_in (nI c) 4) (p_wi z 1 9) = 0 ∧ (if ((F 9) (j * 4 + c)) + z < 9 then (((F 9) (j * 4 + c)) + z) else 9) = p_cap (F 9 (p_pl (nI j) (nI c)) + z) from by exact ⟨by rw [hw2, hw6, hw13]; rfl, by simp only [p_pl, p_cap, nI_clamp (show j < 2 ^ 31 by omega), nI_clamp (show c < 2 ^ 31 by omega)]⟩)
set_option maxHeartbeats 4000000 in
set_option maxRecDepth 100000 in
theorem cx_X0_addQuarter (l : Launch) (hfl : l.flags = flags0) (G : va_G) (cI cZ : ClassId) (h : Nat) (a : Nat → Nat) (F : Nat → Nat → Int32) (nq no np : Nat) (sh nw : Int32) (sz : Nat) (hnq : nq ≤ 6) : vx_Met l yX0_addQuarter wsX0_addQuarter ({ frames := 6, cells := 1, slots := 6, locals := 82 } : Room) (va_Pc [.ref h] (wPreX G (ty2 cI cZ) (Dk cI cZ h a F nq no np sh nw) sz)) (va_Qi (fun (r : Int32) (_ : Unit) => k1 (!decide (nq = 6)) = 0 ∧ r = nI nq) (fun _ => wP G (ty2 cI cZ) (Dk cI cZ h a F (nq + 1) no np sh nw) (va_A (Dk cI cZ h a F nq no np sh nw) sz)) (va_A (Dk cI cZ h a F nq no np sh nw) sz)) (wXC (fun E : String => E = "java/lang/IllegalStateException" ∧ k1 (!decide (nq = 6)) = 1) G (ty2 cI cZ) (Dk cI cZ h a F nq no np sh nw) (va_A (Dk cI cZ h a F nq no np sh nw) sz)) 1 6 (va_A (Dk cI cZ h a F nq no np sh nw) sz) := by
  refine w_metX (cc := cX0_addQuarter) (maxL := 2) (ret := (some .int)) (by decide) rfl (Nat.le_of_ble_eq_true rfl) ?_
  intro pg e s m below meth cd hx hb hml hr hts hown hlocks hnm hno9 hZ hK hsz hP hD hA hS ls hl
  have hown : s.vm.findClass RX0 = some m.cls := hown
  have hin : ∀ w ∈ wsX00, w ∈ wsX0_addQuarter := by decide +kernel
  have hl : lv_has ls 2 [(0, .ref h)] := hl
  generalize hAe : va_A (Dk cI cZ h a F nq no np sh nw) sz = A at hD hA hS hZ ⊢
  refine lv_aload_n hx hb dX0_addQuarter_0 rfl (lv_at hl 0 rfl) ?_
  refine va_get (ci := 0) (v := .int (nI nq)) (C := RX0) (T := TX0) (N := 16) hx hb hts hin hown hK hP 0 rfl rfl 11 (by decide) (hts (.fieldLink RX0 44 "CurfewDesk" "quarterCount" "I") (by decide +kernel)) (fun _ h9 => h9) rfl dX0_addQuarter_1 ?_
  refine lv_bipush (v := 6) hx hb dX0_addQuarter_4 (by decide) ?_
  refine lv_icmp_lt (tgt := 19) hx hb dX0_addQuarter_6 (by decide) (fun c6 => ?_) (fun c6 => ?_)
  · have q6 := (nI_ltI (a := nq) (b := 6) (by omega) (by omega)).mp c6
    refine lv_aload_n hx hb dX0_addQuarter_19 rfl (lv_at hl 0 rfl) ?_
    refine va_get (ci := 0) (v := .int (nI nq)) (C := RX0) (T := TX0) (N := 16) hx hb hts hin hown hK hP 0 rfl rfl 11 (by decide) (hts (.fieldLink RX0 44 "CurfewDesk" "quarterCount" "I") (by decide +kernel)) (fun _ h9 => h9) rfl dX0_addQuarter_20 ?_
    refine lv_istore_n (lv' := [(1, .int (nI nq)), (0, .ref h)]) hx hb dX0_addQuarter_23 rfl hl (by decide) rfl (fun ls hl => ?_)
    refine lv_aload_n hx hb dX0_addQuarter_24 rfl (lv_at hl 1 rfl) ?_
    refine lv_dup hx hb dX0_addQuarter_25 rfl ?_
    refine va_get (ci := 0) (v := .int (nI nq)) (C := RX0) (T := TX0) (N := 16) hx hb hts hin hown hK hP 0 rfl rfl 11 (by decide) (hts (.fieldLink RX0 44 "CurfewDesk" "quarterCount" "I") (by decide +kernel)) (fun _ h9 => h9) rfl dX0_addQuarter_26 ?_
    refine lv_iconst (v := 1) hx hb dX0_addQuarter_29 (by decide) ?_
    refine lv_iadd hx hb dX0_addQuarter_30 ?_
    rw [nI_1]
    refine va_put (ci := 0) (v := .int (nI (nq + 1))) (ty := .int) (C := RX0) (T := TX0) (N := 16) hx hb hts hin tyX0 tyX0_ok nmX0 hown hK hP hD hS 0 rfl rfl 11 (by decide) (hts (.fieldLink RX0 44 "CurfewDesk" "quarterCount" "I") (by decide +kernel)) (fun _ h9 => h9) rfl (by decide +kernel) rfl rfl (Nat.le_of_ble_eq_true rfl) dX0_addQuarter_31 (fun H locs hP hD hS => ?_)
    have hP : va_P G vwCl (Dk cI cZ h a F (nq + 1) no np sh nw) H := hP
    have hD : va_D A (Dk cI cZ h a F (nq + 1) no np sh nw) := hD
    refine lv_iload_n hx hb dX0_addQuarter_34 rfl (lv_at hl 0 rfl) ?_
    refine vx_ret ?_
    exact w_iret () hx hb hr hlocks hK hP hD hS (Nat.le_of_ble_eq_true rfl) (Nat.le_of_ble_eq_true rfl) dX0_addQuarter_35 (show k1 (!decide (nq = 6)) = 0 ∧ (nI nq) = nI nq from by exact ⟨by rw [decide_eq_false (show ¬ nq = 6 by omega)]; rfl, rfl⟩)
  · have q6 := mt (nI_ltI (a := nq) (b := 6) (by omega) (by omega)).mpr c6
    exact w_throw (own := RX0) (cls := "java/lang/IllegalStateException") (text := "the town has all its quarters") (ik := 48) (is := 50) (ic := 52) hx hb hfl hts hown hlocks hno9 hZ hK hP hD hS (hl.1.trans hml.symm) (by decide +kernel) (by decide +kernel) (by decide +kernel) (by decide +kernel) rfl (by decide +kernel) (by decide +kernel) (by decide +kernel) (by decide +kernel) dX0_addQuarter_9 dX0_addQuarter_12 dX0_addQuarter_13 dX0_addQuarter_15 dX0_addQuarter_18 (Nat.le_of_ble_eq_true rfl) (Nat.le_of_ble_eq_true rfl) (Nat.le_of_ble_eq_true rfl) (Nat.le_of_ble_eq_true rfl) (Nat.le_of_ble_eq_true rfl) (Nat.le_of_ble_eq_true rfl) (show "java/lang/IllegalStateException" = "java/lang/IllegalStateException" ∧ k1 (!decide (nq = 6)) = 1 from by exact ⟨rfl, by rw [decide_eq_true (show nq = 6 by omega)]; rfl⟩)
set_option maxHeartbeats 4000000 in
set_option maxRecDepth 100000 in
theorem cx_X0_addPerson (l : Launch) (hfl : l.flags = flags0) (G : va_G) (cI cZ : ClassId) (h : Nat) (a : Nat → Nat) (F : Nat → Nat → Int32) (nq no np : Nat) (sh nw : Int32) (sz : Nat) (x : Int32) (hnp : np ≤ 20) : vx_Met l yX0_addPerson wsX0_addPerson ({ frames := 7, cells := 2, slots := 12, locals := 102 } : Room) (va_Pc [.ref h, .int x] (wPreX G (ty2 cI cZ) (Dk cI cZ h a F nq no np sh nw) sz)) (va_Qi (fun (r : Int32) (_ : Unit) => k2 (p_in x 8) (!decide (np = 20)) = 0 ∧ r = nI np) (fun _ => wP G (ty2 cI cZ) (Dk cI cZ h a (n_pe F np x) nq no (np + 1) sh nw) (va_A (Dk cI cZ h a F nq no np sh nw) sz)) (va_A (Dk cI cZ h a F nq no np sh nw) sz)) (wXC (fun E : String => (E = "java/lang/IndexOutOfBoundsException" ∧ k2 (p_in x 8) (!decide (np = 20)) = 1) ∨ (E = "java/lang/IllegalStateException" ∧ k2 (p_in x 8) (!decide (np = 20)) = 2)) G (ty2 cI cZ) (Dk cI cZ h a F nq no np sh nw) (va_A (Dk cI cZ h a F nq no np sh nw) sz)) 2 12 (va_A (Dk cI cZ h a F nq no np sh nw) sz) := by
  refine w_metX (cc := cX0_addPerson) (maxL := 3) (ret := (some .int)) (by decide) rfl (Nat.le_of_ble_eq_true rfl) ?_
  intro pg e s m below meth cd hx hb hml hr hts hown hlocks hnm hno9 hZ hK hsz hP hD hA hS ls hl
  have hown : s.vm.findClass RX0 = some m.cls := hown
  have hin : ∀ w ∈ wsX00, w ∈ wsX0_addPerson := by decide +kernel
  have hl : lv_has ls 3 [(0, .ref h), (1, .int x)] := hl
  generalize hAe : va_A (Dk cI cZ h a F nq no np sh nw) sz = A at hD hA hS hZ ⊢
  refine lv_iload_n hx hb dX0_addPerson_0 rfl (lv_at hl 1 rfl) ?_
  refine w_prop0_v (vx_runS (As := [.int x]) (rest := []) ⟨hx, hb, hml, hown, hts⟩ (cx_X0_requireTrade l hfl G s.heap.size x ) (va_cwS 1 hts gX0_addPerson_X0_requireTrade rfl rfl rfl (by decide +kernel) ⟨(Nat.le_of_ble_eq_true rfl), (Nat.le_of_ble_eq_true rfl)⟩) ⟨wPreX_blind, w_preX (hK.sub [] rfl) w_P0 w_D0 (w_free0 hS hA) hS hZ⟩ rfl rfl hl.1 rfl (lv_room (Nat.le_of_ble_eq_true rfl)) dX0_addPerson_1 ⟨(Nat.le_of_ble_eq_true rfl), (Nat.le_of_ble_eq_true rfl)⟩) hK hP hD hS hA hno9 hlocks (Nat.le_of_ble_eq_true rfl) (Nat.le_of_ble_eq_true rfl) (fun E h => Or.inl ⟨h.1, by rw [h.2]; rfl⟩) (fun u H locs hw1 hP hS => ?_)
  have hw1 : p_in x 8 = true := hw1
  refine lv_aload_n hx hb dX0_addPerson_4 rfl (lv_at hl 0 rfl) ?_
  refine va_get (ci := 0) (v := .int (nI np)) (C := RX0) (T := TX0) (N := 16) hx hb hts hin hown hK hP 0 rfl rfl 13 (by decide) (hts (.fieldLink RX0 59 "CurfewDesk" "personCount" "I") (by decide +kernel)) (fun _ h9 => h9) rfl dX0_addPerson_5 ?_
  refine lv_bipush (v := 20) hx hb dX0_addPerson_8 (by decide) ?_
  refine lv_icmp_lt (tgt := 23) hx hb dX0_addPerson_10 (by decide) (fun c10 => ?_) (fun c10 => ?_)
  · have q10 := (nI_ltI (a := np) (b := 20) (by omega) (by omega)).mp c10
    refine lv_aload_n hx hb dX0_addPerson_23 rfl (lv_at hl 0 rfl) ?_
    refine va_get (ci := 0) (v := .int (nI np)) (C := RX0) (T := TX0) (N := 16) hx hb hts hin hown hK hP 0 rfl rfl 13 (by decide) (hts (.fieldLink RX0 59 "CurfewDesk" "personCount" "I") (by decide +kernel)) (fun _ h9 => h9) rfl dX0_addPerson_24 ?_
    refine lv_istore_n (lv' := [(2, .int (nI np)), (0, .ref h), (1, .int x)]) hx hb dX0_addPerson_27 rfl hl (by decide) rfl (fun ls hl => ?_)
    refine lv_aload_n hx hb dX0_addPerson_28 rfl (lv_at hl 1 rfl) ?_
    refine va_get (ci := 0) (v := .ref (a 6)) (C := RX0) (T := TX0) (N := 16) hx hb hts hin hown hK hP 0 rfl rfl 6 (by decide) (hts (.fieldLink RX0 29 "CurfewDesk" "personTrade" "[I") (by decide +kernel)) (fun _ h9 => h9) rfl dX0_addPerson_29 ?_
    refine lv_iload_n hx hb dX0_addPerson_32 rfl (lv_at hl 0 rfl) ?_
    refine lv_iload_n hx hb dX0_addPerson_33 rfl (lv_at hl 2 rfl) ?_
    refine w_iast hx hb hK hP hD hS 7 0 rfl rfl (f := (F 6)) (j := np) (by omega) (by omega) dX0_addPerson_34 (fun H locs hP hD hS => ?_)
    have hP : va_P G vwCl (Dk cI cZ h a (va_up F 6 (upd (F 6) np x)) nq no np sh nw) H := hP
    have hD : va_D A (Dk cI cZ h a (va_up F 6 (upd (F 6) np x)) nq no np sh nw) := hD
    refine lv_aload_n hx hb dX0_addPerson_35 rfl (lv_at hl 1 rfl) ?_
    refine lv_dup hx hb dX0_addPerson_36 rfl ?_
    refine va_get (ci := 0) (v := .int (nI np)) (C := RX0) (T := TX0) (N := 16) hx hb hts hin hown hK hP 0 rfl rfl 13 (by decide) (hts (.fieldLink RX0 59 "CurfewDesk" "personCount" "I") (by decide +kernel)) (fun _ h9 => h9) rfl dX0_addPerson_37 ?_
    refine lv_iconst (v := 1) hx hb dX0_addPerson_40 (by decide) ?_
    refine lv_iadd hx hb dX0_addPerson_41 ?_
    rw [nI_1]
    refine va_put (ci := 0) (v := .int (nI (np + 1))) (ty := .int) (C := RX0) (T := TX0) (N := 16) hx hb hts hin tyX0 tyX0_ok nmX0 hown hK hP hD hS 0 rfl rfl 13 (by decide) (hts (.fieldLink RX0 59 "CurfewDesk" "personCount" "I") (by decide +kernel)) (fun _ h9 => h9) rfl (by decide +kernel) rfl rfl (Nat.le_of_ble_eq_true rfl) dX0_addPerson_42 (fun H locs hP hD hS => ?_)
    have hP : va_P G vwCl (Dk cI cZ h a (va_up F 6 (upd (F 6) np x)) nq no (np + 1) sh nw) H := hP
    have hD : va_D A (Dk cI cZ h a (va_up F 6 (upd (F 6) np x)) nq no (np + 1) sh nw) := hD
    refine lv_iload_n hx hb dX0_addPerson_45 rfl (lv_at hl 0 rfl) ?_
    refine vx_ret ?_
    exact w_iret () hx hb hr hlocks hK hP hD hS (Nat.le_of_ble_eq_true rfl) (Nat.le_of_ble_eq_true rfl) dX0_addPerson_46 (show k2 (p_in x 8) (!decide (np = 20)) = 0 ∧ (nI np) = nI np from by exact ⟨by rw [hw1, decide_eq_false (show ¬ np = 20 by omega)]; rfl, rfl⟩)
  · have q10 := mt (nI_ltI (a := np) (b := 20) (by omega) (by omega)).mpr c10
    exact w_throw (own := RX0) (cls := "java/lang/IllegalStateException") (text := "the town has all its people") (ik := 48) (is := 62) (ic := 52) hx hb hfl hts hown hlocks hno9 hZ hK hP hD hS (hl.1.trans hml.symm) (by decide +kernel) (by decide +kernel) (by decide +kernel) (by decide +kernel) rfl (by decide +kernel) (by decide +kernel) (by decide +kernel) (by decide +kernel) dX0_addPerson_13 dX0_addPerson_16 dX0_addPerson_17 dX0_addPerson_19 dX0_addPerson_22 (Nat.le_of_ble_eq_true rfl) (Nat.le_of_ble_eq_true rfl) (Nat.le_of_ble_eq_true rfl) (Nat.le_of_ble_eq_true rfl) (Nat.le_of_ble_eq_true rfl) (Nat.le_of_ble_eq_true rfl) (show ("java/lang/IllegalStateException" = "java/lang/IndexOutOfBoundsException" ∧ k2 (p_in x 8) (!decide (np = 20)) = 1) ∨ ("java/lang/IllegalStateException" = "java/lang/IllegalStateException" ∧ k2 (p_in x 8) (!decide (np = 20)) = 2) from by exact Or.inr ⟨rfl, by rw [hw1, decide_eq_true (show np = 20 by omega)]; rfl⟩)
set_option maxHeartbeats 4000000 in
set_option maxRecDepth 100000 in
theorem cx_X0_addOrder (l : Launch) (hfl : l.flags = flags0) (G : va_G) (cI cZ : ClassId) (h : Nat) (a : Nat → Nat) (F : Nat → Nat → Int32) (nq no np : Nat) (sh nw : Int32) (sz : Nat) (x : Int32) (y : Int32) (z : Int32) (v : Int32) (hnq : nq ≤ 6) (hno : no ≤ 10) : vx_Met l yX0_addOrder wsX0_addOrder ({ frames := 7, cells := 5, slots := 30, locals := 104 } : Room) (va_Pc [.ref h, .int x, .int y, .int z, .int v] (wPreX G (ty2 cI cZ) (Dk cI cZ h a F nq no np sh nw) sz)) (va_Qi (fun (r : Int32) (_ : Unit) => k3 (p_in x nq && p_in v 4) (p_wi y 0 4 && p_wi z 0 4) (!decide (no = 10)) = 0 ∧ r = nI no) (fun _ => wP G (ty2 cI cZ) (Dk cI cZ h a (n_or F no x y z v) nq (no + 1) np sh nw) (va_A (Dk cI cZ h a F nq no np sh nw) sz)) (va_A (Dk cI cZ h a F nq no np sh nw) sz)) (wXC (fun E : String => (E = "java/lang/IndexOutOfBoundsException" ∧ k3 (p_in x nq && p_in v 4) (p_wi y 0 4 && p_wi z 0 4) (!decide (no = 10)) = 1) ∨ (E = "java/lang/IllegalArgumentException" ∧ k3 (p_in x nq && p_in v 4) (p_wi y 0 4 && p_wi z 0 4) (!decide (no = 10)) = 2) ∨ (E = "java/lang/IllegalStateException" ∧ k3 (p_in x nq && p_in v 4) (p_wi y 0 4 && p_wi z 0 4) (!decide (no = 10)) = 3)) G (ty2 cI cZ) (Dk cI cZ h a F nq no np sh nw) (va_A (Dk cI cZ h a F nq no np sh nw) sz)) 5 30 (va_A (Dk cI cZ h a F nq no np sh nw) sz) := by
  refine w_metX (cc := cX0_addOrder) (maxL := 6) (ret := (some .int)) (by decide) rfl (Nat.le_of_ble_eq_true rfl) ?_
  intro pg e s m below meth cd hx hb hml hr hts hown hlocks hnm hno9 hZ hK hsz hP hD hA hS ls hl
  have hown : s.vm.findClass RX0 = some m.cls := hown
  have hin : ∀ w ∈ wsX00, w ∈ wsX0_addOrder := by decide +kernel
  have hl : lv_has ls 6 [(0, .ref h), (1, .int x), (2, .int y), (3, .int z), (4, .int v)] := hl
  generalize hAe : va_A (Dk cI cZ h a F nq no np sh nw) sz = A at hD hA hS hZ ⊢
  refine lv_aload_n hx hb dX0_addOrder_0 rfl (lv_at hl 0 rfl) ?_
  refine lv_iload_n hx hb dX0_addOrder_1 rfl (lv_at hl 1 rfl) ?_
  refine w_prop_v (vx_runV (As := [.int x]) (rest := []) ⟨hx, hb, hml, hown, hts⟩ (cx_X0_requireQuarter l hfl G cI cZ h a F nq no np sh nw s.heap.size x (by omega)) (cwV 1 hts gX0_addOrder_X0_requireQuarter rfl rfl rfl (by decide +kernel) ⟨(Nat.le_of_ble_eq_true rfl), (Nat.le_of_ble_eq_true rfl)⟩) ⟨wPreX_blind, va_recv hK hP (ci := 0) (q0 := 0) rfl rfl, w_preX hK hP hD (w_free hD hS hA) hS hZ⟩ rfl rfl hl.1 rfl (lv_room (Nat.le_of_ble_eq_true rfl)) dX0_addOrder_2 ⟨(Nat.le_of_ble_eq_true rfl), (Nat.le_of_ble_eq_true rfl)⟩) hK hD hS hA hno9 hlocks (Nat.le_of_ble_eq_true rfl) (Nat.le_of_ble_eq_true rfl) (fun E h => Or.inl ⟨h.1, by rw [h.2]; rfl⟩) (fun u H locs hw2 hP hD hS => ?_)
  have hw2 : p_in x nq = true := hw2
  have hP : va_P G vwCl (Dk cI cZ h a F nq no np sh nw) H := hP
  have hD : va_D A (Dk cI cZ h a F nq no np sh nw) := hD
  refine lv_iload hx hb dX0_addOrder_5 (lv_at hl 4 rfl) ?_
  refine w_prop0_v (vx_runS (As := [.int v]) (rest := []) ⟨hx, hb, hml, hown, hts⟩ (cx_X0_requireColour l hfl G H.size v ) (va_cwS 1 hts gX0_addOrder_X0_requireColour rfl rfl rfl (by decide +kernel) ⟨(Nat.le_of_ble_eq_true rfl), (Nat.le_of_ble_eq_true rfl)⟩) ⟨wPreX_blind, w_preX (hK.sub [] rfl) w_P0 w_D0 (w_free0 hS hA) hS hZ⟩ rfl rfl hl.1 rfl (lv_room (Nat.le_of_ble_eq_true rfl)) dX0_addOrder_7 ⟨(Nat.le_of_ble_eq_true rfl), (Nat.le_of_ble_eq_true rfl)⟩) hK hP hD hS hA hno9 hlocks (Nat.le_of_ble_eq_true rfl) (Nat.le_of_ble_eq_true rfl) (fun E h => Or.inl ⟨h.1, by rw [hw2, h.2]; rfl⟩) (fun u H locs hw7 hP hS => ?_)
  have hw7 : p_in v 4 = true := hw7
  refine lv_iload_n hx hb dX0_addOrder_10 rfl (lv_at hl 2 rfl) ?_
  refine lv_iconst (v := 0) hx hb dX0_addOrder_11 (by decide) ?_
  refine lv_iconst (v := 4) hx hb dX0_addOrder_12 (by decide) ?_
  refine w_prop0_v (vx_runS (As := [.int y, .int 0, .int 4]) (rest := []) ⟨hx, hb, hml, hown, hts⟩ (cx_X0_requireWithin l hfl G H.size y 0 4 ) (va_cwS 3 hts gX0_addOrder_X0_requireWithin rfl rfl rfl (by decide +kernel) ⟨(Nat.le_of_ble_eq_true rfl), (Nat.le_of_ble_eq_true rfl)⟩) ⟨wPreX_blind, w_preX (hK.sub [] rfl) w_P0 w_D0 (w_free0 hS hA) hS hZ⟩ rfl rfl hl.1 rfl (lv_room (Nat.le_of_ble_eq_true rfl)) dX0_addOrder_13 ⟨(Nat.le_of_ble_eq_true rfl), (Nat.le_of_ble_eq_true rfl)⟩) hK hP hD hS hA hno9 hlocks (Nat.le_of_ble_eq_true rfl) (Nat.le_of_ble_eq_true rfl) (fun E h => Or.inr (Or.inl ⟨h.1, by rw [hw2, hw7, h.2]; rfl⟩)) (fun u H locs hw13 hP hS => ?_)
  have hw13 : p_wi y 0 4 = true := hw13
  refine lv_iload_n hx hb dX0_addOrder_16 rfl (lv_at hl 3 rfl) ?_
  refine lv_iconst (v := 0) hx hb dX0_addOrder_17 (by decide) ?_
  refine lv_iconst (v := 4) hx hb dX0_addOrder_18 (by decide) ?_
  refine w_prop0_v (vx_runS (As := [.int z, .int 0, .int 4]) (rest := []) ⟨hx, hb, hml, hown, hts⟩ (cx_X0_requireWithin l hfl G H.size z 0 4 ) (va_cwS 3 hts gX0_addOrder_X0_requireWithin rfl rfl rfl (by decide +kernel) ⟨(Nat.le_of_ble_eq_true rfl), (Nat.le_of_ble_eq_true rfl)⟩) ⟨wPreX_blind, w_preX (hK.sub [] rfl) w_P0 w_D0 (w_free0 hS hA) hS hZ⟩ rfl rfl hl.1 rfl (lv_room (Nat.le_of_ble_eq_true rfl)) dX0_addOrder_19 ⟨(Nat.le_of_ble_eq_true rfl), (Nat.le_of_ble_eq_true rfl)⟩) hK hP hD hS hA hno9 hlocks (Nat.le_of_ble_eq_true rfl) (Nat.le_of_ble_eq_true rfl) (fun E h => Or.inr (Or.inl ⟨h.1, by rw [hw2, hw7, hw13, h.2]; rfl⟩)) (fun u H locs hw19 hP hS => ?_)
  have hw19 : p_wi z 0 4 = true := hw19
  refine lv_aload_n hx hb dX0_addOrder_22 rfl (lv_at hl 0 rfl) ?_
  refine va_get (ci := 0) (v := .int (nI no)) (C := RX0) (T := TX0) (N := 16) hx hb hts hin hown hK hP 0 rfl rfl 12 (by decide) (hts (.fieldLink RX0 74 "CurfewDesk" "orderCount" "I") (by decide +kernel)) (fun _ h9 => h9) rfl dX0_addOrder_23 ?_
  refine lv_bipush (v := 10) hx hb dX0_addOrder_26 (by decide) ?_
  refine lv_icmp_lt (tgt := 41) hx hb dX0_addOrder_28 (by decide) (fun c28 => ?_) (fun c28 => ?_)
  · have q28 := (nI_ltI (a := no) (b := 10) (by omega) (by omega)).mp c28
    refine lv_aload_n hx hb dX0_addOrder_41 rfl (lv_at hl 0 rfl) ?_
    refine va_get (ci := 0) (v := .int (nI no)) (C := RX0) (T := TX0) (N := 16) hx hb hts hin hown hK hP 0 rfl rfl 12 (by decide) (hts (.fieldLink RX0 74 "CurfewDesk" "orderCount" "I") (by decide +kernel)) (fun _ h9 => h9) rfl dX0_addOrder_42 ?_
    refine lv_istore (lv' := [(5, .int (nI no)), (0, .ref h), (1, .int x), (2, .int y), (3, .int z), (4, .int v)]) hx hb dX0_addOrder_45 hl (by decide) rfl (fun ls hl => ?_)
    refine lv_aload_n hx hb dX0_addOrder_47 rfl (lv_at hl 1 rfl) ?_
    refine va_get (ci := 0) (v := .ref (a 0)) (C := RX0) (T := TX0) (N := 16) hx hb hts hin hown hK hP 0 rfl rfl 0 (by decide) (hts (.fieldLink RX0 9 "CurfewDesk" "orderQuarter" "[I") (by decide +kernel)) (fun _ h9 => h9) rfl dX0_addOrder_48 ?_
    refine lv_iload hx hb dX0_addOrder_51 (lv_at hl 0 rfl) ?_
    refine lv_iload_n hx hb dX0_addOrder_53 rfl (lv_at hl 2 rfl) ?_
    refine w_iast hx hb hK hP hD hS 1 0 rfl rfl (f := (F 0)) (j := no) (by omega) (by omega) dX0_addOrder_54 (fun H locs hP hD hS => ?_)
    have hP : va_P G vwCl (Dk cI cZ h a (va_up F 0 (upd (F 0) no x)) nq no np sh nw) H := hP
    have hD : va_D A (Dk cI cZ h a (va_up F 0 (upd (F 0) no x)) nq no np sh nw) := hD
    refine lv_aload_n hx hb dX0_addOrder_55 rfl (lv_at hl 1 rfl) ?_
    refine va_get (ci := 0) (v := .ref (a 1)) (C := RX0) (T := TX0) (N := 16) hx hb hts hin hown hK hP 0 rfl rfl 1 (by decide) (hts (.fieldLink RX0 13 "CurfewDesk" "orderAhead" "[I") (by decide +kernel)) (fun _ h9 => h9) rfl dX0_addOrder_56 ?_
    refine lv_iload hx hb dX0_addOrder_59 (lv_at hl 0 rfl) ?_
    refine lv_iload_n hx hb dX0_addOrder_61 rfl (lv_at hl 3 rfl) ?_
    refine w_iast hx hb hK hP hD hS 2 0 rfl rfl (f := (F 1)) (j := no) (by omega) (by omega) dX0_addOrder_62 (fun H locs hP hD hS => ?_)
    have hP : va_P G vwCl (Dk cI cZ h a (va_up (va_up F 0 (upd (F 0) no x)) 1 (upd (F 1) no y)) nq no np sh nw) H := hP
    have hD : va_D A (Dk cI cZ h a (va_up (va_up F 0 (upd (F 0) no x)) 1 (upd (F 1) no y)) nq no np sh nw) := hD
    refine lv_aload_n hx hb dX0_addOrder_63 rfl (lv_at hl 1 rfl) ?_
    refine va_get (ci := 0) (v := .ref (a 2)) (C := RX0) (T := TX0) (N := 16) hx hb hts hin hown hK hP 0 rfl rfl 2 (by decide) (hts (.fieldLink RX0 16 "CurfewDesk" "orderBehind" "[I") (by decide +kernel)) (fun _ h9 => h9) rfl dX0_addOrder_64 ?_
    refine lv_iload hx hb dX0_addOrder_67 (lv_at hl 0 rfl) ?_
    refine lv_iload_n hx hb dX0_addOrder_69 rfl (lv_at hl 4 rfl) ?_
    refine w_iast hx hb hK hP hD hS 3 0 rfl rfl (f := (F 2)) (j := no) (by omega) (by omega) dX0_addOrder_70 (fun H locs hP hD hS => ?_)
    have hP : va_P G vwCl (Dk cI cZ h a (va_up (va_up (va_up F 0 (upd (F 0) no x)) 1 (upd (F 1) no y)) 2 (upd (F 2) no z)) nq no np sh nw) H := hP
    have hD : va_D A (Dk cI cZ h a (va_up (va_up (va_up F 0 (upd (F 0) no x)) 1 (upd (F 1) no y)) 2 (upd (F 2) no z)) nq no np sh nw) := hD
    refine lv_aload_n hx hb dX0_addOrder_71 rfl (lv_at hl 1 rfl) ?_
    refine va_get (ci := 0) (v := .ref (a 3)) (C := RX0) (T := TX0) (N := 16) hx hb hts hin hown hK hP 0 rfl rfl 3 (by decide) (hts (.fieldLink RX0 19 "CurfewDesk" "orderColour" "[I") (by decide +kernel)) (fun _ h9 => h9) rfl dX0_addOrder_72 ?_
    refine lv_iload hx hb dX0_addOrder_75 (lv_at hl 0 rfl) ?_
    refine lv_iload hx hb dX0_addOrder_77 (lv_at hl 5 rfl) ?_
    refine w_iast hx hb hK hP hD hS 4 0 rfl rfl (f := (F 3)) (j := no) (by omega) (by omega) dX0_addOrder_79 (fun H locs hP hD hS => ?_)
    have hP : va_P G vwCl (Dk cI cZ h a (va_up (va_up (va_up (va_up F 0 (upd (F 0) no x)) 1 (upd (F 1) no y)) 2 (upd (F 2) no z)) 3 (upd (F 3) no v)) nq no np sh nw) H := hP
    have hD : va_D A (Dk cI cZ h a (va_up (va_up (va_up (va_up F 0 (upd (F 0) no x)) 1 (upd (F 1) no y)) 2 (upd (F 2) no z)) 3 (upd (F 3) no v)) nq no np sh nw) := hD
    refine lv_aload_n hx hb dX0_addOrder_80 rfl (lv_at hl 1 rfl) ?_
    refine va_get (ci := 0) (v := .ref (a 4)) (C := RX0) (T := TX0) (N := 16) hx hb hts hin hown hK hP 0 rfl rfl 4 (by decide) (hts (.fieldLink RX0 22 "CurfewDesk" "orderInForce" "[Z") (by decide +kernel)) (fun _ h9 => h9) rfl dX0_addOrder_81 ?_
    refine lv_iload hx hb dX0_addOrder_84 (lv_at hl 0 rfl) ?_
    refine lv_iconst (v := 1) hx hb dX0_addOrder_86 (by decide) ?_
    refine w_zast hx hb hK hP hD hS 5 1 rfl rfl (f := (F 4)) (j := no) (by omega) (by omega) (rfl) dX0_addOrder_87 (fun H locs hP hD hS => ?_)
    have hP : va_P G vwCl (Dk cI cZ h a (va_up (va_up (va_up (va_up (va_up F 0 (upd (F 0) no x)) 1 (upd (F 1) no y)) 2 (upd (F 2) no z)) 3 (upd (F 3) no v)) 4 (upd (F 4) no 1)) nq no np sh nw) H := hP
    have hD : va_D A (Dk cI cZ h a (va_up (va_up (va_up (va_up (va_up F 0 (upd (F 0) no x)) 1 (upd (F 1) no y)) 2 (upd (F 2) no z)) 3 (upd (F 3) no v)) 4 (upd (F 4) no 1)) nq no np sh nw) := hD
    refine lv_aload_n hx hb dX0_addOrder_88 rfl (lv_at hl 1 rfl) ?_
    refine lv_dup hx hb dX0_addOrder_89 rfl ?_
    refine va_get (ci := 0) (v := .int (nI no)) (C := RX0) (T := TX0) (N := 16) hx hb hts hin hown hK hP 0 rfl rfl 12 (by decide) (hts (.fieldLink RX0 74 "CurfewDesk" "orderCount" "I") (by decide +kernel)) (fun _ h9 => h9) rfl dX0_addOrder_90 ?_
    refine lv_iconst (v := 1) hx hb dX0_addOrder_93 (by decide) ?_
    refine lv_iadd hx hb dX0_addOrder_94 ?_
    rw [nI_1]
    refine va_put (ci := 0) (v := .int (nI (no + 1))) (ty := .int) (C := RX0) (T := TX0) (N := 16) hx hb hts hin tyX0 tyX0_ok nmX0 hown hK hP hD hS 0 rfl rfl 12 (by decide) (hts (.fieldLink RX0 74 "CurfewDesk" "orderCount" "I") (by decide +kernel)) (fun _ h9 => h9) rfl (by decide +kernel) rfl rfl (Nat.le_of_ble_eq_true rfl) dX0_addOrder_95 (fun H locs hP hD hS => ?_)
    have hP : va_P G vwCl (Dk cI cZ h a (va_up (va_up (va_up (va_up (va_up F 0 (upd (F 0) no x)) 1 (upd (F 1) no y)) 2 (upd (F 2) no z)) 3 (upd (F 3) no v)) 4 (upd (F 4) no 1)) nq (no + 1) np sh nw) H := hP
    have hD : va_D A (Dk cI cZ h a (va_up (va_up (va_up (va_up (va_up F 0 (upd (F 0) no x)) 1 (upd (F 1) no y)) 2 (upd (F 2) no z)) 3 (upd (F 3) no v)) 4 (upd (F 4) no 1)) nq (no + 1) np sh nw) := hD
    refine lv_iload hx hb dX0_addOrder_98 (lv_at hl 0 rfl) ?_
    refine vx_ret ?_
    exact w_iret () hx hb hr hlocks hK hP hD hS (Nat.le_of_ble_eq_true rfl) (Nat.le_of_ble_eq_true rfl) dX0_addOrder_100 (show k3 (p_in x nq && p_in v 4) (p_wi y 0 4 && p_wi z 0 4) (!decide (no = 10)) = 0 ∧ (nI no) = nI no from by exact ⟨by rw [hw2, hw7, hw13, hw19, decide_eq_false (show ¬ no = 10 by omega)]; rfl, rfl⟩)
  · have q28 := mt (nI_ltI (a := no) (b := 10) (by omega) (by omega)).mpr c28
    exact w_throw (own := RX0) (cls := "java/lang/IllegalStateException") (text := "the town has all its orders") (ik := 48) (is := 77) (ic := 52) hx hb hfl hts hown hlocks hno9 hZ hK hP hD hS (hl.1.trans hml.symm) (by decide +kernel) (by decide +kernel) (by decide +kernel) (by decide +kernel) rfl (by decide +kernel) (by decide +kernel) (by decide +kernel) (by decide +kernel) dX0_addOrder_31 dX0_addOrder_34 dX0_addOrder_35 dX0_addOrder_37 dX0_addOrder_40 (Nat.le_of_ble_eq_true rfl) (Nat.le_of_ble_eq_true rfl) (Nat.le_of_ble_eq_true rfl) (Nat.le_of_ble_eq_true rfl) (Nat.le_of_ble_eq_true rfl) (Nat.le_of_ble_eq_true rfl) (show ("java/lang/IllegalStateException" = "java/lang/IndexOutOfBoundsException" ∧ k3 (p_in x nq && p_in v 4) (p_wi y 0 4 && p_wi z 0 4) (!decide (no = 10)) = 1) ∨ ("java/lang/IllegalStateException" = "java/lang/IllegalArgumentException" ∧ k3 (p_in x nq && p_in v 4) (p_wi y 0 4 && p_wi z 0 4) (!decide (no = 10)) = 2) ∨ ("java/lang/IllegalStateException" = "java/lang/IllegalStateException" ∧ k3 (p_in x nq && p_in v 4) (p_wi y 0 4 && p_wi z 0 4) (!decide (no = 10)) = 3) from by exact Or.inr (Or.inr ⟨rfl, by rw [hw2, hw7, hw13, hw19, decide_eq_true (show no = 10 by omega)]; rfl⟩))
