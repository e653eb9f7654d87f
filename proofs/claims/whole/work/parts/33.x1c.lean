set_option maxHeartbeats 4000000 in
set_option maxRecDepth 100000 in
theorem c_X1_ordersAgainst (l : Launch) (G : va_G) (cI cZ : ClassId) (h : Nat) (a : Nat → Nat) (F : Nat → Nat → Int32) (nq no np : Nat) (sh nw : Int32) (th : Int32) (wt : Nat → Int32) (sz : Nat) (x : Int32) (y : Int32) (hnq : nq ≤ 6) (hno : no ≤ 10) (hnp : np ≤ 20) : Met l yX1_ordersAgainst wsX1_ordersAgainst ({ frames := 6, cells := 0, slots := 0, locals := 137 } : Room) (va_Pc [.ref h, .int x, .int y] (wPre G (ty2 cI cZ) (Mk cI cZ h a F nq no np sh nw th wt) sz)) (va_Qi (fun (r : Int32) (_ : Unit) => k1 (p_in x np && p_in y nq) = 0 → r = nI (p_ag F sh no x.toNatClampNeg y nw)) (fun _ => wP G (ty2 cI cZ) (Mk cI cZ h a F nq no np sh nw (k1 (p_in x np && p_in y nq)) wt) (va_A (Mk cI cZ h a F nq no np sh nw th wt) sz)) (va_A (Mk cI cZ h a F nq no np sh nw th wt) sz)) 0 0 (va_A (Mk cI cZ h a F nq no np sh nw th wt) sz) := by
  refine w_met (cc := cX1_ordersAgainst) (maxL := 3) (ret := (some .int)) (by decide) rfl (Nat.le_of_ble_eq_true rfl) ?_
  intro pg e s m below meth cd hx hb hml hr hts hown hlocks hnm hK hsz hP hD hA hS ls hl
  have hown : s.vm.findClass RX1 = some m.cls := hown
  have hin : ∀ w ∈ wsX10, w ∈ wsX1_ordersAgainst := by decide +kernel
  have hl : lv_has ls 3 [(0, .ref h), (1, .int x), (2, .int y)] := hl
  generalize hAe : va_A (Mk cI cZ h a F nq no np sh nw th wt) sz = A at hD hA hS ⊢
  refine lv_aload_n hx hb dX1_ordersAgainst_0 rfl (lv_at hl 0 rfl) ?_
  refine lv_iload_n hx hb dX1_ordersAgainst_1 rfl (lv_at hl 1 rfl) ?_
  refine lv_iload_n hx hb dX1_ordersAgainst_2 rfl (lv_at hl 2 rfl) ?_
  refine w_in_i (va_runV (As := [.int x, .int y]) (rest := []) ⟨hx, hb, hml, hown, hts⟩ (c_X1_isPair l G cI cZ h a F nq no np sh nw th wt s.heap.size x y (by omega) (by omega)) (cwV 2 hts gX1_ordersAgainst_X1_isPair rfl rfl rfl (by decide +kernel) ⟨(Nat.le_of_ble_eq_true rfl), (Nat.le_of_ble_eq_true rfl)⟩) ⟨wPre_blind, va_recv hK hP (ci := 1) (q0 := 0) rfl rfl, w_pre hK hP hD⟩ rfl rfl hl.1 rfl (lv_room (Nat.le_of_ble_eq_true rfl)) dX1_ordersAgainst_3 ⟨(Nat.le_of_ble_eq_true rfl), (Nat.le_of_ble_eq_true rfl)⟩) hD hS hA (fun r3 u3 H locs hw3 hP hD hS => ?_)
  have hP : va_P G vwCl (Mk cI cZ h a F nq no np sh nw (k1 (p_in x np && p_in y nq)) wt) H := hP
  have hD : va_D A (Mk cI cZ h a F nq no np sh nw (k1 (p_in x np && p_in y nq)) wt) := hD
  have hw3 : r3 = b2i (p_in x np && p_in y nq) := hw3
  subst hw3
  refine lv_if_eq (tgt := 22) hx hb dX1_ordersAgainst_6 (by decide) (fun c6 => ?_) (fun c6 => ?_)
  · have c6 := b2i_0.mp c6
    rw [c6] at hP hD
    have hP : va_P G vwCl (Mk cI cZ h a F nq no np sh nw 1 wt) H := hP
    have hD : va_D A (Mk cI cZ h a F nq no np sh nw 1 wt) := hD
    refine lv_iconst (v := 0) hx hb dX1_ordersAgainst_22 (by decide) ?_
    have hk : k1 (p_in x np && p_in y nq) = 1 := by rw [c6]; rfl
    have hP : va_P G vwCl (Mk cI cZ h a F nq no np sh nw (k1 (p_in x np && p_in y nq)) wt) H := by (simp only [hk, nx0, nx1, nx2, nx3]); exact hP
    have hD : va_D A (Mk cI cZ h a F nq no np sh nw (k1 (p_in x np && p_in y nq)) wt) := by (simp only [hk, nx0, nx1, nx2, nx3]); exact hD
    exact w_iret () hx hb hr hlocks hK hP hD hS (Nat.le_of_ble_eq_true rfl) (Nat.le_of_ble_eq_true rfl) dX1_ordersAgainst_23 (show k1 (p_in x np && p_in y nq) = 0 → 0 = nI (p_ag F sh no x.toNatClampNeg y nw) from by intro hh9; rw [hk] at hh9; exact absurd hh9 (by decide))
  · have c6 := b2i_1.mp c6
    obtain ⟨hA9, hB9⟩ := (Bool.and_eq_true_iff).mp c6
    obtain ⟨j, hj, rfl⟩ := pin_of hA9
    rw [c6] at hP hD
    have hP : va_P G vwCl (Mk cI cZ h a F nq no np sh nw 0 wt) H := hP
    have hD : va_D A (Mk cI cZ h a F nq no np sh nw 0 wt) := hD
    refine lv_aload_n hx hb dX1_ordersAgainst_9 rfl (lv_at hl 0 rfl) ?_
    refine lv_iload_n hx hb dX1_ordersAgainst_10 rfl (lv_at hl 1 rfl) ?_
    refine lv_iload_n hx hb dX1_ordersAgainst_11 rfl (lv_at hl 2 rfl) ?_
    refine lv_aload_n hx hb dX1_ordersAgainst_12 rfl (lv_at hl 0 rfl) ?_
    refine va_get (ci := 1) (v := .int nw) (C := RX1) (T := TX1) (N := 18) hx hb hts hin hown hK hP 0 rfl rfl 1 (by decide) (hts (.fieldLink RX1 122 "CurfewDeskModel" "time" "I") (by decide +kernel)) (fun _ h9 => h9) rfl dX1_ordersAgainst_13 ?_
    refine w_in_i (va_runV (As := [.int (nI j), .int y, .int nw]) (rest := []) ⟨hx, hb, hml, hown, hts⟩ (c_X1_against l G cI cZ h a F nq no np sh nw 0 wt H.size j y nw (by omega) (by omega)) (cwV 3 hts gX1_ordersAgainst_X1_against rfl rfl rfl (by decide +kernel) ⟨(Nat.le_of_ble_eq_true rfl), (Nat.le_of_ble_eq_true rfl)⟩) ⟨wPre_blind, va_recv hK hP (ci := 1) (q0 := 0) rfl rfl, w_pre hK hP hD⟩ rfl rfl hl.1 rfl (lv_room (Nat.le_of_ble_eq_true rfl)) dX1_ordersAgainst_16 ⟨(Nat.le_of_ble_eq_true rfl), (Nat.le_of_ble_eq_true rfl)⟩) hD hS hA (fun r16 u16 H locs hw16 hP hD hS => ?_)
    have hP : va_P G vwCl (Mk cI cZ h a F nq no np sh nw 0 wt) H := hP
    have hD : va_D A (Mk cI cZ h a F nq no np sh nw 0 wt) := hD
    have hw16 : r16 = nI (p_ag F sh no j y nw) := hw16
    subst hw16
    refine lv_goto (tgt := 23) hx hb dX1_ordersAgainst_19 (by decide) ?_
    have hk : k1 (p_in (nI j) np && p_in y nq) = 0 := by rw [c6]; rfl
    have hP : va_P G vwCl (Mk cI cZ h a F nq no np sh nw (k1 (p_in (nI j) np && p_in y nq)) wt) H := by (simp only [hk, nx0, nx1, nx2, nx3, nI_clamp (show j < 2 ^ 31 by omega)]); exact hP
    have hD : va_D A (Mk cI cZ h a F nq no np sh nw (k1 (p_in (nI j) np && p_in y nq)) wt) := by (simp only [hk, nx0, nx1, nx2, nx3, nI_clamp (show j < 2 ^ 31 by omega)]); exact hD
    exact w_iret () hx hb hr hlocks hK hP hD hS (Nat.le_of_ble_eq_true rfl) (Nat.le_of_ble_eq_true rfl) dX1_ordersAgainst_23 (show k1 (p_in (nI j) np && p_in y nq) = 0 → (nI (p_ag F sh no j y nw)) = nI (p_ag F sh no (nI j).toNatClampNeg y nw) from by intro _; simp only [nI_clamp (show j < 2 ^ 31 by omega)])
set_option maxHeartbeats 4000000 in
set_option maxRecDepth 100000 in
theorem c_X1_mayGo (l : Launch) (G : va_G) (cI cZ : ClassId) (h : Nat) (a : Nat → Nat) (F : Nat → Nat → Int32) (nq no np : Nat) (sh nw : Int32) (th : Int32) (wt : Nat → Int32) (sz : Nat) (x : Int32) (y : Int32) (hnq : nq ≤ 6) (hno : no ≤ 10) (hnp : np ≤ 20) (H3 : ∀ o, o < no → ∃ c, c < 4 ∧ F 3 o = nI c) : Met l yX1_mayGo wsX1_mayGo ({ frames := 6, cells := 0, slots := 0, locals := 136 } : Room) (va_Pc [.ref h, .int x, .int y] (wPre G (ty2 cI cZ) (Mk cI cZ h a F nq no np sh nw th wt) sz)) (va_Qi (fun (r : Int32) (_ : Nat → Int32) => k1 (p_in x np && p_in y nq) = 0 → r = b2i (decide (p_miss F sh no x.toNatClampNeg y nw (-1) = 0))) (fun u => wP G (ty2 cI cZ) (Mk cI cZ h a F nq no np sh nw (k1 (p_in x np && p_in y nq)) u) (va_A (Mk cI cZ h a F nq no np sh nw th wt) sz)) (va_A (Mk cI cZ h a F nq no np sh nw th wt) sz)) 0 0 (va_A (Mk cI cZ h a F nq no np sh nw th wt) sz) := by
  refine w_met (cc := cX1_mayGo) (maxL := 3) (ret := (some .boolean)) (by decide) rfl (Nat.le_of_ble_eq_true rfl) ?_
  intro pg e s m below meth cd hx hb hml hr hts hown hlocks hnm hK hsz hP hD hA hS ls hl
  have hown : s.vm.findClass RX1 = some m.cls := hown
  have hl : lv_has ls 3 [(0, .ref h), (1, .int x), (2, .int y)] := hl
  generalize hAe : va_A (Mk cI cZ h a F nq no np sh nw th wt) sz = A at hD hA hS ⊢
  refine lv_aload_n hx hb dX1_mayGo_0 rfl (lv_at hl 0 rfl) ?_
  refine lv_iload_n hx hb dX1_mayGo_1 rfl (lv_at hl 1 rfl) ?_
  refine lv_iload_n hx hb dX1_mayGo_2 rfl (lv_at hl 2 rfl) ?_
  refine w_in_i (va_runV (As := [.int x, .int y]) (rest := []) ⟨hx, hb, hml, hown, hts⟩ (c_X1_isPair l G cI cZ h a F nq no np sh nw th wt s.heap.size x y (by omega) (by omega)) (cwV 2 hts gX1_mayGo_X1_isPair rfl rfl rfl (by decide +kernel) ⟨(Nat.le_of_ble_eq_true rfl), (Nat.le_of_ble_eq_true rfl)⟩) ⟨wPre_blind, va_recv hK hP (ci := 1) (q0 := 0) rfl rfl, w_pre hK hP hD⟩ rfl rfl hl.1 rfl (lv_room (Nat.le_of_ble_eq_true rfl)) dX1_mayGo_3 ⟨(Nat.le_of_ble_eq_true rfl), (Nat.le_of_ble_eq_true rfl)⟩) hD hS hA (fun r3 u3 H locs hw3 hP hD hS => ?_)
  have hP : va_P G vwCl (Mk cI cZ h a F nq no np sh nw (k1 (p_in x np && p_in y nq)) wt) H := hP
  have hD : va_D A (Mk cI cZ h a F nq no np sh nw (k1 (p_in x np && p_in y nq)) wt) := hD
  have hw3 : r3 = b2i (p_in x np && p_in y nq) := hw3
  subst hw3
  refine lv_if_eq (tgt := 22) hx hb dX1_mayGo_6 (by decide) (fun c6 => ?_) (fun c6 => ?_)
  · have c6 := b2i_0.mp c6
    rw [c6] at hP hD
    have hP : va_P G vwCl (Mk cI cZ h a F nq no np sh nw 1 wt) H := hP
    have hD : va_D A (Mk cI cZ h a F nq no np sh nw 1 wt) := hD
    refine lv_iconst (v := 0) hx hb dX1_mayGo_22 (by decide) ?_
    have hk : k1 (p_in x np && p_in y nq) = 1 := by rw [c6]; rfl
    have hP : va_P G vwCl (Mk cI cZ h a F nq no np sh nw (k1 (p_in x np && p_in y nq)) wt) H := by (simp only [hk, nx0, nx1, nx2, nx3]); exact hP
    have hD : va_D A (Mk cI cZ h a F nq no np sh nw (k1 (p_in x np && p_in y nq)) wt) := by (simp only [hk, nx0, nx1, nx2, nx3]); exact hD
    exact w_zret wt hx hb hr hlocks hK hP hD hS (Nat.le_of_ble_eq_true rfl) (Nat.le_of_ble_eq_true rfl) dX1_mayGo_23 rfl (show k1 (p_in x np && p_in y nq) = 0 → 0 = b2i (decide (p_miss F sh no x.toNatClampNeg y nw (-1) = 0)) from by intro hh9; rw [hk] at hh9; exact absurd hh9 (by decide))
  · have c6 := b2i_1.mp c6
    obtain ⟨hA9, hB9⟩ := (Bool.and_eq_true_iff).mp c6
    obtain ⟨j, hj, rfl⟩ := pin_of hA9
    rw [c6] at hP hD
    have hP : va_P G vwCl (Mk cI cZ h a F nq no np sh nw 0 wt) H := hP
    have hD : va_D A (Mk cI cZ h a F nq no np sh nw 0 wt) := hD
    refine lv_aload_n hx hb dX1_mayGo_9 rfl (lv_at hl 0 rfl) ?_
    refine lv_iload_n hx hb dX1_mayGo_10 rfl (lv_at hl 1 rfl) ?_
    refine lv_iload_n hx hb dX1_mayGo_11 rfl (lv_at hl 2 rfl) ?_
    refine w_in_i (va_runV (As := [.int (nI j), .int y]) (rest := []) ⟨hx, hb, hml, hown, hts⟩ (c_X1_missing l G cI cZ h a F nq no np sh nw 0 wt H.size j y (by omega) (by omega) (H3)) (cwV 2 hts gX1_mayGo_X1_missing rfl rfl rfl (by decide +kernel) ⟨(Nat.le_of_ble_eq_true rfl), (Nat.le_of_ble_eq_true rfl)⟩) ⟨wPre_blind, va_recv hK hP (ci := 1) (q0 := 0) rfl rfl, w_pre hK hP hD⟩ rfl rfl hl.1 rfl (lv_room (Nat.le_of_ble_eq_true rfl)) dX1_mayGo_12 ⟨(Nat.le_of_ble_eq_true rfl), (Nat.le_of_ble_eq_true rfl)⟩) hD hS hA (fun r12 u12 H locs hw12 hP hD hS => ?_)
    have hP : va_P G vwCl (Mk cI cZ h a F nq no np sh nw 0 u12) H := hP
    have hD : va_D A (Mk cI cZ h a F nq no np sh nw 0 u12) := hD
    have hw12 : r12 = p_miss F sh no j y nw (-1) := hw12
    subst hw12
    refine w_selN (v1 := 1) (v2 := 0) hx hb dX1_mayGo_15 (by decide) dX1_mayGo_18 (by decide) dX1_mayGo_19 (by decide) dX1_mayGo_22 (by decide) ?_
    rw [b2i_nz]
    have hk : k1 (p_in (nI j) np && p_in y nq) = 0 := by rw [c6]; rfl
    have hP : va_P G vwCl (Mk cI cZ h a F nq no np sh nw (k1 (p_in (nI j) np && p_in y nq)) u12) H := by (simp only [hk, nx0, nx1, nx2, nx3, nI_clamp (show j < 2 ^ 31 by omega)]); exact hP
    have hD : va_D A (Mk cI cZ h a F nq no np sh nw (k1 (p_in (nI j) np && p_in y nq)) u12) := by (simp only [hk, nx0, nx1, nx2, nx3, nI_clamp (show j < 2 ^ 31 by omega)]); exact hD
    exact w_zret u12 hx hb hr hlocks hK hP hD hS (Nat.le_of_ble_eq_true rfl) (Nat.le_of_ble_eq_true rfl) dX1_mayGo_23 (b2i_n _) (show k1 (p_in (nI j) np && p_in y nq) = 0 → (b2i (decide (p_miss F sh no j y nw (-1) = 0))) = b2i (decide (p_miss F sh no (nI j).toNatClampNeg y nw (-1) = 0)) from by intro _; simp only [nI_clamp (show j < 2 ^ 31 by omega)])
set_option maxHeartbeats 4000000 in
set_option maxRecDepth 100000 in
theorem c_X1_stampsMissing (l : Launch) (G : va_G) (cI cZ : ClassId) (h : Nat) (a : Nat → Nat) (F : Nat → Nat → Int32) (nq no np : Nat) (sh nw : Int32) (th : Int32) (wt : Nat → Int32) (sz : Nat) (x : Int32) (y : Int32) (hnq : nq ≤ 6) (hno : no ≤ 10) (hnp : np ≤ 20) (H3 : ∀ o, o < no → ∃ c, c < 4 ∧ F 3 o = nI c) : Met l yX1_stampsMissing wsX1_stampsMissing ({ frames := 6, cells := 0, slots := 0, locals := 136 } : Room) (va_Pc [.ref h, .int x, .int y] (wPre G (ty2 cI cZ) (Mk cI cZ h a F nq no np sh nw th wt) sz)) (va_Qi (fun (r : Int32) (_ : Nat → Int32) => k1 (p_in x np && p_in y nq) = 0 → r = p_miss F sh no x.toNatClampNeg y nw (-1)) (fun u => wP G (ty2 cI cZ) (Mk cI cZ h a F nq no np sh nw (k1 (p_in x np && p_in y nq)) u) (va_A (Mk cI cZ h a F nq no np sh nw th wt) sz)) (va_A (Mk cI cZ h a F nq no np sh nw th wt) sz)) 0 0 (va_A (Mk cI cZ h a F nq no np sh nw th wt) sz) := by
  refine w_met (cc := cX1_stampsMissing) (maxL := 3) (ret := (some .int)) (by decide) rfl (Nat.le_of_ble_eq_true rfl) ?_
  intro pg e s m below meth cd hx hb hml hr hts hown hlocks hnm hK hsz hP hD hA hS ls hl
  have hown : s.vm.findClass RX1 = some m.cls := hown
  have hl : lv_has ls 3 [(0, .ref h), (1, .int x), (2, .int y)] := hl
  generalize hAe : va_A (Mk cI cZ h a F nq no np sh nw th wt) sz = A at hD hA hS ⊢
  refine lv_aload_n hx hb dX1_stampsMissing_0 rfl (lv_at hl 0 rfl) ?_
  refine lv_iload_n hx hb dX1_stampsMissing_1 rfl (lv_at hl 1 rfl) ?_
  refine lv_iload_n hx hb dX1_stampsMissing_2 rfl (lv_at hl 2 rfl) ?_
  refine w_in_i (va_runV (As := [.int x, .int y]) (rest := []) ⟨hx, hb, hml, hown, hts⟩ (c_X1_isPair l G cI cZ h a F nq no np sh nw th wt s.heap.size x y (by omega) (by omega)) (cwV 2 hts gX1_stampsMissing_X1_isPair rfl rfl rfl (by decide +kernel) ⟨(Nat.le_of_ble_eq_true rfl), (Nat.le_of_ble_eq_true rfl)⟩) ⟨wPre_blind, va_recv hK hP (ci := 1) (q0 := 0) rfl rfl, w_pre hK hP hD⟩ rfl rfl hl.1 rfl (lv_room (Nat.le_of_ble_eq_true rfl)) dX1_stampsMissing_3 ⟨(Nat.le_of_ble_eq_true rfl), (Nat.le_of_ble_eq_true rfl)⟩) hD hS hA (fun r3 u3 H locs hw3 hP hD hS => ?_)
  have hP : va_P G vwCl (Mk cI cZ h a F nq no np sh nw (k1 (p_in x np && p_in y nq)) wt) H := hP
  have hD : va_D A (Mk cI cZ h a F nq no np sh nw (k1 (p_in x np && p_in y nq)) wt) := hD
  have hw3 : r3 = b2i (p_in x np && p_in y nq) := hw3
  subst hw3
  refine lv_if_eq (tgt := 18) hx hb dX1_stampsMissing_6 (by decide) (fun c6 => ?_) (fun c6 => ?_)
  · have c6 := b2i_0.mp c6
    rw [c6] at hP hD
    have hP : va_P G vwCl (Mk cI cZ h a F nq no np sh nw 1 wt) H := hP
    have hD : va_D A (Mk cI cZ h a F nq no np sh nw 1 wt) := hD
    refine lv_iconst (v := 0) hx hb dX1_stampsMissing_18 (by decide) ?_
    have hk : k1 (p_in x np && p_in y nq) = 1 := by rw [c6]; rfl
    have hP : va_P G vwCl (Mk cI cZ h a F nq no np sh nw (k1 (p_in x np && p_in y nq)) wt) H := by (simp only [hk, nx0, nx1, nx2, nx3]); exact hP
    have hD : va_D A (Mk cI cZ h a F nq no np sh nw (k1 (p_in x np && p_in y nq)) wt) := by (simp only [hk, nx0, nx1, nx2, nx3]); exact hD
    exact w_iret wt hx hb hr hlocks hK hP hD hS (Nat.le_of_ble_eq_true rfl) (Nat.le_of_ble_eq_true rfl) dX1_stampsMissing_19 (show k1 (p_in x np && p_in y nq) = 0 → 0 = p_miss F sh no x.toNatClampNeg y nw (-1) from by intro hh9; rw [hk] at hh9; exact absurd hh9 (by decide))
  · have c6 := b2i_1.mp c6
    obtain ⟨hA9, hB9⟩ := (Bool.and_eq_true_iff).mp c6
    obtain ⟨j, hj, rfl⟩ := pin_of hA9
    rw [c6] at hP hD
    have hP : va_P G vwCl (Mk cI cZ h a F nq no np sh nw 0 wt) H := hP
    have hD : va_D A (Mk cI cZ h a F nq no np sh nw 0 wt) := hD
    refine lv_aload_n hx hb dX1_stampsMissing_9 rfl (lv_at hl 0 rfl) ?_
    refine lv_iload_n hx hb dX1_stampsMissing_10 rfl (lv_at hl 1 rfl) ?_
    refine lv_iload_n hx hb dX1_stampsMissing_11 rfl (lv_at hl 2 rfl) ?_
    refine w_in_i (va_runV (As := [.int (nI j), .int y]) (rest := []) ⟨hx, hb, hml, hown, hts⟩ (c_X1_missing l G cI cZ h a F nq no np sh nw 0 wt H.size j y (by omega) (by omega) (H3)) (cwV 2 hts gX1_stampsMissing_X1_missing rfl rfl rfl (by decide +kernel) ⟨(Nat.le_of_ble_eq_true rfl), (Nat.le_of_ble_eq_true rfl)⟩) ⟨wPre_blind, va_recv hK hP (ci := 1) (q0 := 0) rfl rfl, w_pre hK hP hD⟩ rfl rfl hl.1 rfl (lv_room (Nat.le_of_ble_eq_true rfl)) dX1_stampsMissing_12 ⟨(Nat.le_of_ble_eq_true rfl), (Nat.le_of_ble_eq_true rfl)⟩) hD hS hA (fun r12 u12 H locs hw12 hP hD hS => ?_)
    have hP : va_P G vwCl (Mk cI cZ h a F nq no np sh nw 0 u12) H := hP
    have hD : va_D A (Mk cI cZ h a F nq no np sh nw 0 u12) := hD
    have hw12 : r12 = p_miss F sh no j y nw (-1) := hw12
    subst hw12
    refine lv_goto (tgt := 19) hx hb dX1_stampsMissing_15 (by decide) ?_
    have hk : k1 (p_in (nI j) np && p_in y nq) = 0 := by rw [c6]; rfl
    have hP : va_P G vwCl (Mk cI cZ h a F nq no np sh nw (k1 (p_in (nI j) np && p_in y nq)) u12) H := by (simp only [hk, nx0, nx1, nx2, nx3, nI_clamp (show j < 2 ^ 31 by omega)]); exact hP
    have hD : va_D A (Mk cI cZ h a F nq no np sh nw (k1 (p_in (nI j) np && p_in y nq)) u12) := by (simp only [hk, nx0, nx1, nx2, nx3, nI_clamp (show j < 2 ^ 31 by omega)]); exact hD
    exact w_iret u12 hx hb hr hlocks hK hP hD hS (Nat.le_of_ble_eq_true rfl) (Nat.le_of_ble_eq_true rfl) dX1_stampsMissing_19 (show k1 (p_in (nI j) np && p_in y nq) = 0 → (p_miss F sh no j y nw (-1)) = p_miss F sh no (nI j).toNatClampNeg y nw (-1) from by intro _; simp only [nI_clamp (show j < 2 ^ 31 by omega)])
set_option maxHeartbeats 4000000 in
set_option maxRecDepth 100000 in
theorem c_X1_halfHoursUntilFree (l : Launch) (G : va_G) (cI cZ : ClassId) (h : Nat) (a : Nat → Nat) (F : Nat → Nat → Int32) (nq no np : Nat) (sh nw : Int32) (th : Int32) (wt : Nat → Int32) (sz : Nat) (x : Int32) (y : Int32) (hnq : nq ≤ 6) (hno : no ≤ 10) (hnp : np ≤ 20) : Met l yX1_halfHoursUntilFree wsX1_halfHoursUntilFree ({ frames := 6, cells := 0, slots := 0, locals := 137 } : Room) (va_Pc [.ref h, .int x, .int y] (wPre G (ty2 cI cZ) (Mk cI cZ h a F nq no np sh nw th wt) sz)) (va_Qi (fun (r : Int32) (_ : Unit) => k1 (p_in x np && p_in y nq) = 0 → r = a_hu F sh nw no x.toNatClampNeg y) (fun _ => wP G (ty2 cI cZ) (Mk cI cZ h a F nq no np sh nw (k1 (p_in x np && p_in y nq)) wt) (va_A (Mk cI cZ h a F nq no np sh nw th wt) sz)) (va_A (Mk cI cZ h a F nq no np sh nw th wt) sz)) 0 0 (va_A (Mk cI cZ h a F nq no np sh nw th wt) sz) := by
  refine w_met (cc := cX1_halfHoursUntilFree) (maxL := 4) (ret := (some .int)) (by decide) rfl (Nat.le_of_ble_eq_true rfl) ?_
  intro pg e s m below meth cd hx hb hml hr hts hown hlocks hnm hK hsz hP hD hA hS ls hl
  have hown : s.vm.findClass RX1 = some m.cls := hown
  have hin : ∀ w ∈ wsX10, w ∈ wsX1_halfHoursUntilFree := by decide +kernel
  have hl : lv_has ls 4 [(0, .ref h), (1, .int x), (2, .int y)] := hl
  generalize hAe : va_A (Mk cI cZ h a F nq no np sh nw th wt) sz = A at hD hA hS ⊢
  refine lv_aload_n hx hb dX1_halfHoursUntilFree_0 rfl (lv_at hl 0 rfl) ?_
  refine lv_iload_n hx hb dX1_halfHoursUntilFree_1 rfl (lv_at hl 1 rfl) ?_
  refine lv_iload_n hx hb dX1_halfHoursUntilFree_2 rfl (lv_at hl 2 rfl) ?_
  refine w_in_i (va_runV (As := [.int x, .int y]) (rest := []) ⟨hx, hb, hml, hown, hts⟩ (c_X1_isPair l G cI cZ h a F nq no np sh nw th wt s.heap.size x y (by omega) (by omega)) (cwV 2 hts gX1_halfHoursUntilFree_X1_isPair rfl rfl rfl (by decide +kernel) ⟨(Nat.le_of_ble_eq_true rfl), (Nat.le_of_ble_eq_true rfl)⟩) ⟨wPre_blind, va_recv hK hP (ci := 1) (q0 := 0) rfl rfl, w_pre hK hP hD⟩ rfl rfl hl.1 rfl (lv_room (Nat.le_of_ble_eq_true rfl)) dX1_halfHoursUntilFree_3 ⟨(Nat.le_of_ble_eq_true rfl), (Nat.le_of_ble_eq_true rfl)⟩) hD hS hA (fun r3 u3 H locs hw3 hP hD hS => ?_)
  have hP : va_P G vwCl (Mk cI cZ h a F nq no np sh nw (k1 (p_in x np && p_in y nq)) wt) H := hP
  have hD : va_D A (Mk cI cZ h a F nq no np sh nw (k1 (p_in x np && p_in y nq)) wt) := hD
  have hw3 : r3 = b2i (p_in x np && p_in y nq) := hw3
  subst hw3
  refine lv_if_ne (tgt := 11) hx hb dX1_halfHoursUntilFree_6 (by decide) (fun c6 => ?_) (fun c6 => ?_)
  · have c6 := b2i_1.mp c6
    obtain ⟨hA9, hB9⟩ := (Bool.and_eq_true_iff).mp c6
    obtain ⟨j, hj, rfl⟩ := pin_of hA9
    rw [c6] at hP hD
    have hP : va_P G vwCl (Mk cI cZ h a F nq no np sh nw 0 wt) H := hP
    have hD : va_D A (Mk cI cZ h a F nq no np sh nw 0 wt) := hD
    refine lv_iconst (v := 0) hx hb dX1_halfHoursUntilFree_11 (by decide) ?_
    refine lv_istore_n (lv' := [(3, .int 0), (0, .ref h), (1, .int (nI j)), (2, .int y)]) hx hb dX1_halfHoursUntilFree_12 rfl hl (by decide) rfl (fun ls hl => ?_)
    have key13 : ∀ (n i13 : Nat), i13 ≤ 49 → 49 < i13 + n → (p_ff (p_hP F sh nw no j y) 0 49 = p_ff (p_hP F sh nw no j y) i13 (49 - i13)) → ∀ (x3 : Int32), x3 = nI i13 → ∀ (H : Heap) (locs : List Loc), va_P G vwCl (Mk cI cZ h a F nq no np sh nw 0 wt) H → va_D A (Mk cI cZ h a F nq no np sh nw 0 wt) → va_S A s.heap H locs → ∀ ls : Array Slot, lv_has ls 4 [(0, .ref h), (1, .int (nI j)), (2, .int y), (3, .int x3)] → W pg l e ({ frames := 6, cells := 0, slots := 0, locals := 137 } : Room) s m ([.ref h, .int (nI j), .int y] : List Value).toArray below meth cd H locs (0 + 0) (0 + 0) (MQ below (va_Qi (fun (r : Int32) (_ : Unit) => k1 (p_in (nI j) np && p_in y nq) = 0 → r = a_hu F sh nw no (nI j).toNatClampNeg y) (fun _ => wP G (ty2 cI cZ) (Mk cI cZ h a F nq no np sh nw (k1 (p_in (nI j) np && p_in y nq)) wt) A) A) ([.ref h, .int (nI j), .int y] : List Value).toArray s 0 0 A) (F0 m 13 ls []) := by
      intro n
      induction n with
      | zero => intro i13 h1 h2; exact absurd h2 (by omega)
      | succ n ih13 =>
        intro i13 hi_i13 hn_i13 hv x3 e3 H locs hP hD hS ls hl
        subst e3
        refine lv_iload_n hx hb dX1_halfHoursUntilFree_13 rfl (lv_at hl 3 rfl) ?_
        refine lv_bipush (v := 48) hx hb dX1_halfHoursUntilFree_14 (by decide) ?_
        refine lv_icmp_gt (tgt := 42) hx hb dX1_halfHoursUntilFree_16 (by decide) (fun c16 => ?_) (fun c16 => ?_)
        · have c16 := (nI_ltI (a := 48) (b := i13) (by omega) (by omega)).mp c16
          have ei : 49 = i13 := by omega
          subst ei
          refine lv_iconst (v := (-1)) hx hb dX1_halfHoursUntilFree_42 (by decide) ?_
          have hk : k1 (p_in (nI j) np && p_in y nq) = 0 := by rw [c6]; rfl
          have hP : va_P G vwCl (Mk cI cZ h a F nq no np sh nw (k1 (p_in (nI j) np && p_in y nq)) wt) H := by (simp only [hk, nx0, nx1, nx2, nx3, nI_clamp (show j < 2 ^ 31 by omega)]); exact hP
          have hD : va_D A (Mk cI cZ h a F nq no np sh nw (k1 (p_in (nI j) np && p_in y nq)) wt) := by (simp only [hk, nx0, nx1, nx2, nx3, nI_clamp (show j < 2 ^ 31 by omega)]); exact hD
          exact w_iret () hx hb hr hlocks hK hP hD hS (Nat.le_of_ble_eq_true rfl) (Nat.le_of_ble_eq_true rfl) dX1_halfHoursUntilFree_43 (show k1 (p_in (nI j) np && p_in y nq) = 0 → (-1) = a_hu F sh nw no (nI j).toNatClampNeg y from by intro _; rw [a_hu, nI_clamp (show j < 2 ^ 31 by omega), hv]; rfl)
        · have c16 := mt (nI_ltI (a := 48) (b := i13) (by omega) (by omega)).mpr c16
          have hlt_i13 : i13 < 49 := by omega
          refine lv_aload_n hx hb dX1_halfHoursUntilFree_19 rfl (lv_at hl 0 rfl) ?_
          refine lv_iload_n hx hb dX1_halfHoursUntilFree_20 rfl (lv_at hl 1 rfl) ?_
          refine lv_iload_n hx hb dX1_halfHoursUntilFree_21 rfl (lv_at hl 2 rfl) ?_
          refine lv_aload_n hx hb dX1_halfHoursUntilFree_22 rfl (lv_at hl 0 rfl) ?_
          refine va_get (ci := 1) (v := .int nw) (C := RX1) (T := TX1) (N := 18) hx hb hts hin hown hK hP 0 rfl rfl 1 (by decide) (hts (.fieldLink RX1 122 "CurfewDeskModel" "time" "I") (by decide +kernel)) (fun _ h9 => h9) rfl dX1_halfHoursUntilFree_23 ?_
          refine lv_iload_n hx hb dX1_halfHoursUntilFree_26 rfl (lv_at hl 3 rfl) ?_
          refine lv_iadd hx hb dX1_halfHoursUntilFree_27 ?_
          refine w_in_i (va_runV (As := [.int (nI j), .int y, .int (nw + (nI i13))]) (rest := []) ⟨hx, hb, hml, hown, hts⟩ (c_X1_against l G cI cZ h a F nq no np sh nw 0 wt H.size j y (nw + (nI i13)) (by omega) (by omega)) (cwV 3 hts gX1_halfHoursUntilFree_X1_against rfl rfl rfl (by decide +kernel) ⟨(Nat.le_of_ble_eq_true rfl), (Nat.le_of_ble_eq_true rfl)⟩) ⟨wPre_blind, va_recv hK hP (ci := 1) (q0 := 0) rfl rfl, w_pre hK hP hD⟩ rfl rfl hl.1 rfl (lv_room (Nat.le_of_ble_eq_true rfl)) dX1_halfHoursUntilFree_28 ⟨(Nat.le_of_ble_eq_true rfl), (Nat.le_of_ble_eq_true rfl)⟩) hD hS hA (fun r28 u28 H locs hw28 hP hD hS => ?_)
          have hP : va_P G vwCl (Mk cI cZ h a F nq no np sh nw 0 wt) H := hP
          have hD : va_D A (Mk cI cZ h a F nq no np sh nw 0 wt) := hD
          have hw28 : r28 = nI (p_ag F sh no j y (nw + (nI i13))) := hw28
          subst hw28
          refine lv_if_ne (tgt := 36) hx hb dX1_halfHoursUntilFree_31 (by decide) (fun c31 => ?_) (fun c31 => ?_)
          · have c31 := mt (nI_eq (a := p_ag F sh no j y (nw + nI i13)) (b := 0) (by have := ct_le (fun o => p_bars F sh o j y (nw + nI i13)) no; unfold p_ag; omega) (by omega)).mpr c31
            refine lv_iinc (v := nI i13 + 1) (lv' := [(3, .int (nI i13 + 1)), (0, .ref h), (1, .int (nI j)), (2, .int y)]) hx hb dX1_halfHoursUntilFree_36 hl (k := 3) rfl rfl (by decide) rfl (fun ls hl => ?_)
            refine lv_goto (tgt := 13) hx hb dX1_halfHoursUntilFree_39 (by decide) ?_
            exact ih13 (i13 + 1) (by omega) (by omega) (by rw [hv]; exact ff_f hlt_i13 (by rw [p_hP]; exact decide_eq_false c31)) (nI i13 + 1) (by first | exact nI_1 _ | exact nct_t (by assumption) | exact nct_f (by assumption) | exact nct_b | rfl) _ _ hP hD hS _ (lv_sub hl [1, 2, 3, 0] rfl)
          · have c31 := (nI_eq (a := p_ag F sh no j y (nw + nI i13)) (b := 0) (by have := ct_le (fun o => p_bars F sh o j y (nw + nI i13)) no; unfold p_ag; omega) (by omega)).mp c31
            refine lv_iload_n hx hb dX1_halfHoursUntilFree_34 rfl (lv_at hl 3 rfl) ?_
            have hk : k1 (p_in (nI j) np && p_in y nq) = 0 := by rw [c6]; rfl
            have hP : va_P G vwCl (Mk cI cZ h a F nq no np sh nw (k1 (p_in (nI j) np && p_in y nq)) wt) H := by (simp only [hk, nx0, nx1, nx2, nx3, nI_clamp (show j < 2 ^ 31 by omega)]); exact hP
            have hD : va_D A (Mk cI cZ h a F nq no np sh nw (k1 (p_in (nI j) np && p_in y nq)) wt) := by (simp only [hk, nx0, nx1, nx2, nx3, nI_clamp (show j < 2 ^ 31 by omega)]); exact hD
            exact w_iret () hx hb hr hlocks hK hP hD hS (Nat.le_of_ble_eq_true rfl) (Nat.le_of_ble_eq_true rfl) dX1_halfHoursUntilFree_35 (show k1 (p_in (nI j) np && p_in y nq) = 0 → (nI i13) = a_hu F sh nw no (nI j).toNatClampNeg y from by intro _; rw [a_hu, nI_clamp (show j < 2 ^ 31 by omega), hv]; exact (ff_t hlt_i13 (by rw [p_hP]; exact decide_eq_true c31)).symm)
    exact key13 (49 + 1) 0 (by omega) (by omega) (by rfl) 0 (by first | rfl | simp [p_ct, p_sm, p_fl, p_fg, nI_0]) _ _ hP hD hS _ (lv_sub hl [1, 2, 3, 0] rfl)
  · have c6 := b2i_0.mp c6
    rw [c6] at hP hD
    have hP : va_P G vwCl (Mk cI cZ h a F nq no np sh nw 1 wt) H := hP
    have hD : va_D A (Mk cI cZ h a F nq no np sh nw 1 wt) := hD
    refine lv_iconst (v := 0) hx hb dX1_halfHoursUntilFree_9 (by decide) ?_
    have hk : k1 (p_in x np && p_in y nq) = 1 := by rw [c6]; rfl
    have hP : va_P G vwCl (Mk cI cZ h a F nq no np sh nw (k1 (p_in x np && p_in y nq)) wt) H := by (simp only [hk, nx0, nx1, nx2, nx3]); exact hP
    have hD : va_D A (Mk cI cZ h a F nq no np sh nw (k1 (p_in x np && p_in y nq)) wt) := by (simp only [hk, nx0, nx1, nx2, nx3]); exact hD
    exact w_iret () hx hb hr hlocks hK hP hD hS (Nat.le_of_ble_eq_true rfl) (Nat.le_of_ble_eq_true rfl) dX1_halfHoursUntilFree_10 (show k1 (p_in x np && p_in y nq) = 0 → 0 = a_hu F sh nw no x.toNatClampNeg y from by intro hh9; rw [hk] at hh9; exact absurd hh9 (by decide))
set_option maxHeartbeats 4000000 in
set_option maxRecDepth 100000 in
theorem c_X1_goOut (l : Launch) (G : va_G) (cI cZ : ClassId) (h : Nat) (a : Nat → Nat) (F : Nat → Nat → Int32) (nq no np : Nat) (sh nw : Int32) (th : Int32) (wt : Nat → Int32) (sz : Nat) (x : Int32) (y : Int32) (hnq : nq ≤ 6) (hno : no ≤ 10) (hnp : np ≤ 20) (H3 : ∀ o, o < no → ∃ c, c < 4 ∧ F 3 o = nI c) : Met l yX1_goOut wsX1_goOut ({ frames := 5, cells := 0, slots := 0, locals := 112 } : Room) (va_Pc [.ref h, .int x, .int y] (wPre G (ty2 cI cZ) (Mk cI cZ h a F nq no np sh nw th wt) sz)) (va_Qi (fun (r : Int32) (_ : Unit) => k1 (p_in x np && p_in y nq) = 0 → r = a_go F sh no x.toNatClampNeg y nw) (fun _ => wP G (ty2 cI cZ) (Mk cI cZ h a (nx (k1 (p_in x np && p_in y nq)) (n_go F sh no x.toNatClampNeg y nw) F) nq no np sh nw (k1 (p_in x np && p_in y nq)) wt) (va_A (Mk cI cZ h a F nq no np sh nw th wt) sz)) (va_A (Mk cI cZ h a F nq no np sh nw th wt) sz)) 0 0 (va_A (Mk cI cZ h a F nq no np sh nw th wt) sz) := by
  refine w_met (cc := cX1_goOut) (maxL := 6) (ret := (some .int)) (by decide) rfl (Nat.le_of_ble_eq_true rfl) ?_
  intro pg e s m below meth cd hx hb hml hr hts hown hlocks hnm hK hsz hP hD hA hS ls hl
  have hown : s.vm.findClass RX1 = some m.cls := hown
  have hin : ∀ w ∈ wsX10, w ∈ wsX1_goOut := by decide +kernel
  have hl : lv_has ls 6 [(0, .ref h), (1, .int x), (2, .int y)] := hl
  generalize hAe : va_A (Mk cI cZ h a F nq no np sh nw th wt) sz = A at hD hA hS ⊢
  refine lv_aload_n hx hb dX1_goOut_0 rfl (lv_at hl 0 rfl) ?_
  refine lv_iload_n hx hb dX1_goOut_1 rfl (lv_at hl 1 rfl) ?_
  refine lv_iload_n hx hb dX1_goOut_2 rfl (lv_at hl 2 rfl) ?_
  refine w_in_i (va_runV (As := [.int x, .int y]) (rest := []) ⟨hx, hb, hml, hown, hts⟩ (c_X1_isPair l G cI cZ h a F nq no np sh nw th wt s.heap.size x y (by omega) (by omega)) (cwV 2 hts gX1_goOut_X1_isPair rfl rfl rfl (by decide +kernel) ⟨(Nat.le_of_ble_eq_true rfl), (Nat.le_of_ble_eq_true rfl)⟩) ⟨wPre_blind, va_recv hK hP (ci := 1) (q0 := 0) rfl rfl, w_pre hK hP hD⟩ rfl rfl hl.1 rfl (lv_room (Nat.le_of_ble_eq_true rfl)) dX1_goOut_3 ⟨(Nat.le_of_ble_eq_true rfl), (Nat.le_of_ble_eq_true rfl)⟩) hD hS hA (fun r3 u3 H locs hw3 hP hD hS => ?_)
  have hP : va_P G vwCl (Mk cI cZ h a F nq no np sh nw (k1 (p_in x np && p_in y nq)) wt) H := hP
  have hD : va_D A (Mk cI cZ h a F nq no np sh nw (k1 (p_in x np && p_in y nq)) wt) := hD
  have hw3 : r3 = b2i (p_in x np && p_in y nq) := hw3
  subst hw3
  refine lv_if_ne (tgt := 11) hx hb dX1_goOut_6 (by decide) (fun c6 => ?_) (fun c6 => ?_)
  · have c6 := b2i_1.mp c6
    obtain ⟨hA9, hB9⟩ := (Bool.and_eq_true_iff).mp c6
    obtain ⟨j, hj, rfl⟩ := pin_of hA9
    rw [c6] at hP hD
    have hP : va_P G vwCl (Mk cI cZ h a F nq no np sh nw 0 wt) H := hP
    have hD : va_D A (Mk cI cZ h a F nq no np sh nw 0 wt) := hD
    refine lv_iconst (v := 0) hx hb dX1_goOut_11 (by decide) ?_
    refine lv_istore_n (lv' := [(3, .int 0), (0, .ref h), (1, .int (nI j)), (2, .int y)]) hx hb dX1_goOut_12 rfl hl (by decide) rfl (fun ls hl => ?_)
    refine lv_iconst (v := 0) hx hb dX1_goOut_13 (by decide) ?_
    refine lv_istore (lv' := [(4, .int 0), (3, .int 0), (0, .ref h), (1, .int (nI j)), (2, .int y)]) hx hb dX1_goOut_14 hl (by decide) rfl (fun ls hl => ?_)
    have key16 : ∀ (n i16 : Nat), i16 ≤ no → no < i16 + n → ∀ (x3 : Int32) (x4 : Int32), x3 = b2i ((p_go F sh j y nw i16).2) → x4 = nI i16 → ∀ (H : Heap) (locs : List Loc), va_P G vwCl (Mk cI cZ h a ((p_go F sh j y nw i16).1) nq no np sh nw 0 wt) H → va_D A (Mk cI cZ h a ((p_go F sh j y nw i16).1) nq no np sh nw 0 wt) → va_S A s.heap H locs → ∀ ls : Array Slot, lv_has ls 6 [(0, .ref h), (1, .int (nI j)), (2, .int y), (3, .int x3), (4, .int x4)] → W pg l e ({ frames := 5, cells := 0, slots := 0, locals := 112 } : Room) s m ([.ref h, .int (nI j), .int y] : List Value).toArray below meth cd H locs (0 + 0) (0 + 0) (MQ below (va_Qi (fun (r : Int32) (_ : Unit) => k1 (p_in (nI j) np && p_in y nq) = 0 → r = a_go F sh no (nI j).toNatClampNeg y nw) (fun _ => wP G (ty2 cI cZ) (Mk cI cZ h a (nx (k1 (p_in (nI j) np && p_in y nq)) (n_go F sh no (nI j).toNatClampNeg y nw) F) nq no np sh nw (k1 (p_in (nI j) np && p_in y nq)) wt) A) A) ([.ref h, .int (nI j), .int y] : List Value).toArray s 0 0 A) (F0 m 16 ls []) := by
      intro n
      induction n with
      | zero => intro i16 h1 h2; exact absurd h2 (by omega)
      | succ n ih16 =>
        intro i16 hi_i16 hn_i16 x3 x4 e3 e4 H locs hP hD hS ls hl
        subst e3 e4
        refine lv_iload hx hb dX1_goOut_16 (lv_at hl 4 rfl) ?_
        refine lv_aload_n hx hb dX1_goOut_18 rfl (lv_at hl 0 rfl) ?_
        refine va_get (ci := 1) (v := .int (nI no)) (C := RX1) (T := TX1) (N := 18) hx hb hts hin hown hK hP 0 rfl rfl 4 (by decide) (hts (.fieldLink RX1 58 "CurfewDeskModel" "orders" "I") (by decide +kernel)) (fun _ h9 => h9) rfl dX1_goOut_19 ?_
        refine lv_icmp_ge (tgt := 104) hx hb dX1_goOut_22 (by decide) (fun c22 => ?_) (fun c22 => ?_)
        · have c22 := (nI_leI (a := no) (b := i16) (by omega) (by omega)).mp c22
          have ei : no = i16 := by omega
          subst ei
          refine lv_iload_n hx hb dX1_goOut_104 rfl (lv_at hl 3 rfl) ?_
          refine lv_if_ne (tgt := 110) hx hb dX1_goOut_105 (by decide) (fun c105 => ?_) (fun c105 => ?_)
          · have c105 := b2i_1.mp c105
            refine lv_aload_n hx hb dX1_goOut_110 rfl (lv_at hl 0 rfl) ?_
            refine va_get (ci := 1) (v := .ref (a 7)) (C := RX1) (T := TX1) (N := 18) hx hb hts hin hown hK hP 0 rfl rfl 13 (by decide) (hts (.fieldLink RX1 32 "CurfewDeskModel" "fined" "[I") (by decide +kernel)) (fun _ h9 => h9) rfl dX1_goOut_111 ?_
            refine lv_iload_n hx hb dX1_goOut_114 rfl (lv_at hl 1 rfl) ?_
            refine lv_dup2_11 hx hb dX1_goOut_115 rfl rfl ?_
            refine w_iald hx hb hK hP 8 0 rfl rfl (f := (((p_go F sh j y nw no).1) 7)) (j := j) (by omega) (by omega) dX1_goOut_116 ?_
            refine lv_iconst (v := 1) hx hb dX1_goOut_117 (by decide) ?_
            refine lv_iadd hx hb dX1_goOut_118 ?_
            refine w_iast hx hb hK hP hD hS 8 0 rfl rfl (f := (((p_go F sh j y nw no).1) 7)) (j := j) (by omega) (by omega) dX1_goOut_119 (fun H locs hP hD hS => ?_)
            have hP : va_P G vwCl (Mk cI cZ h a (va_up ((p_go F sh j y nw no).1) 7 (upd (((p_go F sh j y nw no).1) 7) j (((((p_go F sh j y nw no).1) 7) j) + 1))) nq no np sh nw 0 wt) H := hP
            have hD : va_D A (Mk cI cZ h a (va_up ((p_go F sh j y nw no).1) 7 (upd (((p_go F sh j y nw no).1) 7) j (((((p_go F sh j y nw no).1) 7) j) + 1))) nq no np sh nw 0 wt) := hD
            refine lv_aload_n hx hb dX1_goOut_120 rfl (lv_at hl 0 rfl) ?_
            refine va_get (ci := 1) (v := .ref (a 8)) (C := RX1) (T := TX1) (N := 18) hx hb hts hin hown hK hP 0 rfl rfl 14 (by decide) (hts (.fieldLink RX1 35 "CurfewDeskModel" "debt" "[I") (by decide +kernel)) (fun _ h9 => h9) rfl dX1_goOut_121 ?_
            refine lv_iload_n hx hb dX1_goOut_124 rfl (lv_at hl 1 rfl) ?_
            refine lv_dup2_11 hx hb dX1_goOut_125 rfl rfl ?_
            refine w_iald hx hb hK hP 9 0 rfl rfl (f := (((p_go F sh j y nw no).1) 8)) (j := j) (by omega) (by omega) dX1_goOut_126 ?_
            refine lv_bipush (v := 10) hx hb dX1_goOut_127 (by decide) ?_
            refine lv_aload_n hx hb dX1_goOut_129 rfl (lv_at hl 0 rfl) ?_
            refine va_get (ci := 1) (v := .ref (a 7)) (C := RX1) (T := TX1) (N := 18) hx hb hts hin hown hK hP 0 rfl rfl 13 (by decide) (hts (.fieldLink RX1 32 "CurfewDeskModel" "fined" "[I") (by decide +kernel)) (fun _ h9 => h9) rfl dX1_goOut_130 ?_
            refine lv_iload_n hx hb dX1_goOut_133 rfl (lv_at hl 1 rfl) ?_
            refine w_iald hx hb hK hP 8 0 rfl rfl (f := (upd (((p_go F sh j y nw no).1) 7) j (((((p_go F sh j y nw no).1) 7) j) + 1))) (j := j) (by omega) (by omega) dX1_goOut_134 ?_
            rw [pk_us]
            refine lv_imul hx hb dX1_goOut_135 ?_
            refine lv_iadd hx hb dX1_goOut_136 ?_
            refine w_iast hx hb hK hP hD hS 9 0 rfl rfl (f := (((p_go F sh j y nw no).1) 8)) (j := j) (by omega) (by omega) dX1_goOut_137 (fun H locs hP hD hS => ?_)
            have hP : va_P G vwCl (Mk cI cZ h a (va_up (va_up ((p_go F sh j y nw no).1) 7 (upd (((p_go F sh j y nw no).1) 7) j (((((p_go F sh j y nw no).1) 7) j) + 1))) 8 (upd (((p_go F sh j y nw no).1) 8) j (((((p_go F sh j y nw no).1) 8) j) + (10 * (((((p_go F sh j y nw no).1) 7) j) + 1))))) nq no np sh nw 0 wt) H := hP
            have hD : va_D A (Mk cI cZ h a (va_up (va_up ((p_go F sh j y nw no).1) 7 (upd (((p_go F sh j y nw no).1) 7) j (((((p_go F sh j y nw no).1) 7) j) + 1))) 8 (upd (((p_go F sh j y nw no).1) 8) j (((((p_go F sh j y nw no).1) 8) j) + (10 * (((((p_go F sh j y nw no).1) 7) j) + 1))))) nq no np sh nw 0 wt) := hD
            refine lv_bipush (v := 10) hx hb dX1_goOut_138 (by decide) ?_
            refine lv_aload_n hx hb dX1_goOut_140 rfl (lv_at hl 0 rfl) ?_
            refine va_get (ci := 1) (v := .ref (a 7)) (C := RX1) (T := TX1) (N := 18) hx hb hts hin hown hK hP 0 rfl rfl 13 (by decide) (hts (.fieldLink RX1 32 "CurfewDeskModel" "fined" "[I") (by decide +kernel)) (fun _ h9 => h9) rfl dX1_goOut_141 ?_
            refine lv_iload_n hx hb dX1_goOut_144 rfl (lv_at hl 1 rfl) ?_
            refine w_iald hx hb hK hP 8 0 rfl rfl (f := (upd (((p_go F sh j y nw no).1) 7) j (((((p_go F sh j y nw no).1) 7) j) + 1))) (j := j) (by omega) (by omega) dX1_goOut_145 ?_
            rw [pk_us]
            refine lv_imul hx hb dX1_goOut_146 ?_
            have hk : k1 (p_in (nI j) np && p_in y nq) = 0 := by rw [c6]; rfl
            have hP : va_P G vwCl (Mk cI cZ h a (nx (k1 (p_in (nI j) np && p_in y nq)) (n_go F sh no (nI j).toNatClampNeg y nw) F) nq no np sh nw (k1 (p_in (nI j) np && p_in y nq)) wt) H := by (simp only [hk, nx0, nI_clamp (show j < 2 ^ 31 by omega)]; first | rw [n_go, if_pos c105] | rw [n_go, if_neg (by rw [c105]; decide)]); exact hP
            have hD : va_D A (Mk cI cZ h a (nx (k1 (p_in (nI j) np && p_in y nq)) (n_go F sh no (nI j).toNatClampNeg y nw) F) nq no np sh nw (k1 (p_in (nI j) np && p_in y nq)) wt) := by (simp only [hk, nx0, nI_clamp (show j < 2 ^ 31 by omega)]; first | rw [n_go, if_pos c105] | rw [n_go, if_neg (by rw [c105]; decide)]); exact hD
            exact w_iret () hx hb hr hlocks hK hP hD hS (Nat.le_of_ble_eq_true rfl) (Nat.le_of_ble_eq_true rfl) dX1_goOut_147 (show k1 (p_in (nI j) np && p_in y nq) = 0 → (10 * (((((p_go F sh j y nw no).1) 7) j) + 1)) = a_go F sh no (nI j).toNatClampNeg y nw from by intro _; first | (rw [nI_clamp (show j < 2 ^ 31 by omega), a_go, if_pos c105, go_keep F sh j y nw 7 (by decide) (by decide) no]; done) | (rw [nI_clamp (show j < 2 ^ 31 by omega), a_go, if_neg (by rw [c105]; decide)]; done))
          · have c105 := b2i_0.mp c105
            refine lv_iconst (v := 0) hx hb dX1_goOut_108 (by decide) ?_
            have hk : k1 (p_in (nI j) np && p_in y nq) = 0 := by rw [c6]; rfl
            have hP : va_P G vwCl (Mk cI cZ h a (nx (k1 (p_in (nI j) np && p_in y nq)) (n_go F sh no (nI j).toNatClampNeg y nw) F) nq no np sh nw (k1 (p_in (nI j) np && p_in y nq)) wt) H := by (simp only [hk, nx0, nI_clamp (show j < 2 ^ 31 by omega)]; first | rw [n_go, if_pos c105] | rw [n_go, if_neg (by rw [c105]; decide)]); exact hP
            have hD : va_D A (Mk cI cZ h a (nx (k1 (p_in (nI j) np && p_in y nq)) (n_go F sh no (nI j).toNatClampNeg y nw) F) nq no np sh nw (k1 (p_in (nI j) np && p_in y nq)) wt) := by (simp only [hk, nx0, nI_clamp (show j < 2 ^ 31 by omega)]; first | rw [n_go, if_pos c105] | rw [n_go, if_neg (by rw [c105]; decide)]); exact hD
            exact w_iret () hx hb hr hlocks hK hP hD hS (Nat.le_of_ble_eq_true rfl) (Nat.le_of_ble_eq_true rfl) dX1_goOut_109 (show k1 (p_in (nI j) np && p_in y nq) = 0 → 0 = a_go F sh no (nI j).toNatClampNeg y nw from by intro _; first | (rw [nI_clamp (show j < 2 ^ 31 by omega), a_go, if_pos c105, go_keep F sh j y nw 7 (by decide) (by decide) no]; done) | (rw [nI_clamp (show j < 2 ^ 31 by omega), a_go, if_neg (by rw [c105]; decide)]; done))
        · have c22 := mt (nI_leI (a := no) (b := i16) (by omega) (by omega)).mpr c22
          have hlt_i16 : i16 < no := by omega
          refine lv_aload_n hx hb dX1_goOut_25 rfl (lv_at hl 0 rfl) ?_
          refine lv_iload hx hb dX1_goOut_26 (lv_at hl 4 rfl) ?_
          refine lv_iload_n hx hb dX1_goOut_28 rfl (lv_at hl 1 rfl) ?_
          refine lv_iload_n hx hb dX1_goOut_29 rfl (lv_at hl 2 rfl) ?_
          refine lv_aload_n hx hb dX1_goOut_30 rfl (lv_at hl 0 rfl) ?_
          refine va_get (ci := 1) (v := .int nw) (C := RX1) (T := TX1) (N := 18) hx hb hts hin hown hK hP 0 rfl rfl 1 (by decide) (hts (.fieldLink RX1 122 "CurfewDeskModel" "time" "I") (by decide +kernel)) (fun _ h9 => h9) rfl dX1_goOut_31 ?_
          refine w_in_i (va_runV (As := [.int (nI i16), .int (nI j), .int y, .int nw]) (rest := []) ⟨hx, hb, hml, hown, hts⟩ (c_X1_barsAt l G cI cZ h a ((p_go F sh j y nw i16).1) nq no np sh nw 0 wt H.size i16 j y nw (by omega) (by omega)) (cwV 4 hts gX1_goOut_X1_barsAt rfl rfl rfl (by decide +kernel) ⟨(Nat.le_of_ble_eq_true rfl), (Nat.le_of_ble_eq_true rfl)⟩) ⟨wPre_blind, va_recv hK hP (ci := 1) (q0 := 0) rfl rfl, w_pre hK hP hD⟩ rfl rfl hl.1 rfl (lv_room (Nat.le_of_ble_eq_true rfl)) dX1_goOut_34 ⟨(Nat.le_of_ble_eq_true rfl), (Nat.le_of_ble_eq_true rfl)⟩) hD hS hA (fun r34 u34 H locs hw34 hP hD hS => ?_)
          have hP : va_P G vwCl (Mk cI cZ h a ((p_go F sh j y nw i16).1) nq no np sh nw 0 wt) H := hP
          have hD : va_D A (Mk cI cZ h a ((p_go F sh j y nw i16).1) nq no np sh nw 0 wt) := hD
          have hw34 : r34 = b2i (p_bars ((p_go F sh j y nw i16).1) sh i16 j y nw) := hw34
          subst hw34
          rw [bars_cong (fun k h9 h10 => go_keep F sh j y nw k h9 h10 i16)]
          refine lv_if_ne (tgt := 43) hx hb dX1_goOut_37 (by decide) (fun c37 => ?_) (fun c37 => ?_)
          · have c37 := b2i_1.mp c37
            refine lv_iconst (v := 4) hx hb dX1_goOut_43 (by decide) ?_
            refine lv_iload_n hx hb dX1_goOut_44 rfl (lv_at hl 1 rfl) ?_
            refine lv_imul hx hb dX1_goOut_45 ?_
            refine lv_aload_n hx hb dX1_goOut_46 rfl (lv_at hl 0 rfl) ?_
            refine va_get (ci := 1) (v := .ref (a 3)) (C := RX1) (T := TX1) (N := 18) hx hb hts hin hown hK hP 0 rfl rfl 9 (by decide) (hts (.fieldLink RX1 19 "CurfewDeskModel" "colour" "[I") (by decide +kernel)) (fun _ h9 => h9) rfl dX1_goOut_47 ?_
            refine lv_iload hx hb dX1_goOut_50 (lv_at hl 4 rfl) ?_
            refine w_iald hx hb hK hP 4 0 rfl rfl (f := (((p_go F sh j y nw i16).1) 3)) (j := i16) (by omega) (by omega) dX1_goOut_52 ?_
            rw [go_keep F sh j y nw 3 (by decide) (by decide) i16]
            obtain ⟨k, hk, ek⟩ := H3 i16 hlt_i16
            rw [ek]
            refine lv_iadd hx hb dX1_goOut_53 ?_
            rw [pl_eq]
            refine lv_istore (lv' := [(5, .int (nI (j * 4 + k))), (0, .ref h), (1, .int (nI j)), (2, .int y), (3, .int (b2i ((p_go F sh j y nw i16).2))), (4, .int (nI i16))]) hx hb dX1_goOut_54 hl (by decide) rfl (fun ls hl => ?_)
            refine lv_aload_n hx hb dX1_goOut_56 rfl (lv_at hl 1 rfl) ?_
            refine va_get (ci := 1) (v := .ref (a 9)) (C := RX1) (T := TX1) (N := 18) hx hb hts hin hown hK hP 0 rfl rfl 15 (by decide) (hts (.fieldLink RX1 38 "CurfewDeskModel" "stamps" "[I") (by decide +kernel)) (fun _ h9 => h9) rfl dX1_goOut_57 ?_
            refine lv_iload hx hb dX1_goOut_60 (lv_at hl 0 rfl) ?_
            refine w_iald hx hb hK hP 10 0 rfl rfl (f := (((p_go F sh j y nw i16).1) 9)) (j := (j * 4 + k)) (by omega) (by omega) dX1_goOut_62 ?_
            refine lv_if_ne (tgt := 71) hx hb dX1_goOut_63 (by decide) (fun c63 => ?_) (fun c63 => ?_)
            · refine lv_aload_n hx hb dX1_goOut_71 rfl (lv_at hl 1 rfl) ?_
              refine va_get (ci := 1) (v := .ref (a 9)) (C := RX1) (T := TX1) (N := 18) hx hb hts hin hown hK hP 0 rfl rfl 15 (by decide) (hts (.fieldLink RX1 38 "CurfewDeskModel" "stamps" "[I") (by decide +kernel)) (fun _ h9 => h9) rfl dX1_goOut_72 ?_
              refine lv_iload hx hb dX1_goOut_75 (lv_at hl 0 rfl) ?_
              refine lv_dup2_11 hx hb dX1_goOut_77 rfl rfl ?_
              refine w_iald hx hb hK hP 10 0 rfl rfl (f := (((p_go F sh j y nw i16).1) 9)) (j := (j * 4 + k)) (by omega) (by omega) dX1_goOut_78 ?_
              refine lv_iconst (v := 1) hx hb dX1_goOut_79 (by decide) ?_
              refine lv_isub hx hb dX1_goOut_80 ?_
              refine w_iast hx hb hK hP hD hS 10 0 rfl rfl (f := (((p_go F sh j y nw i16).1) 9)) (j := (j * 4 + k)) (by omega) (by omega) dX1_goOut_81 (fun H locs hP hD hS => ?_)
              have hP : va_P G vwCl (Mk cI cZ h a (va_up ((p_go F sh j y nw i16).1) 9 (upd (((p_go F sh j y nw i16).1) 9) (j * 4 + k) (((((p_go F sh j y nw i16).1) 9) (j * 4 + k)) - 1))) nq no np sh nw 0 wt) H := hP
              have hD : va_D A (Mk cI cZ h a (va_up ((p_go F sh j y nw i16).1) 9 (upd (((p_go F sh j y nw i16).1) 9) (j * 4 + k) (((((p_go F sh j y nw i16).1) 9) (j * 4 + k)) - 1))) nq no np sh nw 0 wt) := hD
              refine lv_aload_n hx hb dX1_goOut_82 rfl (lv_at hl 1 rfl) ?_
              refine va_get (ci := 1) (v := .ref (a 10)) (C := RX1) (T := TX1) (N := 18) hx hb hts hin hown hK hP 0 rfl rfl 16 (by decide) (hts (.fieldLink RX1 41 "CurfewDeskModel" "used" "[I") (by decide +kernel)) (fun _ h9 => h9) rfl dX1_goOut_83 ?_
              refine lv_aload_n hx hb dX1_goOut_86 rfl (lv_at hl 1 rfl) ?_
              refine va_get (ci := 1) (v := .ref (a 3)) (C := RX1) (T := TX1) (N := 18) hx hb hts hin hown hK hP 0 rfl rfl 9 (by decide) (hts (.fieldLink RX1 19 "CurfewDeskModel" "colour" "[I") (by decide +kernel)) (fun _ h9 => h9) rfl dX1_goOut_87 ?_
              refine lv_iload hx hb dX1_goOut_90 (lv_at hl 5 rfl) ?_
              refine w_iald hx hb hK hP 4 0 rfl rfl (f := (((p_go F sh j y nw i16).1) 3)) (j := i16) (by omega) (by omega) dX1_goOut_92 ?_
              rw [go_keep F sh j y nw 3 (by decide) (by decide) i16, ek]
              refine lv_dup2_11 hx hb dX1_goOut_93 rfl rfl ?_
              refine w_iald hx hb hK hP 11 0 rfl rfl (f := (((p_go F sh j y nw i16).1) 10)) (j := k) (by omega) (by omega) dX1_goOut_94 ?_
              refine lv_iconst (v := 1) hx hb dX1_goOut_95 (by decide) ?_
              refine lv_iadd hx hb dX1_goOut_96 ?_
              refine w_iast hx hb hK hP hD hS 11 0 rfl rfl (f := (((p_go F sh j y nw i16).1) 10)) (j := k) (by omega) (by omega) dX1_goOut_97 (fun H locs hP hD hS => ?_)
              have hP : va_P G vwCl (Mk cI cZ h a (va_up (va_up ((p_go F sh j y nw i16).1) 9 (upd (((p_go F sh j y nw i16).1) 9) (j * 4 + k) (((((p_go F sh j y nw i16).1) 9) (j * 4 + k)) - 1))) 10 (upd (((p_go F sh j y nw i16).1) 10) k (((((p_go F sh j y nw i16).1) 10) k) + 1))) nq no np sh nw 0 wt) H := hP
              have hD : va_D A (Mk cI cZ h a (va_up (va_up ((p_go F sh j y nw i16).1) 9 (upd (((p_go F sh j y nw i16).1) 9) (j * 4 + k) (((((p_go F sh j y nw i16).1) 9) (j * 4 + k)) - 1))) 10 (upd (((p_go F sh j y nw i16).1) 10) k (((((p_go F sh j y nw i16).1) 10) k) + 1))) nq no np sh nw 0 wt) := hD
              refine lv_iinc (v := nI i16 + 1) (lv' := [(4, .int (nI i16 + 1)), (5, .int (nI (j * 4 + k))), (0, .ref h), (1, .int (nI j)), (2, .int y), (3, .int (b2i ((p_go F sh j y nw i16).2)))]) hx hb dX1_goOut_98 hl (k := 5) rfl rfl (by decide) rfl (fun ls hl => ?_)
              refine lv_goto (tgt := 16) hx hb dX1_goOut_101 (by decide) ?_
              have eG : p_go F sh j y nw (i16 + 1) = (p_us (p_go F sh j y nw i16).1 j k, (p_go F sh j y nw i16).2 || decide ((p_go F sh j y nw i16).1 9 (j * 4 + k) = 0)) := by rw [p_go, if_pos c37, ek, nI_clamp (show k < 2 ^ 31 by omega)]
              have hP : va_P G vwCl (Mk cI cZ h a (p_go F sh j y nw (i16 + 1)).1 nq no np sh nw 0 wt) H := by rw [eG, p_us, if_neg c63]; exact hP
              have hD : va_D A (Mk cI cZ h a (p_go F sh j y nw (i16 + 1)).1 nq no np sh nw 0 wt) := by rw [eG, p_us, if_neg c63]; exact hD
              exact ih16 (i16 + 1) (by omega) (by omega) (b2i ((p_go F sh j y nw i16).2)) (nI i16 + 1) (by rw [eG, decide_eq_false c63, Bool.or_false]) (by first | exact nI_1 _ | exact nct_t (by assumption) | exact nct_f (by assumption) | exact nct_b | rfl) _ _ hP hD hS _ (lv_sub hl [2, 3, 4, 5, 0] rfl)
            · refine lv_iconst (v := 1) hx hb dX1_goOut_66 (by decide) ?_
              refine lv_istore_n (lv' := [(3, .int 1), (5, .int (nI (j * 4 + k))), (0, .ref h), (1, .int (nI j)), (2, .int y), (4, .int (nI i16))]) hx hb dX1_goOut_67 rfl hl (by decide) rfl (fun ls hl => ?_)
              refine lv_goto (tgt := 98) hx hb dX1_goOut_68 (by decide) ?_
              refine lv_iinc (v := nI i16 + 1) (lv' := [(4, .int (nI i16 + 1)), (3, .int 1), (5, .int (nI (j * 4 + k))), (0, .ref h), (1, .int (nI j)), (2, .int y)]) hx hb dX1_goOut_98 hl (k := 5) rfl rfl (by decide) rfl (fun ls hl => ?_)
              refine lv_goto (tgt := 16) hx hb dX1_goOut_101 (by decide) ?_
              have eG : p_go F sh j y nw (i16 + 1) = (p_us (p_go F sh j y nw i16).1 j k, (p_go F sh j y nw i16).2 || decide ((p_go F sh j y nw i16).1 9 (j * 4 + k) = 0)) := by rw [p_go, if_pos c37, ek, nI_clamp (show k < 2 ^ 31 by omega)]
              have hP : va_P G vwCl (Mk cI cZ h a (p_go F sh j y nw (i16 + 1)).1 nq no np sh nw 0 wt) H := by rw [eG, p_us, if_pos c63]; exact hP
              have hD : va_D A (Mk cI cZ h a (p_go F sh j y nw (i16 + 1)).1 nq no np sh nw 0 wt) := by rw [eG, p_us, if_pos c63]; exact hD
              exact ih16 (i16 + 1) (by omega) (by omega) 1 (nI i16 + 1) (by rw [eG, decide_eq_true c63, Bool.or_true]; rfl) (by first | exact nI_1 _ | exact nct_t (by assumption) | exact nct_f (by assumption) | exact nct_b | rfl) _ _ hP hD hS _ (lv_sub hl [3, 4, 5, 1, 0] rfl)
          · have c37 := b2i_0.mp c37
            refine lv_goto (tgt := 98) hx hb dX1_goOut_40 (by decide) ?_
            refine lv_iinc (v := nI i16 + 1) (lv' := [(4, .int (nI i16 + 1)), (0, .ref h), (1, .int (nI j)), (2, .int y), (3, .int (b2i ((p_go F sh j y nw i16).2)))]) hx hb dX1_goOut_98 hl (k := 4) rfl rfl (by decide) rfl (fun ls hl => ?_)
            refine lv_goto (tgt := 16) hx hb dX1_goOut_101 (by decide) ?_
            have eG : p_go F sh j y nw (i16 + 1) = p_go F sh j y nw i16 := by rw [p_go, if_neg (by rw [c37]; decide)]
            have hP : va_P G vwCl (Mk cI cZ h a (p_go F sh j y nw (i16 + 1)).1 nq no np sh nw 0 wt) H := by rw [eG]; exact hP
            have hD : va_D A (Mk cI cZ h a (p_go F sh j y nw (i16 + 1)).1 nq no np sh nw 0 wt) := by rw [eG]; exact hD
            exact ih16 (i16 + 1) (by omega) (by omega) (b2i ((p_go F sh j y nw i16).2)) (nI i16 + 1) (by rw [eG]) (by first | exact nI_1 _ | exact nct_t (by assumption) | exact nct_f (by assumption) | exact nct_b | rfl) _ _ hP hD hS _ (lv_sub hl [1, 2, 3, 4, 0] rfl)
    exact key16 (no + 1) 0 (by omega) (by omega) 0 0 (by first | rfl | simp [p_ct, p_sm, p_fl, p_fg, nI_0]) (by first | rfl | simp [p_ct, p_sm, p_fl, p_fg, nI_0]) _ _ hP hD hS _ (lv_sub hl [2, 3, 4, 1, 0] rfl)
  · have c6 := b2i_0.mp c6
    rw [c6] at hP hD
    have hP : va_P G vwCl (Mk cI cZ h a F nq no np sh nw 1 wt) H := hP
    have hD : va_D A (Mk cI cZ h a F nq no np sh nw 1 wt) := hD
    refine lv_iconst (v := 0) hx hb dX1_goOut_9 (by decide) ?_
    have hk : k1 (p_in x np && p_in y nq) = 1 := by rw [c6]; rfl
    have hP : va_P G vwCl (Mk cI cZ h a (nx (k1 (p_in x np && p_in y nq)) (n_go F sh no x.toNatClampNeg y nw) F) nq no np sh nw (k1 (p_in x np && p_in y nq)) wt) H := by (simp only [hk, nx1]); exact hP
    have hD : va_D A (Mk cI cZ h a (nx (k1 (p_in x np && p_in y nq)) (n_go F sh no x.toNatClampNeg y nw) F) nq no np sh nw (k1 (p_in x np && p_in y nq)) wt) := by (simp only [hk, nx1]); exact hD
    exact w_iret () hx hb hr hlocks hK hP hD hS (Nat.le_of_ble_eq_true rfl) (Nat.le_of_ble_eq_true rfl) dX1_goOut_10 (show k1 (p_in x np && p_in y nq) = 0 → 0 = a_go F sh no x.toNatClampNeg y nw from by intro hh9; rw [hk] at hh9; exact absurd hh9 (by decide))
set_option maxHeartbeats 4000000 in
set_option maxRecDepth 100000 in
theorem c_X1_duskIn (l : Launch) (G : va_G) (cI cZ : ClassId) (h : Nat) (a : Nat → Nat) (F : Nat → Nat → Int32) (nq no np : Nat) (sh nw : Int32) (th : Int32) (wt : Nat → Int32) (sz : Nat) (x : Int32) : Met l yX1_duskIn wsX1_duskIn ({ frames := 2, cells := 0, slots := 0, locals := 42 } : Room) (va_Pc [.ref h, .int x] (wPre G (ty2 cI cZ) (Mk cI cZ h a F nq no np sh nw th wt) sz)) (va_Qi (fun (r : Int32) (_ : Unit) => k1 (p_wi x 0 99) = 0 → r = p_dusk (nw / 48 + x) sh) (fun _ => wP G (ty2 cI cZ) (Mk cI cZ h a F nq no np sh nw (k1 (p_wi x 0 99)) wt) (va_A (Mk cI cZ h a F nq no np sh nw th wt) sz)) (va_A (Mk cI cZ h a F nq no np sh nw th wt) sz)) 0 0 (va_A (Mk cI cZ h a F nq no np sh nw th wt) sz) := by
  refine w_met (cc := cX1_duskIn) (maxL := 2) (ret := (some .int)) (by decide) rfl (Nat.le_of_ble_eq_true rfl) ?_
  intro pg e s m below meth cd hx hb hml hr hts hown hlocks hnm hK hsz hP hD hA hS ls hl
  have hown : s.vm.findClass RX1 = some m.cls := hown
  have hin : ∀ w ∈ wsX10, w ∈ wsX1_duskIn := by decide +kernel
  have hl : lv_has ls 2 [(0, .ref h), (1, .int x)] := hl
  generalize hAe : va_A (Mk cI cZ h a F nq no np sh nw th wt) sz = A at hD hA hS ⊢
  refine lv_aload_n hx hb dX1_duskIn_0 rfl (lv_at hl 0 rfl) ?_
  refine lv_iconst (v := 0) hx hb dX1_duskIn_1 (by decide) ?_
  refine va_put (ci := 1) (v := .int 0) (ty := .int) (C := RX1) (T := TX1) (N := 18) hx hb hts hin tyX1 tyX1_ok nmX1 hown hK hP hD hS 0 rfl rfl 0 (by decide) (hts (.fieldLink RX1 47 "CurfewDeskModel" "thrown" "I") (by decide +kernel)) (fun _ h9 => h9) rfl (by decide +kernel) rfl rfl (Nat.le_of_ble_eq_true rfl) dX1_duskIn_2 (fun H locs hP hD hS => ?_)
  have hP : va_P G vwCl (Mk cI cZ h a F nq no np sh nw 0 wt) H := hP
  have hD : va_D A (Mk cI cZ h a F nq no np sh nw 0 wt) := hD
  refine lv_iload_n hx hb dX1_duskIn_5 rfl (lv_at hl 1 rfl) ?_
  refine lv_iconst (v := 0) hx hb dX1_duskIn_6 (by decide) ?_
  refine lv_bipush (v := 99) hx hb dX1_duskIn_7 (by decide) ?_
  refine w_st_i (va_runS (As := [.int x, .int 0, .int 99]) (rest := []) ⟨hx, hb, hml, hown, hts⟩ (c_X1_isIn l G H.size x 0 99 ) (va_cwS 3 hts gX1_duskIn_X1_isIn rfl rfl rfl (by decide +kernel) ⟨(Nat.le_of_ble_eq_true rfl), (Nat.le_of_ble_eq_true rfl)⟩) ⟨wPre_blind, w_pre (hK.sub [] rfl) w_P0 (w_D0 (A := A))⟩ rfl rfl hl.1 rfl (lv_room (Nat.le_of_ble_eq_true rfl)) dX1_duskIn_9 ⟨(Nat.le_of_ble_eq_true rfl), (Nat.le_of_ble_eq_true rfl)⟩) hP hS hA (fun r9 u9 H locs hw9 hP hS => ?_)
  have hw9 : r9 = b2i (p_wi x 0 99) := hw9
  subst hw9
  refine lv_if_eq (tgt := 31) hx hb dX1_duskIn_12 (by decide) (fun c12 => ?_) (fun c12 => ?_)
  · have c12 := b2i_0.mp c12
    refine lv_aload_n hx hb dX1_duskIn_31 rfl (lv_at hl 0 rfl) ?_
    refine lv_iconst (v := 1) hx hb dX1_duskIn_32 (by decide) ?_
    refine w_in_i (va_runV (As := [.int 1]) (rest := []) ⟨hx, hb, hml, hown, hts⟩ (c_X1_fail l G cI cZ h a F nq no np sh nw 0 wt H.size 1 ) (cwV 1 hts gX1_duskIn_X1_fail rfl rfl rfl (by decide +kernel) ⟨(Nat.le_of_ble_eq_true rfl), (Nat.le_of_ble_eq_true rfl)⟩) ⟨wPre_blind, va_recv hK hP (ci := 1) (q0 := 0) rfl rfl, w_pre hK hP hD⟩ rfl rfl hl.1 rfl (lv_room (Nat.le_of_ble_eq_true rfl)) dX1_duskIn_33 ⟨(Nat.le_of_ble_eq_true rfl), (Nat.le_of_ble_eq_true rfl)⟩) hD hS hA (fun r33 u33 H locs hw33 hP hD hS => ?_)
    have hP : va_P G vwCl (Mk cI cZ h a F nq no np sh nw 1 wt) H := hP
    have hD : va_D A (Mk cI cZ h a F nq no np sh nw 1 wt) := hD
    have hw33 : r33 = 0 := hw33
    subst hw33
    have hk : k1 (p_wi x 0 99) = 1 := by rw [c12]; rfl
    have hP : va_P G vwCl (Mk cI cZ h a F nq no np sh nw (k1 (p_wi x 0 99)) wt) H := by (simp only [hk, nx0, nx1, nx2, nx3]); exact hP
    have hD : va_D A (Mk cI cZ h a F nq no np sh nw (k1 (p_wi x 0 99)) wt) := by (simp only [hk, nx0, nx1, nx2, nx3]); exact hD
    exact w_iret () hx hb hr hlocks hK hP hD hS (Nat.le_of_ble_eq_true rfl) (Nat.le_of_ble_eq_true rfl) dX1_duskIn_36 (show k1 (p_wi x 0 99) = 0 → 0 = p_dusk (nw / 48 + x) sh from by intro hh9; rw [hk] at hh9; exact absurd hh9 (by decide))
  · have c12 := b2i_1.mp c12
    refine lv_aload_n hx hb dX1_duskIn_15 rfl (lv_at hl 0 rfl) ?_
    refine lv_aload_n hx hb dX1_duskIn_16 rfl (lv_at hl 0 rfl) ?_
    refine va_get (ci := 1) (v := .int nw) (C := RX1) (T := TX1) (N := 18) hx hb hts hin hown hK hP 0 rfl rfl 1 (by decide) (hts (.fieldLink RX1 122 "CurfewDeskModel" "time" "I") (by decide +kernel)) (fun _ h9 => h9) rfl dX1_duskIn_17 ?_
    refine lv_bipush (v := 48) hx hb dX1_duskIn_20 (by decide) ?_
    refine lv_idiv hx hb dX1_duskIn_22 (by decide) ?_
    refine lv_iload_n hx hb dX1_duskIn_23 rfl (lv_at hl 1 rfl) ?_
    refine lv_iadd hx hb dX1_duskIn_24 ?_
    refine w_in_i (va_runV (As := [.int ((nw / 48) + x)]) (rest := []) ⟨hx, hb, hml, hown, hts⟩ (c_X1_dusk l G cI cZ h a F nq no np sh nw 0 wt H.size ((nw / 48) + x) ) (cwV 1 hts gX1_duskIn_X1_dusk rfl rfl rfl (by decide +kernel) ⟨(Nat.le_of_ble_eq_true rfl), (Nat.le_of_ble_eq_true rfl)⟩) ⟨wPre_blind, va_recv hK hP (ci := 1) (q0 := 0) rfl rfl, w_pre hK hP hD⟩ rfl rfl hl.1 rfl (lv_room (Nat.le_of_ble_eq_true rfl)) dX1_duskIn_25 ⟨(Nat.le_of_ble_eq_true rfl), (Nat.le_of_ble_eq_true rfl)⟩) hD hS hA (fun r25 u25 H locs hw25 hP hD hS => ?_)
    have hP : va_P G vwCl (Mk cI cZ h a F nq no np sh nw 0 wt) H := hP
    have hD : va_D A (Mk cI cZ h a F nq no np sh nw 0 wt) := hD
    have hw25 : r25 = p_dusk ((nw / 48) + x) sh := hw25
    subst hw25
    refine lv_goto (tgt := 36) hx hb dX1_duskIn_28 (by decide) ?_
    have hk : k1 (p_wi x 0 99) = 0 := by rw [c12]; rfl
    have hP : va_P G vwCl (Mk cI cZ h a F nq no np sh nw (k1 (p_wi x 0 99)) wt) H := by (simp only [hk, nx0, nx1, nx2, nx3]); exact hP
    have hD : va_D A (Mk cI cZ h a F nq no np sh nw (k1 (p_wi x 0 99)) wt) := by (simp only [hk, nx0, nx1, nx2, nx3]); exact hD
    exact w_iret () hx hb hr hlocks hK hP hD hS (Nat.le_of_ble_eq_true rfl) (Nat.le_of_ble_eq_true rfl) dX1_duskIn_36 (show k1 (p_wi x 0 99) = 0 → (p_dusk ((nw / 48) + x) sh) = p_dusk (nw / 48 + x) sh from by intro _; rfl)
set_option maxHeartbeats 4000000 in
set_option maxRecDepth 100000 in
theorem c_X1_dawnIn (l : Launch) (G : va_G) (cI cZ : ClassId) (h : Nat) (a : Nat → Nat) (F : Nat → Nat → Int32) (nq no np : Nat) (sh nw : Int32) (th : Int32) (wt : Nat → Int32) (sz : Nat) (x : Int32) : Met l yX1_dawnIn wsX1_dawnIn ({ frames := 2, cells := 0, slots := 0, locals := 41 } : Room) (va_Pc [.ref h, .int x] (wPre G (ty2 cI cZ) (Mk cI cZ h a F nq no np sh nw th wt) sz)) (va_Qi (fun (r : Int32) (_ : Unit) => k1 (p_wi x 0 99) = 0 → r = p_dawn (nw / 48 + x)) (fun _ => wP G (ty2 cI cZ) (Mk cI cZ h a F nq no np sh nw (k1 (p_wi x 0 99)) wt) (va_A (Mk cI cZ h a F nq no np sh nw th wt) sz)) (va_A (Mk cI cZ h a F nq no np sh nw th wt) sz)) 0 0 (va_A (Mk cI cZ h a F nq no np sh nw th wt) sz) := by
  refine w_met (cc := cX1_dawnIn) (maxL := 2) (ret := (some .int)) (by decide) rfl (Nat.le_of_ble_eq_true rfl) ?_
  intro pg e s m below meth cd hx hb hml hr hts hown hlocks hnm hK hsz hP hD hA hS ls hl
  have hown : s.vm.findClass RX1 = some m.cls := hown
  have hin : ∀ w ∈ wsX10, w ∈ wsX1_dawnIn := by decide +kernel
  have hl : lv_has ls 2 [(0, .ref h), (1, .int x)] := hl
  generalize hAe : va_A (Mk cI cZ h a F nq no np sh nw th wt) sz = A at hD hA hS ⊢
  refine lv_aload_n hx hb dX1_dawnIn_0 rfl (lv_at hl 0 rfl) ?_
  refine lv_iconst (v := 0) hx hb dX1_dawnIn_1 (by decide) ?_
  refine va_put (ci := 1) (v := .int 0) (ty := .int) (C := RX1) (T := TX1) (N := 18) hx hb hts hin tyX1 tyX1_ok nmX1 hown hK hP hD hS 0 rfl rfl 0 (by decide) (hts (.fieldLink RX1 47 "CurfewDeskModel" "thrown" "I") (by decide +kernel)) (fun _ h9 => h9) rfl (by decide +kernel) rfl rfl (Nat.le_of_ble_eq_true rfl) dX1_dawnIn_2 (fun H locs hP hD hS => ?_)
  have hP : va_P G vwCl (Mk cI cZ h a F nq no np sh nw 0 wt) H := hP
  have hD : va_D A (Mk cI cZ h a F nq no np sh nw 0 wt) := hD
  refine lv_iload_n hx hb dX1_dawnIn_5 rfl (lv_at hl 1 rfl) ?_
  refine lv_iconst (v := 0) hx hb dX1_dawnIn_6 (by decide) ?_
  refine lv_bipush (v := 99) hx hb dX1_dawnIn_7 (by decide) ?_
  refine w_st_i (va_runS (As := [.int x, .int 0, .int 99]) (rest := []) ⟨hx, hb, hml, hown, hts⟩ (c_X1_isIn l G H.size x 0 99 ) (va_cwS 3 hts gX1_dawnIn_X1_isIn rfl rfl rfl (by decide +kernel) ⟨(Nat.le_of_ble_eq_true rfl), (Nat.le_of_ble_eq_true rfl)⟩) ⟨wPre_blind, w_pre (hK.sub [] rfl) w_P0 (w_D0 (A := A))⟩ rfl rfl hl.1 rfl (lv_room (Nat.le_of_ble_eq_true rfl)) dX1_dawnIn_9 ⟨(Nat.le_of_ble_eq_true rfl), (Nat.le_of_ble_eq_true rfl)⟩) hP hS hA (fun r9 u9 H locs hw9 hP hS => ?_)
  have hw9 : r9 = b2i (p_wi x 0 99) := hw9
  subst hw9
  refine lv_if_eq (tgt := 30) hx hb dX1_dawnIn_12 (by decide) (fun c12 => ?_) (fun c12 => ?_)
  · have c12 := b2i_0.mp c12
    refine lv_aload_n hx hb dX1_dawnIn_30 rfl (lv_at hl 0 rfl) ?_
    refine lv_iconst (v := 1) hx hb dX1_dawnIn_31 (by decide) ?_
    refine w_in_i (va_runV (As := [.int 1]) (rest := []) ⟨hx, hb, hml, hown, hts⟩ (c_X1_fail l G cI cZ h a F nq no np sh nw 0 wt H.size 1 ) (cwV 1 hts gX1_dawnIn_X1_fail rfl rfl rfl (by decide +kernel) ⟨(Nat.le_of_ble_eq_true rfl), (Nat.le_of_ble_eq_true rfl)⟩) ⟨wPre_blind, va_recv hK hP (ci := 1) (q0 := 0) rfl rfl, w_pre hK hP hD⟩ rfl rfl hl.1 rfl (lv_room (Nat.le_of_ble_eq_true rfl)) dX1_dawnIn_32 ⟨(Nat.le_of_ble_eq_true rfl), (Nat.le_of_ble_eq_true rfl)⟩) hD hS hA (fun r32 u32 H locs hw32 hP hD hS => ?_)
    have hP : va_P G vwCl (Mk cI cZ h a F nq no np sh nw 1 wt) H := hP
    have hD : va_D A (Mk cI cZ h a F nq no np sh nw 1 wt) := hD
    have hw32 : r32 = 0 := hw32
    subst hw32
    have hk : k1 (p_wi x 0 99) = 1 := by rw [c12]; rfl
    have hP : va_P G vwCl (Mk cI cZ h a F nq no np sh nw (k1 (p_wi x 0 99)) wt) H := by (simp only [hk, nx0, nx1, nx2, nx3]); exact hP
    have hD : va_D A (Mk cI cZ h a F nq no np sh nw (k1 (p_wi x 0 99)) wt) := by (simp only [hk, nx0, nx1, nx2, nx3]); exact hD
    exact w_iret () hx hb hr hlocks hK hP hD hS (Nat.le_of_ble_eq_true rfl) (Nat.le_of_ble_eq_true rfl) dX1_dawnIn_35 (show k1 (p_wi x 0 99) = 0 → 0 = p_dawn (nw / 48 + x) from by intro hh9; rw [hk] at hh9; exact absurd hh9 (by decide))
  · have c12 := b2i_1.mp c12
    refine lv_aload_n hx hb dX1_dawnIn_15 rfl (lv_at hl 0 rfl) ?_
    refine va_get (ci := 1) (v := .int nw) (C := RX1) (T := TX1) (N := 18) hx hb hts hin hown hK hP 0 rfl rfl 1 (by decide) (hts (.fieldLink RX1 122 "CurfewDeskModel" "time" "I") (by decide +kernel)) (fun _ h9 => h9) rfl dX1_dawnIn_16 ?_
    refine lv_bipush (v := 48) hx hb dX1_dawnIn_19 (by decide) ?_
    refine lv_idiv hx hb dX1_dawnIn_21 (by decide) ?_
    refine lv_iload_n hx hb dX1_dawnIn_22 rfl (lv_at hl 1 rfl) ?_
    refine lv_iadd hx hb dX1_dawnIn_23 ?_
    refine w_st_i (va_runS (As := [.int ((nw / 48) + x)]) (rest := []) ⟨hx, hb, hml, hown, hts⟩ (c_X1_dawn l G H.size ((nw / 48) + x) ) (va_cwS 1 hts gX1_dawnIn_X1_dawn rfl rfl rfl (by decide +kernel) ⟨(Nat.le_of_ble_eq_true rfl), (Nat.le_of_ble_eq_true rfl)⟩) ⟨wPre_blind, w_pre (hK.sub [] rfl) w_P0 (w_D0 (A := A))⟩ rfl rfl hl.1 rfl (lv_room (Nat.le_of_ble_eq_true rfl)) dX1_dawnIn_24 ⟨(Nat.le_of_ble_eq_true rfl), (Nat.le_of_ble_eq_true rfl)⟩) hP hS hA (fun r24 u24 H locs hw24 hP hS => ?_)
    have hw24 : r24 = p_dawn ((nw / 48) + x) := hw24
    subst hw24
    refine lv_goto (tgt := 35) hx hb dX1_dawnIn_27 (by decide) ?_
    have hk : k1 (p_wi x 0 99) = 0 := by rw [c12]; rfl
    have hP : va_P G vwCl (Mk cI cZ h a F nq no np sh nw (k1 (p_wi x 0 99)) wt) H := by (simp only [hk, nx0, nx1, nx2, nx3]); exact hP
    have hD : va_D A (Mk cI cZ h a F nq no np sh nw (k1 (p_wi x 0 99)) wt) := by (simp only [hk, nx0, nx1, nx2, nx3]); exact hD
    exact w_iret () hx hb hr hlocks hK hP hD hS (Nat.le_of_ble_eq_true rfl) (Nat.le_of_ble_eq_true rfl) dX1_dawnIn_35 (show k1 (p_wi x 0 99) = 0 → (p_dawn ((nw / 48) + x)) = p_dawn (nw / 48 + x) from by intro _; rfl)
set_option maxHeartbeats 4000000 in
set_option maxRecDepth 100000 in
theorem c_X1_setShift (l : Launch) (G : va_G) (cI cZ : ClassId) (h : Nat) (a : Nat → Nat) (F : Nat → Nat → Int32) (nq no np : Nat) (sh nw : Int32) (th : Int32) (wt : Nat → Int32) (sz : Nat) (x : Int32) : Met l yX1_setShift wsX1_setShift ({ frames := 1, cells := 0, slots := 0, locals := 22 } : Room) (va_Pc [.ref h, .int x] (wPre G (ty2 cI cZ) (Mk cI cZ h a F nq no np sh nw th wt) sz)) (va_Qi (fun (r : Int32) (_ : Unit) => k1 (p_wi x (-4) 4) = 0 → r = sh) (fun _ => wP G (ty2 cI cZ) (Mk cI cZ h a F nq no np (nx (k1 (p_wi x (-4) 4)) (x) sh) nw (k1 (p_wi x (-4) 4)) wt) (va_A (Mk cI cZ h a F nq no np sh nw th wt) sz)) (va_A (Mk cI cZ h a F nq no np sh nw th wt) sz)) 0 0 (va_A (Mk cI cZ h a F nq no np sh nw th wt) sz) := by
  refine w_met (cc := cX1_setShift) (maxL := 3) (ret := (some .int)) (by decide) rfl (Nat.le_of_ble_eq_true rfl) ?_
  intro pg e s m below meth cd hx hb hml hr hts hown hlocks hnm hK hsz hP hD hA hS ls hl
  have hown : s.vm.findClass RX1 = some m.cls := hown
  have hin : ∀ w ∈ wsX10, w ∈ wsX1_setShift := by decide +kernel
  have hl : lv_has ls 3 [(0, .ref h), (1, .int x)] := hl
  generalize hAe : va_A (Mk cI cZ h a F nq no np sh nw th wt) sz = A at hD hA hS ⊢
  refine lv_aload_n hx hb dX1_setShift_0 rfl (lv_at hl 0 rfl) ?_
  refine lv_iconst (v := 0) hx hb dX1_setShift_1 (by decide) ?_
  refine va_put (ci := 1) (v := .int 0) (ty := .int) (C := RX1) (T := TX1) (N := 18) hx hb hts hin tyX1 tyX1_ok nmX1 hown hK hP hD hS 0 rfl rfl 0 (by decide) (hts (.fieldLink RX1 47 "CurfewDeskModel" "thrown" "I") (by decide +kernel)) (fun _ h9 => h9) rfl (by decide +kernel) rfl rfl (Nat.le_of_ble_eq_true rfl) dX1_setShift_2 (fun H locs hP hD hS => ?_)
  have hP : va_P G vwCl (Mk cI cZ h a F nq no np sh nw 0 wt) H := hP
  have hD : va_D A (Mk cI cZ h a F nq no np sh nw 0 wt) := hD
  refine lv_iload_n hx hb dX1_setShift_5 rfl (lv_at hl 1 rfl) ?_
  refine lv_bipush (v := (-4)) hx hb dX1_setShift_6 (by decide) ?_
  refine lv_iconst (v := 4) hx hb dX1_setShift_8 (by decide) ?_
  refine w_st_i (va_runS (As := [.int x, .int (-4), .int 4]) (rest := []) ⟨hx, hb, hml, hown, hts⟩ (c_X1_isIn l G H.size x (-4) 4 ) (va_cwS 3 hts gX1_setShift_X1_isIn rfl rfl rfl (by decide +kernel) ⟨(Nat.le_of_ble_eq_true rfl), (Nat.le_of_ble_eq_true rfl)⟩) ⟨wPre_blind, w_pre (hK.sub [] rfl) w_P0 (w_D0 (A := A))⟩ rfl rfl hl.1 rfl (lv_room (Nat.le_of_ble_eq_true rfl)) dX1_setShift_9 ⟨(Nat.le_of_ble_eq_true rfl), (Nat.le_of_ble_eq_true rfl)⟩) hP hS hA (fun r9 u9 H locs hw9 hP hS => ?_)
  have hw9 : r9 = b2i (p_wi x (-4) 4) := hw9
  subst hw9
  refine lv_if_ne (tgt := 21) hx hb dX1_setShift_12 (by decide) (fun c12 => ?_) (fun c12 => ?_)
  · have c12 := b2i_1.mp c12
    refine lv_aload_n hx hb dX1_setShift_21 rfl (lv_at hl 0 rfl) ?_
    refine va_get (ci := 1) (v := .int sh) (C := RX1) (T := TX1) (N := 18) hx hb hts hin hown hK hP 0 rfl rfl 2 (by decide) (hts (.fieldLink RX1 68 "CurfewDeskModel" "shift" "I") (by decide +kernel)) (fun _ h9 => h9) rfl dX1_setShift_22 ?_
    refine lv_istore_n (lv' := [(2, .int sh), (0, .ref h), (1, .int x)]) hx hb dX1_setShift_25 rfl hl (by decide) rfl (fun ls hl => ?_)
    refine lv_aload_n hx hb dX1_setShift_26 rfl (lv_at hl 1 rfl) ?_
    refine lv_iload_n hx hb dX1_setShift_27 rfl (lv_at hl 2 rfl) ?_
    refine va_put (ci := 1) (v := .int x) (ty := .int) (C := RX1) (T := TX1) (N := 18) hx hb hts hin tyX1 tyX1_ok nmX1 hown hK hP hD hS 0 rfl rfl 2 (by decide) (hts (.fieldLink RX1 68 "CurfewDeskModel" "shift" "I") (by decide +kernel)) (fun _ h9 => h9) rfl (by decide +kernel) rfl rfl (Nat.le_of_ble_eq_true rfl) dX1_setShift_28 (fun H locs hP hD hS => ?_)
    have hP : va_P G vwCl (Mk cI cZ h a F nq no np x nw 0 wt) H := hP
    have hD : va_D A (Mk cI cZ h a F nq no np x nw 0 wt) := hD
    refine lv_iload_n hx hb dX1_setShift_31 rfl (lv_at hl 0 rfl) ?_
    have hk : k1 (p_wi x (-4) 4) = 0 := by rw [c12]; rfl
    have hP : va_P G vwCl (Mk cI cZ h a F nq no np (nx (k1 (p_wi x (-4) 4)) (x) sh) nw (k1 (p_wi x (-4) 4)) wt) H := by (simp only [hk, nx0, nx1, nx2, nx3]); exact hP
    have hD : va_D A (Mk cI cZ h a F nq no np (nx (k1 (p_wi x (-4) 4)) (x) sh) nw (k1 (p_wi x (-4) 4)) wt) := by (simp only [hk, nx0, nx1, nx2, nx3]); exact hD
    exact w_iret () hx hb hr hlocks hK hP hD hS (Nat.le_of_ble_eq_true rfl) (Nat.le_of_ble_eq_true rfl) dX1_setShift_32 (show k1 (p_wi x (-4) 4) = 0 → sh = sh from by intro _; rfl)
  · have c12 := b2i_0.mp c12
    refine lv_aload_n hx hb dX1_setShift_15 rfl (lv_at hl 0 rfl) ?_
    refine lv_iconst (v := 1) hx hb dX1_setShift_16 (by decide) ?_
    refine w_in_i (va_runV (As := [.int 1]) (rest := []) ⟨hx, hb, hml, hown, hts⟩ (c_X1_fail l G cI cZ h a F nq no np sh nw 0 wt H.size 1 ) (cwV 1 hts gX1_setShift_X1_fail rfl rfl rfl (by decide +kernel) ⟨(Nat.le_of_ble_eq_true rfl), (Nat.le_of_ble_eq_true rfl)⟩) ⟨wPre_blind, va_recv hK hP (ci := 1) (q0 := 0) rfl rfl, w_pre hK hP hD⟩ rfl rfl hl.1 rfl (lv_room (Nat.le_of_ble_eq_true rfl)) dX1_setShift_17 ⟨(Nat.le_of_ble_eq_true rfl), (Nat.le_of_ble_eq_true rfl)⟩) hD hS hA (fun r17 u17 H locs hw17 hP hD hS => ?_)
    have hP : va_P G vwCl (Mk cI cZ h a F nq no np sh nw 1 wt) H := hP
    have hD : va_D A (Mk cI cZ h a F nq no np sh nw 1 wt) := hD
    have hw17 : r17 = 0 := hw17
    subst hw17
    have hk : k1 (p_wi x (-4) 4) = 1 := by rw [c12]; rfl
    have hP : va_P G vwCl (Mk cI cZ h a F nq no np (nx (k1 (p_wi x (-4) 4)) (x) sh) nw (k1 (p_wi x (-4) 4)) wt) H := by (simp only [hk, nx0, nx1, nx2, nx3]); exact hP
    have hD : va_D A (Mk cI cZ h a F nq no np (nx (k1 (p_wi x (-4) 4)) (x) sh) nw (k1 (p_wi x (-4) 4)) wt) := by (simp only [hk, nx0, nx1, nx2, nx3]); exact hD
    exact w_iret () hx hb hr hlocks hK hP hD hS (Nat.le_of_ble_eq_true rfl) (Nat.le_of_ble_eq_true rfl) dX1_setShift_20 (show k1 (p_wi x (-4) 4) = 0 → 0 = sh from by intro hh9; rw [hk] at hh9; exact absurd hh9 (by decide))
set_option maxHeartbeats 4000000 in
set_option maxRecDepth 100000 in
theorem c_X1_pass (l : Launch) (G : va_G) (cI cZ : ClassId) (h : Nat) (a : Nat → Nat) (F : Nat → Nat → Int32) (nq no np : Nat) (sh nw : Int32) (th : Int32) (wt : Nat → Int32) (sz : Nat) (x : Int32) (hno : no ≤ 10) : Met l yX1_pass wsX1_pass ({ frames := 4, cells := 0, slots := 0, locals := 88 } : Room) (va_Pc [.ref h, .int x] (wPre G (ty2 cI cZ) (Mk cI cZ h a F nq no np sh nw th wt) sz)) (va_Qi (fun (r : Int32) (_ : Unit) => k1 (p_wi x 1 200) = 0 → r = a_pa F sh nw no x.toNatClampNeg) (fun _ => wP G (ty2 cI cZ) (Mk cI cZ h a F nq no np sh (nx (k1 (p_wi x 1 200)) (nw + x) nw) (k1 (p_wi x 1 200)) wt) (va_A (Mk cI cZ h a F nq no np sh nw th wt) sz)) (va_A (Mk cI cZ h a F nq no np sh nw th wt) sz)) 0 0 (va_A (Mk cI cZ h a F nq no np sh nw th wt) sz) := by
  refine w_met (cc := cX1_pass) (maxL := 5) (ret := (some .int)) (by decide) rfl (Nat.le_of_ble_eq_true rfl) ?_
  intro pg e s m below meth cd hx hb hml hr hts hown hlocks hnm hK hsz hP hD hA hS ls hl
  have hown : s.vm.findClass RX1 = some m.cls := hown
  have hin : ∀ w ∈ wsX10, w ∈ wsX1_pass := by decide +kernel
  have hl : lv_has ls 5 [(0, .ref h), (1, .int x)] := hl
  generalize hAe : va_A (Mk cI cZ h a F nq no np sh nw th wt) sz = A at hD hA hS ⊢
  refine lv_aload_n hx hb dX1_pass_0 rfl (lv_at hl 0 rfl) ?_
  refine lv_iconst (v := 0) hx hb dX1_pass_1 (by decide) ?_
  refine va_put (ci := 1) (v := .int 0) (ty := .int) (C := RX1) (T := TX1) (N := 18) hx hb hts hin tyX1 tyX1_ok nmX1 hown hK hP hD hS 0 rfl rfl 0 (by decide) (hts (.fieldLink RX1 47 "CurfewDeskModel" "thrown" "I") (by decide +kernel)) (fun _ h9 => h9) rfl (by decide +kernel) rfl rfl (Nat.le_of_ble_eq_true rfl) dX1_pass_2 (fun H locs hP hD hS => ?_)
  have hP : va_P G vwCl (Mk cI cZ h a F nq no np sh nw 0 wt) H := hP
  have hD : va_D A (Mk cI cZ h a F nq no np sh nw 0 wt) := hD
  refine lv_iload_n hx hb dX1_pass_5 rfl (lv_at hl 1 rfl) ?_
  refine lv_iconst (v := 1) hx hb dX1_pass_6 (by decide) ?_
  refine lv_sipush (v := 200) hx hb dX1_pass_7 (by decide) ?_
  refine w_st_i (va_runS (As := [.int x, .int 1, .int 200]) (rest := []) ⟨hx, hb, hml, hown, hts⟩ (c_X1_isIn l G H.size x 1 200 ) (va_cwS 3 hts gX1_pass_X1_isIn rfl rfl rfl (by decide +kernel) ⟨(Nat.le_of_ble_eq_true rfl), (Nat.le_of_ble_eq_true rfl)⟩) ⟨wPre_blind, w_pre (hK.sub [] rfl) w_P0 (w_D0 (A := A))⟩ rfl rfl hl.1 rfl (lv_room (Nat.le_of_ble_eq_true rfl)) dX1_pass_10 ⟨(Nat.le_of_ble_eq_true rfl), (Nat.le_of_ble_eq_true rfl)⟩) hP hS hA (fun r10 u10 H locs hw10 hP hS => ?_)
  have hw10 : r10 = b2i (p_wi x 1 200) := hw10
  subst hw10
  refine lv_if_ne (tgt := 22) hx hb dX1_pass_13 (by decide) (fun c13 => ?_) (fun c13 => ?_)
  · have c13 := b2i_1.mp c13
    obtain ⟨j, hj, rfl⟩ := pwi_ofn (b := 200) (by decide) (by decide) c13
    refine lv_iconst (v := 0) hx hb dX1_pass_22 (by decide) ?_
    refine lv_istore_n (lv' := [(2, .int 0), (0, .ref h), (1, .int (nI j))]) hx hb dX1_pass_23 rfl hl (by decide) rfl (fun ls hl => ?_)
    refine lv_iconst (v := 0) hx hb dX1_pass_24 (by decide) ?_
    refine lv_istore_n (lv' := [(3, .int 0), (2, .int 0), (0, .ref h), (1, .int (nI j))]) hx hb dX1_pass_25 rfl hl (by decide) rfl (fun ls hl => ?_)
    have key26 : ∀ (n i26 : Nat), i26 ≤ j → j < i26 + n → ∀ (x2 : Int32) (x3 : Int32), x2 = p_sm (fun k => nI (p_ct (p_pB F sh nw k) no)) i26 → x3 = nI i26 → ∀ (H : Heap) (locs : List Loc), va_P G vwCl (Mk cI cZ h a F nq no np sh (nw + nI i26) 0 wt) H → va_D A (Mk cI cZ h a F nq no np sh (nw + nI i26) 0 wt) → va_S A s.heap H locs → ∀ ls : Array Slot, lv_has ls 5 [(0, .ref h), (1, .int (nI j)), (2, .int x2), (3, .int x3)] → W pg l e ({ frames := 4, cells := 0, slots := 0, locals := 88 } : Room) s m ([.ref h, .int (nI j)] : List Value).toArray below meth cd H locs (0 + 0) (0 + 0) (MQ below (va_Qi (fun (r : Int32) (_ : Unit) => k1 (p_wi (nI j) 1 200) = 0 → r = a_pa F sh nw no (nI j).toNatClampNeg) (fun _ => wP G (ty2 cI cZ) (Mk cI cZ h a F nq no np sh (nx (k1 (p_wi (nI j) 1 200)) (nw + (nI j)) nw) (k1 (p_wi (nI j) 1 200)) wt) A) A) ([.ref h, .int (nI j)] : List Value).toArray s 0 0 A) (F0 m 26 ls []) := by
      intro n
      induction n with
      | zero => intro i26 h1 h2; exact absurd h2 (by omega)
      | succ n ih26 =>
        intro i26 hi_i26 hn_i26 x2 x3 e2 e3 H locs hP hD hS ls hl
        subst e2 e3
        refine lv_iload_n hx hb dX1_pass_26 rfl (lv_at hl 3 rfl) ?_
        refine lv_iload_n hx hb dX1_pass_27 rfl (lv_at hl 1 rfl) ?_
        refine lv_icmp_ge (tgt := 101) hx hb dX1_pass_28 (by decide) (fun c28 => ?_) (fun c28 => ?_)
        · have c28 := (nI_leI (a := j) (b := i26) (by omega) (by omega)).mp c28
          have ei : j = i26 := by omega
          subst ei
          refine lv_iload_n hx hb dX1_pass_101 rfl (lv_at hl 2 rfl) ?_
          have hk : k1 (p_wi (nI j) 1 200) = 0 := by rw [c13]; rfl
          have hP : va_P G vwCl (Mk cI cZ h a F nq no np sh (nx (k1 (p_wi (nI j) 1 200)) (nw + (nI j)) nw) (k1 (p_wi (nI j) 1 200)) wt) H := by (simp only [hk, nx0, nx1, nx2, nx3, nI_clamp (show j < 2 ^ 31 by omega)]); exact hP
          have hD : va_D A (Mk cI cZ h a F nq no np sh (nx (k1 (p_wi (nI j) 1 200)) (nw + (nI j)) nw) (k1 (p_wi (nI j) 1 200)) wt) := by (simp only [hk, nx0, nx1, nx2, nx3, nI_clamp (show j < 2 ^ 31 by omega)]); exact hD
          exact w_iret () hx hb hr hlocks hK hP hD hS (Nat.le_of_ble_eq_true rfl) (Nat.le_of_ble_eq_true rfl) dX1_pass_102 (show k1 (p_wi (nI j) 1 200) = 0 → (p_sm (fun k => nI (p_ct (p_pB F sh nw k) no)) j) = a_pa F sh nw no (nI j).toNatClampNeg from by intro _; rw [nI_clamp (show j < 2 ^ 31 by omega)]; exact pa_eq F sh nw no j)
        · have c28 := mt (nI_leI (a := j) (b := i26) (by omega) (by omega)).mpr c28
          have hlt_i26 : i26 < j := by omega
          refine lv_iconst (v := 0) hx hb dX1_pass_31 (by decide) ?_
          refine lv_istore (lv' := [(4, .int 0), (0, .ref h), (1, .int (nI j)), (2, .int (p_sm (fun k => nI (p_ct (p_pB F sh nw k) no)) i26)), (3, .int (nI i26))]) hx hb dX1_pass_32 hl (by decide) rfl (fun ls hl => ?_)
          have key34 : ∀ (n i34 : Nat), i34 ≤ no → no < i34 + n → ∀ (x2 : Int32) (x4 : Int32), x2 = p_sm (fun k => nI (p_ct (p_pB F sh nw k) no)) i26 + nI (p_ct (p_pB F sh nw i26) i34) → x4 = nI i34 → ∀ (H : Heap) (locs : List Loc), va_P G vwCl (Mk cI cZ h a F nq no np sh (nw + nI i26) 0 wt) H → va_D A (Mk cI cZ h a F nq no np sh (nw + nI i26) 0 wt) → va_S A s.heap H locs → ∀ ls : Array Slot, lv_has ls 5 [(0, .ref h), (1, .int (nI j)), (2, .int x2), (3, .int (nI i26)), (4, .int x4)] → W pg l e ({ frames := 4, cells := 0, slots := 0, locals := 88 } : Room) s m ([.ref h, .int (nI j)] : List Value).toArray below meth cd H locs (0 + 0) (0 + 0) (MQ below (va_Qi (fun (r : Int32) (_ : Unit) => k1 (p_wi (nI j) 1 200) = 0 → r = a_pa F sh nw no (nI j).toNatClampNeg) (fun _ => wP G (ty2 cI cZ) (Mk cI cZ h a F nq no np sh (nx (k1 (p_wi (nI j) 1 200)) (nw + (nI j)) nw) (k1 (p_wi (nI j) 1 200)) wt) A) A) ([.ref h, .int (nI j)] : List Value).toArray s 0 0 A) (F0 m 34 ls []) := by
            intro n
            induction n with
            | zero => intro i34 h1 h2; exact absurd h2 (by omega)
            | succ n ih34 =>
              intro i34 hi_i34 hn_i34 x2 x4 e2 e4 H locs hP hD hS ls hl
              subst e2 e4
              refine lv_iload hx hb dX1_pass_34 (lv_at hl 4 rfl) ?_
              refine lv_aload_n hx hb dX1_pass_36 rfl (lv_at hl 0 rfl) ?_
              refine va_get (ci := 1) (v := .int (nI no)) (C := RX1) (T := TX1) (N := 18) hx hb hts hin hown hK hP 0 rfl rfl 4 (by decide) (hts (.fieldLink RX1 58 "CurfewDeskModel" "orders" "I") (by decide +kernel)) (fun _ h9 => h9) rfl dX1_pass_37 ?_
              refine lv_icmp_ge (tgt := 85) hx hb dX1_pass_40 (by decide) (fun c40 => ?_) (fun c40 => ?_)
              · have c40 := (nI_leI (a := no) (b := i34) (by omega) (by omega)).mp c40
                have ei : no = i34 := by omega
                subst ei
                refine lv_aload_n hx hb dX1_pass_85 rfl (lv_at hl 0 rfl) ?_
                refine lv_dup hx hb dX1_pass_86 rfl ?_
                refine va_get (ci := 1) (v := .int (nw + nI i26)) (C := RX1) (T := TX1) (N := 18) hx hb hts hin hown hK hP 0 rfl rfl 1 (by decide) (hts (.fieldLink RX1 122 "CurfewDeskModel" "time" "I") (by decide +kernel)) (fun _ h9 => h9) rfl dX1_pass_87 ?_
                refine lv_iconst (v := 1) hx hb dX1_pass_90 (by decide) ?_
                refine lv_iadd hx hb dX1_pass_91 ?_
                refine va_put (ci := 1) (v := .int ((nw + nI i26) + 1)) (ty := .int) (C := RX1) (T := TX1) (N := 18) hx hb hts hin tyX1 tyX1_ok nmX1 hown hK hP hD hS 0 rfl rfl 1 (by decide) (hts (.fieldLink RX1 122 "CurfewDeskModel" "time" "I") (by decide +kernel)) (fun _ h9 => h9) rfl (by decide +kernel) rfl rfl (Nat.le_of_ble_eq_true rfl) dX1_pass_92 (fun H locs hP hD hS => ?_)
                have hP : va_P G vwCl (Mk cI cZ h a F nq no np sh ((nw + nI i26) + 1) 0 wt) H := hP
                have hD : va_D A (Mk cI cZ h a F nq no np sh ((nw + nI i26) + 1) 0 wt) := hD
                refine lv_iinc (v := nI i26 + 1) (lv' := [(3, .int (nI i26 + 1)), (0, .ref h), (1, .int (nI j)), (2, .int (p_sm (fun k => nI (p_ct (p_pB F sh nw k) no)) i26 + nI (p_ct (p_pB F sh nw i26) no))), (4, .int (nI no))]) hx hb dX1_pass_95 hl (k := 3) rfl rfl (by decide) rfl (fun ls hl => ?_)
                refine lv_goto (tgt := 26) hx hb dX1_pass_98 (by decide) ?_
                have hP : va_P G vwCl (Mk cI cZ h a F nq no np sh (nw + nI (i26 + 1)) 0 wt) H := by rw [← nI_1, ← Int32.add_assoc]; exact hP
                have hD : va_D A (Mk cI cZ h a F nq no np sh (nw + nI (i26 + 1)) 0 wt) := by rw [← nI_1, ← Int32.add_assoc]; exact hD
                exact ih26 (i26 + 1) (by omega) (by omega) (p_sm (fun k => nI (p_ct (p_pB F sh nw k) no)) i26 + nI (p_ct (p_pB F sh nw i26) no)) (nI i26 + 1) (by rfl) (by first | exact nI_1 _ | exact nct_t (by assumption) | exact nct_f (by assumption) | exact nct_b | rfl) _ _ hP hD hS _ (lv_sub hl [1, 2, 3, 0] rfl)
              · have c40 := mt (nI_leI (a := no) (b := i34) (by omega) (by omega)).mpr c40
                have hlt_i34 : i34 < no := by omega
                refine lv_iload_n hx hb dX1_pass_43 rfl (lv_at hl 2 rfl) ?_
                refine lv_aload_n hx hb dX1_pass_44 rfl (lv_at hl 0 rfl) ?_
                refine lv_iload hx hb dX1_pass_45 (lv_at hl 4 rfl) ?_
                refine lv_aload_n hx hb dX1_pass_47 rfl (lv_at hl 0 rfl) ?_
                refine va_get (ci := 1) (v := .int (nw + nI i26)) (C := RX1) (T := TX1) (N := 18) hx hb hts hin hown hK hP 0 rfl rfl 1 (by decide) (hts (.fieldLink RX1 122 "CurfewDeskModel" "time" "I") (by decide +kernel)) (fun _ h9 => h9) rfl dX1_pass_48 ?_
                refine lv_iconst (v := 1) hx hb dX1_pass_51 (by decide) ?_
                refine lv_iadd hx hb dX1_pass_52 ?_
                refine w_in_i (va_runV (As := [.int (nI i34), .int ((nw + nI i26) + 1)]) (rest := [.int (p_sm (fun k => nI (p_ct (p_pB F sh nw k) no)) i26 + nI (p_ct (p_pB F sh nw i26) i34))]) ⟨hx, hb, hml, hown, hts⟩ (c_X1_onAt l G cI cZ h a F nq no np sh (nw + nI i26) 0 wt H.size i34 ((nw + nI i26) + 1) (by omega)) (cwV 2 hts gX1_pass_X1_onAt rfl rfl rfl (by decide +kernel) ⟨(Nat.le_of_ble_eq_true rfl), (Nat.le_of_ble_eq_true rfl)⟩) ⟨wPre_blind, va_recv hK hP (ci := 1) (q0 := 0) rfl rfl, w_pre hK hP hD⟩ rfl rfl hl.1 rfl (lv_room (Nat.le_of_ble_eq_true rfl)) dX1_pass_53 ⟨(Nat.le_of_ble_eq_true rfl), (Nat.le_of_ble_eq_true rfl)⟩) hD hS hA (fun r53 u53 H locs hw53 hP hD hS => ?_)
                have hP : va_P G vwCl (Mk cI cZ h a F nq no np sh (nw + nI i26) 0 wt) H := hP
                have hD : va_D A (Mk cI cZ h a F nq no np sh (nw + nI i26) 0 wt) := hD
                have hw53 : r53 = b2i (p_on F sh i34 ((nw + nI i26) + 1)) := hw53
                subst hw53
                refine lv_if_eq (tgt := 76) hx hb dX1_pass_56 (by decide) (fun c56 => ?_) (fun c56 => ?_)
                · have c56 := b2i_0.mp c56
                  refine lv_iconst (v := 0) hx hb dX1_pass_76 (by decide) ?_
                  refine lv_iadd hx hb dX1_pass_77 ?_
                  refine lv_istore_n (lv' := [(2, .int ((p_sm (fun k => nI (p_ct (p_pB F sh nw k) no)) i26 + nI (p_ct (p_pB F sh nw i26) i34)) + 0)), (0, .ref h), (1, .int (nI j)), (3, .int (nI i26)), (4, .int (nI i34))]) hx hb dX1_pass_78 rfl hl (by decide) rfl (fun ls hl => ?_)
                  refine lv_iinc (v := nI i34 + 1) (lv' := [(4, .int (nI i34 + 1)), (2, .int ((p_sm (fun k => nI (p_ct (p_pB F sh nw k) no)) i26 + nI (p_ct (p_pB F sh nw i26) i34)) + 0)), (0, .ref h), (1, .int (nI j)), (3, .int (nI i26))]) hx hb dX1_pass_79 hl (k := 4) rfl rfl (by decide) rfl (fun ls hl => ?_)
                  refine lv_goto (tgt := 34) hx hb dX1_pass_82 (by decide) ?_
                  exact ih34 (i34 + 1) (by omega) (by omega) ((p_sm (fun k => nI (p_ct (p_pB F sh nw k) no)) i26 + nI (p_ct (p_pB F sh nw i26) i34)) + 0) (nI i34 + 1) (by rw [Int32.add_assoc]; congr 1; first | (have e9 : p_pB F sh nw i26 i34 = !p_on F sh i34 (nw + nI i26) := by rw [p_pB, c56, Bool.true_and]); rw [← e9]; exact nct_b | (have e9 : p_pB F sh nw i26 i34 = false := by rw [p_pB, c56, Bool.false_and]); rw [Int32.add_zero]; exact nct_f e9) (by first | exact nI_1 _ | exact nct_t (by assumption) | exact nct_f (by assumption) | exact nct_b | rfl) _ _ hP hD hS _ (lv_sub hl [2, 3, 1, 4, 0] rfl)
                · have c56 := b2i_1.mp c56
                  refine lv_aload_n hx hb dX1_pass_59 rfl (lv_at hl 0 rfl) ?_
                  refine lv_iload hx hb dX1_pass_60 (lv_at hl 4 rfl) ?_
                  refine lv_aload_n hx hb dX1_pass_62 rfl (lv_at hl 0 rfl) ?_
                  refine va_get (ci := 1) (v := .int (nw + nI i26)) (C := RX1) (T := TX1) (N := 18) hx hb hts hin hown hK hP 0 rfl rfl 1 (by decide) (hts (.fieldLink RX1 122 "CurfewDeskModel" "time" "I") (by decide +kernel)) (fun _ h9 => h9) rfl dX1_pass_63 ?_
                  refine w_in_i (va_runV (As := [.int (nI i34), .int (nw + nI i26)]) (rest := [.int (p_sm (fun k => nI (p_ct (p_pB F sh nw k) no)) i26 + nI (p_ct (p_pB F sh nw i26) i34))]) ⟨hx, hb, hml, hown, hts⟩ (c_X1_onAt l G cI cZ h a F nq no np sh (nw + nI i26) 0 wt H.size i34 (nw + nI i26) (by omega)) (cwV 2 hts gX1_pass_X1_onAt rfl rfl rfl (by decide +kernel) ⟨(Nat.le_of_ble_eq_true rfl), (Nat.le_of_ble_eq_true rfl)⟩) ⟨wPre_blind, va_recv hK hP (ci := 1) (q0 := 0) rfl rfl, w_pre hK hP hD⟩ rfl rfl hl.1 rfl (lv_room (Nat.le_of_ble_eq_true rfl)) dX1_pass_66 ⟨(Nat.le_of_ble_eq_true rfl), (Nat.le_of_ble_eq_true rfl)⟩) hD hS hA (fun r66 u66 H locs hw66 hP hD hS => ?_)
                  have hP : va_P G vwCl (Mk cI cZ h a F nq no np sh (nw + nI i26) 0 wt) H := hP
                  have hD : va_D A (Mk cI cZ h a F nq no np sh (nw + nI i26) 0 wt) := hD
                  have hw66 : r66 = b2i (p_on F sh i34 (nw + nI i26)) := hw66
                  subst hw66
                  refine w_selN (v1 := 1) (v2 := 0) hx hb dX1_pass_69 (by decide) dX1_pass_72 (by decide) dX1_pass_73 (by decide) dX1_pass_76 (by decide) ?_
                  rw [b2i_sel']
                  refine lv_iadd hx hb dX1_pass_77 ?_
                  refine lv_istore_n (lv' := [(2, .int ((p_sm (fun k => nI (p_ct (p_pB F sh nw k) no)) i26 + nI (p_ct (p_pB F sh nw i26) i34)) + (b2i (!(p_on F sh i34 (nw + nI i26)))))), (0, .ref h), (1, .int (nI j)), (3, .int (nI i26)), (4, .int (nI i34))]) hx hb dX1_pass_78 rfl hl (by decide) rfl (fun ls hl => ?_)
                  refine lv_iinc (v := nI i34 + 1) (lv' := [(4, .int (nI i34 + 1)), (2, .int ((p_sm (fun k => nI (p_ct (p_pB F sh nw k) no)) i26 + nI (p_ct (p_pB F sh nw i26) i34)) + (b2i (!(p_on F sh i34 (nw + nI i26)))))), (0, .ref h), (1, .int (nI j)), (3, .int (nI i26))]) hx hb dX1_pass_79 hl (k := 4) rfl rfl (by decide) rfl (fun ls hl => ?_)
                  refine lv_goto (tgt := 34) hx hb dX1_pass_82 (by decide) ?_
                  exact ih34 (i34 + 1) (by omega) (by omega) ((p_sm (fun k => nI (p_ct (p_pB F sh nw k) no)) i26 + nI (p_ct (p_pB F sh nw i26) i34)) + (b2i (!(p_on F sh i34 (nw + nI i26))))) (nI i34 + 1) (by rw [Int32.add_assoc]; congr 1; first | (have e9 : p_pB F sh nw i26 i34 = !p_on F sh i34 (nw + nI i26) := by rw [p_pB, c56, Bool.true_and]); rw [← e9]; exact nct_b | (have e9 : p_pB F sh nw i26 i34 = false := by rw [p_pB, c56, Bool.false_and]); rw [Int32.add_zero]; exact nct_f e9) (by first | exact nI_1 _ | exact nct_t (by assumption) | exact nct_f (by assumption) | exact nct_b | rfl) _ _ hP hD hS _ (lv_sub hl [2, 3, 1, 4, 0] rfl)
          exact key34 (no + 1) 0 (by omega) (by omega) (p_sm (fun k => nI (p_ct (p_pB F sh nw k) no)) i26) 0 (by rw [show nI (p_ct (p_pB F sh nw i26) 0) = 0 from nI_0, Int32.add_zero]) (by first | rfl | simp [p_ct, p_sm, p_fl, p_fg, nI_0]) _ _ hP hD hS _ (lv_sub hl [1, 2, 3, 4, 0] rfl)
    have hP : va_P G vwCl (Mk cI cZ h a F nq no np sh (nw + nI 0) 0 wt) H := by rw [nI_0, Int32.add_zero]; exact hP
    have hD : va_D A (Mk cI cZ h a F nq no np sh (nw + nI 0) 0 wt) := by rw [nI_0, Int32.add_zero]; exact hD
    exact key26 (j + 1) 0 (by omega) (by omega) 0 0 (by first | rfl | simp [p_ct, p_sm, p_fl, p_fg, nI_0]) (by first | rfl | simp [p_ct, p_sm, p_fl, p_fg, nI_0]) _ _ hP hD hS _ (lv_sub hl [2, 3, 1, 0] rfl)
  · have c13 := b2i_0.mp c13
    refine lv_aload_n hx hb dX1_pass_16 rfl (lv_at hl 0 rfl) ?_
    refine lv_iconst (v := 1) hx hb dX1_pass_17 (by decide) ?_
    refine w_in_i (va_runV (As := [.int 1]) (rest := []) ⟨hx, hb, hml, hown, hts⟩ (c_X1_fail l G cI cZ h a F nq no np sh nw 0 wt H.size 1 ) (cwV 1 hts gX1_pass_X1_fail rfl rfl rfl (by decide +kernel) ⟨(Nat.le_of_ble_eq_true rfl), (Nat.le_of_ble_eq_true rfl)⟩) ⟨wPre_blind, va_recv hK hP (ci := 1) (q0 := 0) rfl rfl, w_pre hK hP hD⟩ rfl rfl hl.1 rfl (lv_room (Nat.le_of_ble_eq_true rfl)) dX1_pass_18 ⟨(Nat.le_of_ble_eq_true rfl), (Nat.le_of_ble_eq_true rfl)⟩) hD hS hA (fun r18 u18 H locs hw18 hP hD hS => ?_)
    have hP : va_P G vwCl (Mk cI cZ h a F nq no np sh nw 1 wt) H := hP
    have hD : va_D A (Mk cI cZ h a F nq no np sh nw 1 wt) := hD
    have hw18 : r18 = 0 := hw18
    subst hw18
    have hk : k1 (p_wi x 1 200) = 1 := by rw [c13]; rfl
    have hP : va_P G vwCl (Mk cI cZ h a F nq no np sh (nx (k1 (p_wi x 1 200)) (nw + x) nw) (k1 (p_wi x 1 200)) wt) H := by (simp only [hk, nx0, nx1, nx2, nx3]); exact hP
    have hD : va_D A (Mk cI cZ h a F nq no np sh (nx (k1 (p_wi x 1 200)) (nw + x) nw) (k1 (p_wi x 1 200)) wt) := by (simp only [hk, nx0, nx1, nx2, nx3]); exact hD
    exact w_iret () hx hb hr hlocks hK hP hD hS (Nat.le_of_ble_eq_true rfl) (Nat.le_of_ble_eq_true rfl) dX1_pass_21 (show k1 (p_wi x 1 200) = 0 → 0 = a_pa F sh nw no x.toNatClampNeg from by intro hh9; rw [hk] at hh9; exact absurd hh9 (by decide))
set_option maxHeartbeats 4000000 in
set_option maxRecDepth 100000 in
theorem c_X1_addQuarter (l : Launch) (G : va_G) (cI cZ : ClassId) (h : Nat) (a : Nat → Nat) (F : Nat → Nat → Int32) (nq no np : Nat) (sh nw : Int32) (th : Int32) (wt : Nat → Int32) (sz : Nat) (hnq : nq ≤ 6) : Met l yX1_addQuarter wsX1_addQuarter ({ frames := 1, cells := 0, slots := 0, locals := 21 } : Room) (va_Pc [.ref h] (wPre G (ty2 cI cZ) (Mk cI cZ h a F nq no np sh nw th wt) sz)) (va_Qi (fun (r : Int32) (_ : Unit) => k1 (!decide (nq = 6)) = 0 → r = nI nq) (fun _ => wP G (ty2 cI cZ) (Mk cI cZ h a F (nx (k1 (!decide (nq = 6))) (nq + 1) nq) no np sh nw (k1 (!decide (nq = 6))) wt) (va_A (Mk cI cZ h a F nq no np sh nw th wt) sz)) (va_A (Mk cI cZ h a F nq no np sh nw th wt) sz)) 0 0 (va_A (Mk cI cZ h a F nq no np sh nw th wt) sz) := by
  refine w_met (cc := cX1_addQuarter) (maxL := 1) (ret := (some .int)) (by decide) rfl (Nat.le_of_ble_eq_true rfl) ?_
  intro pg e s m below meth cd hx hb hml hr hts hown hlocks hnm hK hsz hP hD hA hS ls hl
  have hown : s.vm.findClass RX1 = some m.cls := hown
  have hin : ∀ w ∈ wsX10, w ∈ wsX1_addQuarter := by decide +kernel
  have hl : lv_has ls 1 [(0, .ref h)] := hl
  generalize hAe : va_A (Mk cI cZ h a F nq no np sh nw th wt) sz = A at hD hA hS ⊢
  refine lv_aload_n hx hb dX1_addQuarter_0 rfl (lv_at hl 0 rfl) ?_
  refine lv_iconst (v := 0) hx hb dX1_addQuarter_1 (by decide) ?_
  refine va_put (ci := 1) (v := .int 0) (ty := .int) (C := RX1) (T := TX1) (N := 18) hx hb hts hin tyX1 tyX1_ok nmX1 hown hK hP hD hS 0 rfl rfl 0 (by decide) (hts (.fieldLink RX1 47 "CurfewDeskModel" "thrown" "I") (by decide +kernel)) (fun _ h9 => h9) rfl (by decide +kernel) rfl rfl (Nat.le_of_ble_eq_true rfl) dX1_addQuarter_2 (fun H locs hP hD hS => ?_)
  have hP : va_P G vwCl (Mk cI cZ h a F nq no np sh nw 0 wt) H := hP
  have hD : va_D A (Mk cI cZ h a F nq no np sh nw 0 wt) := hD
  refine lv_aload_n hx hb dX1_addQuarter_5 rfl (lv_at hl 0 rfl) ?_
  refine va_get (ci := 1) (v := .int (nI nq)) (C := RX1) (T := TX1) (N := 18) hx hb hts hin hown hK hP 0 rfl rfl 3 (by decide) (hts (.fieldLink RX1 51 "CurfewDeskModel" "quarters" "I") (by decide +kernel)) (fun _ h9 => h9) rfl dX1_addQuarter_6 ?_
  refine lv_bipush (v := 6) hx hb dX1_addQuarter_9 (by decide) ?_
  refine lv_icmp_ne (tgt := 20) hx hb dX1_addQuarter_11 (by decide) (fun c11 => ?_) (fun c11 => ?_)
  · have c11 := ne_t (n := nq) (k := 6) c11
    refine lv_aload_n hx hb dX1_addQuarter_20 rfl (lv_at hl 0 rfl) ?_
    refine lv_dup hx hb dX1_addQuarter_21 rfl ?_
    refine va_get (ci := 1) (v := .int (nI nq)) (C := RX1) (T := TX1) (N := 18) hx hb hts hin hown hK hP 0 rfl rfl 3 (by decide) (hts (.fieldLink RX1 51 "CurfewDeskModel" "quarters" "I") (by decide +kernel)) (fun _ h9 => h9) rfl dX1_addQuarter_22 ?_
    refine lv_iconst (v := 1) hx hb dX1_addQuarter_25 (by decide) ?_
    refine lv_iadd hx hb dX1_addQuarter_26 ?_
    rw [nI_1]
    refine va_put (ci := 1) (v := .int (nI (nq + 1))) (ty := .int) (C := RX1) (T := TX1) (N := 18) hx hb hts hin tyX1 tyX1_ok nmX1 hown hK hP hD hS 0 rfl rfl 3 (by decide) (hts (.fieldLink RX1 51 "CurfewDeskModel" "quarters" "I") (by decide +kernel)) (fun _ h9 => h9) rfl (by decide +kernel) rfl rfl (Nat.le_of_ble_eq_true rfl) dX1_addQuarter_27 (fun H locs hP hD hS => ?_)
    have hP : va_P G vwCl (Mk cI cZ h a F (nq + 1) no np sh nw 0 wt) H := hP
    have hD : va_D A (Mk cI cZ h a F (nq + 1) no np sh nw 0 wt) := hD
    refine lv_aload_n hx hb dX1_addQuarter_30 rfl (lv_at hl 0 rfl) ?_
    refine va_get (ci := 1) (v := .int (nI (nq + 1))) (C := RX1) (T := TX1) (N := 18) hx hb hts hin hown hK hP 0 rfl rfl 3 (by decide) (hts (.fieldLink RX1 51 "CurfewDeskModel" "quarters" "I") (by decide +kernel)) (fun _ h9 => h9) rfl dX1_addQuarter_31 ?_
    refine lv_iconst (v := 1) hx hb dX1_addQuarter_34 (by decide) ?_
    refine lv_isub hx hb dX1_addQuarter_35 ?_
    have hk : k1 (!decide (nq = 6)) = 0 := by rw [c11]; rfl
    have hP : va_P G vwCl (Mk cI cZ h a F (nx (k1 (!decide (nq = 6))) (nq + 1) nq) no np sh nw (k1 (!decide (nq = 6))) wt) H := by (simp only [hk, nx0, nx1, nx2, nx3]); exact hP
    have hD : va_D A (Mk cI cZ h a F (nx (k1 (!decide (nq = 6))) (nq + 1) nq) no np sh nw (k1 (!decide (nq = 6))) wt) := by (simp only [hk, nx0, nx1, nx2, nx3]); exact hD
    exact w_iret () hx hb hr hlocks hK hP hD hS (Nat.le_of_ble_eq_true rfl) (Nat.le_of_ble_eq_true rfl) dX1_addQuarter_36 (show k1 (!decide (nq = 6)) = 0 → ((nI (nq + 1)) - 1) = nI nq from by intro _; exact nI_pred _)
  · have c11 := ne_f (n := nq) (k := 6) (by omega) (by omega) c11
    refine lv_aload_n hx hb dX1_addQuarter_14 rfl (lv_at hl 0 rfl) ?_
    refine lv_iconst (v := 1) hx hb dX1_addQuarter_15 (by decide) ?_
    refine w_in_i (va_runV (As := [.int 1]) (rest := []) ⟨hx, hb, hml, hown, hts⟩ (c_X1_fail l G cI cZ h a F nq no np sh nw 0 wt H.size 1 ) (cwV 1 hts gX1_addQuarter_X1_fail rfl rfl rfl (by decide +kernel) ⟨(Nat.le_of_ble_eq_true rfl), (Nat.le_of_ble_eq_true rfl)⟩) ⟨wPre_blind, va_recv hK hP (ci := 1) (q0 := 0) rfl rfl, w_pre hK hP hD⟩ rfl rfl hl.1 rfl (lv_room (Nat.le_of_ble_eq_true rfl)) dX1_addQuarter_16 ⟨(Nat.le_of_ble_eq_true rfl), (Nat.le_of_ble_eq_true rfl)⟩) hD hS hA (fun r16 u16 H locs hw16 hP hD hS => ?_)
    have hP : va_P G vwCl (Mk cI cZ h a F nq no np sh nw 1 wt) H := hP
    have hD : va_D A (Mk cI cZ h a F nq no np sh nw 1 wt) := hD
    have hw16 : r16 = 0 := hw16
    subst hw16
    have hk : k1 (!decide (nq = 6)) = 1 := by rw [c11]; rfl
    have hP : va_P G vwCl (Mk cI cZ h a F (nx (k1 (!decide (nq = 6))) (nq + 1) nq) no np sh nw (k1 (!decide (nq = 6))) wt) H := by (simp only [hk, nx0, nx1, nx2, nx3]); exact hP
    have hD : va_D A (Mk cI cZ h a F (nx (k1 (!decide (nq = 6))) (nq + 1) nq) no np sh nw (k1 (!decide (nq = 6))) wt) := by (simp only [hk, nx0, nx1, nx2, nx3]); exact hD
    exact w_iret () hx hb hr hlocks hK hP hD hS (Nat.le_of_ble_eq_true rfl) (Nat.le_of_ble_eq_true rfl) dX1_addQuarter_19 (show k1 (!decide (nq = 6)) = 0 → 0 = nI nq from by intro hh9; rw [hk] at hh9; exact absurd hh9 (by decide))
set_option maxHeartbeats 4000000 in
set_option maxRecDepth 100000 in
theorem c_X1_addPerson (l : Launch) (G : va_G) (cI cZ : ClassId) (h : Nat) (a : Nat → Nat) (F : Nat → Nat → Int32) (nq no np : Nat) (sh nw : Int32) (th : Int32) (wt : Nat → Int32) (sz : Nat) (x : Int32) (hnp : np ≤ 20) : Met l yX1_addPerson wsX1_addPerson ({ frames := 2, cells := 0, slots := 0, locals := 42 } : Room) (va_Pc [.ref h, .int x] (wPre G (ty2 cI cZ) (Mk cI cZ h a F nq no np sh nw th wt) sz)) (va_Qi (fun (r : Int32) (_ : Unit) => k2 (p_in x 8) (!decide (np = 20)) = 0 → r = nI np) (fun _ => wP G (ty2 cI cZ) (Mk cI cZ h a (nx (k2 (p_in x 8) (!decide (np = 20))) (n_pe F np x) F) nq no (nx (k2 (p_in x 8) (!decide (np = 20))) (np + 1) np) sh nw (k2 (p_in x 8) (!decide (np = 20))) wt) (va_A (Mk cI cZ h a F nq no np sh nw th wt) sz)) (va_A (Mk cI cZ h a F nq no np sh nw th wt) sz)) 0 0 (va_A (Mk cI cZ h a F nq no np sh nw th wt) sz) := by
  refine w_met (cc := cX1_addPerson) (maxL := 2) (ret := (some .int)) (by decide) rfl (Nat.le_of_ble_eq_true rfl) ?_
  intro pg e s m below meth cd hx hb hml hr hts hown hlocks hnm hK hsz hP hD hA hS ls hl
  have hown : s.vm.findClass RX1 = some m.cls := hown
  have hin : ∀ w ∈ wsX10, w ∈ wsX1_addPerson := by decide +kernel
  have hl : lv_has ls 2 [(0, .ref h), (1, .int x)] := hl
  generalize hAe : va_A (Mk cI cZ h a F nq no np sh nw th wt) sz = A at hD hA hS ⊢
  refine lv_aload_n hx hb dX1_addPerson_0 rfl (lv_at hl 0 rfl) ?_
  refine lv_iconst (v := 0) hx hb dX1_addPerson_1 (by decide) ?_
  refine va_put (ci := 1) (v := .int 0) (ty := .int) (C := RX1) (T := TX1) (N := 18) hx hb hts hin tyX1 tyX1_ok nmX1 hown hK hP hD hS 0 rfl rfl 0 (by decide) (hts (.fieldLink RX1 47 "CurfewDeskModel" "thrown" "I") (by decide +kernel)) (fun _ h9 => h9) rfl (by decide +kernel) rfl rfl (Nat.le_of_ble_eq_true rfl) dX1_addPerson_2 (fun H locs hP hD hS => ?_)
  have hP : va_P G vwCl (Mk cI cZ h a F nq no np sh nw 0 wt) H := hP
  have hD : va_D A (Mk cI cZ h a F nq no np sh nw 0 wt) := hD
  refine lv_iload_n hx hb dX1_addPerson_5 rfl (lv_at hl 1 rfl) ?_
  refine w_st_i (va_runS (As := [.int x]) (rest := []) ⟨hx, hb, hml, hown, hts⟩ (c_X1_isTrade l G H.size x ) (va_cwS 1 hts gX1_addPerson_X1_isTrade rfl rfl rfl (by decide +kernel) ⟨(Nat.le_of_ble_eq_true rfl), (Nat.le_of_ble_eq_true rfl)⟩) ⟨wPre_blind, w_pre (hK.sub [] rfl) w_P0 (w_D0 (A := A))⟩ rfl rfl hl.1 rfl (lv_room (Nat.le_of_ble_eq_true rfl)) dX1_addPerson_6 ⟨(Nat.le_of_ble_eq_true rfl), (Nat.le_of_ble_eq_true rfl)⟩) hP hS hA (fun r6 u6 H locs hw6 hP hS => ?_)
  have hw6 : r6 = b2i (p_in x 8) := hw6
  subst hw6
  refine lv_if_ne (tgt := 18) hx hb dX1_addPerson_9 (by decide) (fun c9 => ?_) (fun c9 => ?_)
  · have c9 := b2i_1.mp c9
    refine lv_aload_n hx hb dX1_addPerson_18 rfl (lv_at hl 0 rfl) ?_
    refine va_get (ci := 1) (v := .int (nI np)) (C := RX1) (T := TX1) (N := 18) hx hb hts hin hown hK hP 0 rfl rfl 5 (by decide) (hts (.fieldLink RX1 61 "CurfewDeskModel" "people" "I") (by decide +kernel)) (fun _ h9 => h9) rfl dX1_addPerson_19 ?_
    refine lv_bipush (v := 20) hx hb dX1_addPerson_22 (by decide) ?_
    refine lv_icmp_ne (tgt := 33) hx hb dX1_addPerson_24 (by decide) (fun c24 => ?_) (fun c24 => ?_)
    · have c24 := ne_t (n := np) (k := 20) c24
      have q24 : np < 20 := Nat.lt_of_le_of_ne hnp (by simpa using c24)
      refine lv_aload_n hx hb dX1_addPerson_33 rfl (lv_at hl 0 rfl) ?_
      refine va_get (ci := 1) (v := .ref (a 6)) (C := RX1) (T := TX1) (N := 18) hx hb hts hin hown hK hP 0 rfl rfl 12 (by decide) (hts (.fieldLink RX1 29 "CurfewDeskModel" "trade" "[I") (by decide +kernel)) (fun _ h9 => h9) rfl dX1_addPerson_34 ?_
      refine lv_aload_n hx hb dX1_addPerson_37 rfl (lv_at hl 0 rfl) ?_
      refine va_get (ci := 1) (v := .int (nI np)) (C := RX1) (T := TX1) (N := 18) hx hb hts hin hown hK hP 0 rfl rfl 5 (by decide) (hts (.fieldLink RX1 61 "CurfewDeskModel" "people" "I") (by decide +kernel)) (fun _ h9 => h9) rfl dX1_addPerson_38 ?_
      refine lv_iload_n hx hb dX1_addPerson_41 rfl (lv_at hl 1 rfl) ?_
      refine w_iast hx hb hK hP hD hS 7 0 rfl rfl (f := (F 6)) (j := np) (by omega) (by omega) dX1_addPerson_42 (fun H locs hP hD hS => ?_)
      have hP : va_P G vwCl (Mk cI cZ h a (va_up F 6 (upd (F 6) np x)) nq no np sh nw 0 wt) H := hP
      have hD : va_D A (Mk cI cZ h a (va_up F 6 (upd (F 6) np x)) nq no np sh nw 0 wt) := hD
      refine lv_aload_n hx hb dX1_addPerson_43 rfl (lv_at hl 0 rfl) ?_
      refine lv_dup hx hb dX1_addPerson_44 rfl ?_
      refine va_get (ci := 1) (v := .int (nI np)) (C := RX1) (T := TX1) (N := 18) hx hb hts hin hown hK hP 0 rfl rfl 5 (by decide) (hts (.fieldLink RX1 61 "CurfewDeskModel" "people" "I") (by decide +kernel)) (fun _ h9 => h9) rfl dX1_addPerson_45 ?_
      refine lv_iconst (v := 1) hx hb dX1_addPerson_48 (by decide) ?_
      refine lv_iadd hx hb dX1_addPerson_49 ?_
      rw [nI_1]
      refine va_put (ci := 1) (v := .int (nI (np + 1))) (ty := .int) (C := RX1) (T := TX1) (N := 18) hx hb hts hin tyX1 tyX1_ok nmX1 hown hK hP hD hS 0 rfl rfl 5 (by decide) (hts (.fieldLink RX1 61 "CurfewDeskModel" "people" "I") (by decide +kernel)) (fun _ h9 => h9) rfl (by decide +kernel) rfl rfl (Nat.le_of_ble_eq_true rfl) dX1_addPerson_50 (fun H locs hP hD hS => ?_)
      have hP : va_P G vwCl (Mk cI cZ h a (va_up F 6 (upd (F 6) np x)) nq no (np + 1) sh nw 0 wt) H := hP
      have hD : va_D A (Mk cI cZ h a (va_up F 6 (upd (F 6) np x)) nq no (np + 1) sh nw 0 wt) := hD
      refine lv_aload_n hx hb dX1_addPerson_53 rfl (lv_at hl 0 rfl) ?_
      refine va_get (ci := 1) (v := .int (nI (np + 1))) (C := RX1) (T := TX1) (N := 18) hx hb hts hin hown hK hP 0 rfl rfl 5 (by decide) (hts (.fieldLink RX1 61 "CurfewDeskModel" "people" "I") (by decide +kernel)) (fun _ h9 => h9) rfl dX1_addPerson_54 ?_
      refine lv_iconst (v := 1) hx hb dX1_addPerson_57 (by decide) ?_
      refine lv_isub hx hb dX1_addPerson_58 ?_
      have hk : k2 (p_in x 8) (!decide (np = 20)) = 0 := by rw [c9, c24]; rfl
      have hP : va_P G vwCl (Mk cI cZ h a (nx (k2 (p_in x 8) (!decide (np = 20))) (n_pe F np x) F) nq no (nx (k2 (p_in x 8) (!decide (np = 20))) (np + 1) np) sh nw (k2 (p_in x 8) (!decide (np = 20))) wt) H := by (simp only [hk, nx0, nx1, nx2, nx3]); exact hP
      have hD : va_D A (Mk cI cZ h a (nx (k2 (p_in x 8) (!decide (np = 20))) (n_pe F np x) F) nq no (nx (k2 (p_in x 8) (!decide (np = 20))) (np + 1) np) sh nw (k2 (p_in x 8) (!decide (np = 20))) wt) := by (simp only [hk, nx0, nx1, nx2, nx3]); exact hD
      exact w_iret () hx hb hr hlocks hK hP hD hS (Nat.le_of_ble_eq_true rfl) (Nat.le_of_ble_eq_true rfl) dX1_addPerson_59 (show k2 (p_in x 8) (!decide (np = 20)) = 0 → ((nI (np + 1)) - 1) = nI np from by intro _; exact nI_pred _)
    · have c24 := ne_f (n := np) (k := 20) (by omega) (by omega) c24
      refine lv_aload_n hx hb dX1_addPerson_27 rfl (lv_at hl 0 rfl) ?_
      refine lv_iconst (v := 2) hx hb dX1_addPerson_28 (by decide) ?_
      refine w_in_i (va_runV (As := [.int 2]) (rest := []) ⟨hx, hb, hml, hown, hts⟩ (c_X1_fail l G cI cZ h a F nq no np sh nw 0 wt H.size 2 ) (cwV 1 hts gX1_addPerson_X1_fail rfl rfl rfl (by decide +kernel) ⟨(Nat.le_of_ble_eq_true rfl), (Nat.le_of_ble_eq_true rfl)⟩) ⟨wPre_blind, va_recv hK hP (ci := 1) (q0 := 0) rfl rfl, w_pre hK hP hD⟩ rfl rfl hl.1 rfl (lv_room (Nat.le_of_ble_eq_true rfl)) dX1_addPerson_29 ⟨(Nat.le_of_ble_eq_true rfl), (Nat.le_of_ble_eq_true rfl)⟩) hD hS hA (fun r29 u29 H locs hw29 hP hD hS => ?_)
      have hP : va_P G vwCl (Mk cI cZ h a F nq no np sh nw 2 wt) H := hP
      have hD : va_D A (Mk cI cZ h a F nq no np sh nw 2 wt) := hD
      have hw29 : r29 = 0 := hw29
      subst hw29
      have hk : k2 (p_in x 8) (!decide (np = 20)) = 2 := by rw [c9, c24]; rfl
      have hP : va_P G vwCl (Mk cI cZ h a (nx (k2 (p_in x 8) (!decide (np = 20))) (n_pe F np x) F) nq no (nx (k2 (p_in x 8) (!decide (np = 20))) (np + 1) np) sh nw (k2 (p_in x 8) (!decide (np = 20))) wt) H := by (simp only [hk, nx0, nx1, nx2, nx3]); exact hP
      have hD : va_D A (Mk cI cZ h a (nx (k2 (p_in x 8) (!decide (np = 20))) (n_pe F np x) F) nq no (nx (k2 (p_in x 8) (!decide (np = 20))) (np + 1) np) sh nw (k2 (p_in x 8) (!decide (np = 20))) wt) := by (simp only [hk, nx0, nx1, nx2, nx3]); exact hD
      exact w_iret () hx hb hr hlocks hK hP hD hS (Nat.le_of_ble_eq_true rfl) (Nat.le_of_ble_eq_true rfl) dX1_addPerson_32 (show k2 (p_in x 8) (!decide (np = 20)) = 0 → 0 = nI np from by intro hh9; rw [hk] at hh9; exact absurd hh9 (by decide))
  · have c9 := b2i_0.mp c9
    refine lv_aload_n hx hb dX1_addPerson_12 rfl (lv_at hl 0 rfl) ?_
    refine lv_iconst (v := 1) hx hb dX1_addPerson_13 (by decide) ?_
    refine w_in_i (va_runV (As := [.int 1]) (rest := []) ⟨hx, hb, hml, hown, hts⟩ (c_X1_fail l G cI cZ h a F nq no np sh nw 0 wt H.size 1 ) (cwV 1 hts gX1_addPerson_X1_fail rfl rfl rfl (by decide +kernel) ⟨(Nat.le_of_ble_eq_true rfl), (Nat.le_of_ble_eq_true rfl)⟩) ⟨wPre_blind, va_recv hK hP (ci := 1) (q0 := 0) rfl rfl, w_pre hK hP hD⟩ rfl rfl hl.1 rfl (lv_room (Nat.le_of_ble_eq_true rfl)) dX1_addPerson_14 ⟨(Nat.le_of_ble_eq_true rfl), (Nat.le_of_ble_eq_true rfl)⟩) hD hS hA (fun r14 u14 H locs hw14 hP hD hS => ?_)
    have hP : va_P G vwCl (Mk cI cZ h a F nq no np sh nw 1 wt) H := hP
    have hD : va_D A (Mk cI cZ h a F nq no np sh nw 1 wt) := hD
    have hw14 : r14 = 0 := hw14
    subst hw14
    have hk : k2 (p_in x 8) (!decide (np = 20)) = 1 := by rw [c9]; rfl
    have hP : va_P G vwCl (Mk cI cZ h a (nx (k2 (p_in x 8) (!decide (np = 20))) (n_pe F np x) F) nq no (nx (k2 (p_in x 8) (!decide (np = 20))) (np + 1) np) sh nw (k2 (p_in x 8) (!decide (np = 20))) wt) H := by (simp only [hk, nx0, nx1, nx2, nx3]); exact hP
    have hD : va_D A (Mk cI cZ h a (nx (k2 (p_in x 8) (!decide (np = 20))) (n_pe F np x) F) nq no (nx (k2 (p_in x 8) (!decide (np = 20))) (np + 1) np) sh nw (k2 (p_in x 8) (!decide (np = 20))) wt) := by (simp only [hk, nx0, nx1, nx2, nx3]); exact hD
    exact w_iret () hx hb hr hlocks hK hP hD hS (Nat.le_of_ble_eq_true rfl) (Nat.le_of_ble_eq_true rfl) dX1_addPerson_17 (show k2 (p_in x 8) (!decide (np = 20)) = 0 → 0 = nI np from by intro hh9; rw [hk] at hh9; exact absurd hh9 (by decide))
set_option maxHeartbeats 4000000 in
set_option maxRecDepth 100000 in
theorem c_X1_addOrder (l : Launch) (G : va_G) (cI cZ : ClassId) (h : Nat) (a : Nat → Nat) (F : Nat → Nat → Int32) (nq no np : Nat) (sh nw : Int32) (th : Int32) (wt : Nat → Int32) (sz : Nat) (x : Int32) (y : Int32) (z : Int32) (v : Int32) (hnq : nq ≤ 6) (hno : no ≤ 10) : Met l yX1_addOrder wsX1_addOrder ({ frames := 2, cells := 0, slots := 0, locals := 43 } : Room) (va_Pc [.ref h, .int x, .int y, .int z, .int v] (wPre G (ty2 cI cZ) (Mk cI cZ h a F nq no np sh nw th wt) sz)) (va_Qi (fun (r : Int32) (_ : Unit) => k3 (p_in x nq && p_in v 4) (p_wi y 0 4 && p_wi z 0 4) (!decide (no = 10)) = 0 → r = nI no) (fun _ => wP G (ty2 cI cZ) (Mk cI cZ h a (nx (k3 (p_in x nq && p_in v 4) (p_wi y 0 4 && p_wi z 0 4) (!decide (no = 10))) (n_or F no x y z v) F) nq (nx (k3 (p_in x nq && p_in v 4) (p_wi y 0 4 && p_wi z 0 4) (!decide (no = 10))) (no + 1) no) np sh nw (k3 (p_in x nq && p_in v 4) (p_wi y 0 4 && p_wi z 0 4) (!decide (no = 10))) wt) (va_A (Mk cI cZ h a F nq no np sh nw th wt) sz)) (va_A (Mk cI cZ h a F nq no np sh nw th wt) sz)) 0 0 (va_A (Mk cI cZ h a F nq no np sh nw th wt) sz) := by
  refine w_met (cc := cX1_addOrder) (maxL := 5) (ret := (some .int)) (by decide) rfl (Nat.le_of_ble_eq_true rfl) ?_
  intro pg e s m below meth cd hx hb hml hr hts hown hlocks hnm hK hsz hP hD hA hS ls hl
  have hown : s.vm.findClass RX1 = some m.cls := hown
  have hin : ∀ w ∈ wsX10, w ∈ wsX1_addOrder := by decide +kernel
  have hl : lv_has ls 5 [(0, .ref h), (1, .int x), (2, .int y), (3, .int z), (4, .int v)] := hl
  generalize hAe : va_A (Mk cI cZ h a F nq no np sh nw th wt) sz = A at hD hA hS ⊢
  refine lv_aload_n hx hb dX1_addOrder_0 rfl (lv_at hl 0 rfl) ?_
  refine lv_iconst (v := 0) hx hb dX1_addOrder_1 (by decide) ?_
  refine va_put (ci := 1) (v := .int 0) (ty := .int) (C := RX1) (T := TX1) (N := 18) hx hb hts hin tyX1 tyX1_ok nmX1 hown hK hP hD hS 0 rfl rfl 0 (by decide) (hts (.fieldLink RX1 47 "CurfewDeskModel" "thrown" "I") (by decide +kernel)) (fun _ h9 => h9) rfl (by decide +kernel) rfl rfl (Nat.le_of_ble_eq_true rfl) dX1_addOrder_2 (fun H locs hP hD hS => ?_)
  have hP : va_P G vwCl (Mk cI cZ h a F nq no np sh nw 0 wt) H := hP
  have hD : va_D A (Mk cI cZ h a F nq no np sh nw 0 wt) := hD
  refine lv_aload_n hx hb dX1_addOrder_5 rfl (lv_at hl 0 rfl) ?_
  refine lv_iload_n hx hb dX1_addOrder_6 rfl (lv_at hl 1 rfl) ?_
  refine w_in_i (va_runV (As := [.int x]) (rest := []) ⟨hx, hb, hml, hown, hts⟩ (c_X1_isQuarter l G cI cZ h a F nq no np sh nw 0 wt H.size x (by omega)) (cwV 1 hts gX1_addOrder_X1_isQuarter rfl rfl rfl (by decide +kernel) ⟨(Nat.le_of_ble_eq_true rfl), (Nat.le_of_ble_eq_true rfl)⟩) ⟨wPre_blind, va_recv hK hP (ci := 1) (q0 := 0) rfl rfl, w_pre hK hP hD⟩ rfl rfl hl.1 rfl (lv_room (Nat.le_of_ble_eq_true rfl)) dX1_addOrder_7 ⟨(Nat.le_of_ble_eq_true rfl), (Nat.le_of_ble_eq_true rfl)⟩) hD hS hA (fun r7 u7 H locs hw7 hP hD hS => ?_)
  have hP : va_P G vwCl (Mk cI cZ h a F nq no np sh nw 0 wt) H := hP
  have hD : va_D A (Mk cI cZ h a F nq no np sh nw 0 wt) := hD
  have hw7 : r7 = b2i (p_in x nq) := hw7
  subst hw7
  refine lv_if_eq (tgt := 21) hx hb dX1_addOrder_10 (by decide) (fun c10 => ?_) (fun c10 => ?_)
  · have c10 := b2i_0.mp c10
    refine lv_aload_n hx hb dX1_addOrder_21 rfl (lv_at hl 0 rfl) ?_
    refine lv_iconst (v := 1) hx hb dX1_addOrder_22 (by decide) ?_
    refine w_in_i (va_runV (As := [.int 1]) (rest := []) ⟨hx, hb, hml, hown, hts⟩ (c_X1_fail l G cI cZ h a F nq no np sh nw 0 wt H.size 1 ) (cwV 1 hts gX1_addOrder_X1_fail rfl rfl rfl (by decide +kernel) ⟨(Nat.le_of_ble_eq_true rfl), (Nat.le_of_ble_eq_true rfl)⟩) ⟨wPre_blind, va_recv hK hP (ci := 1) (q0 := 0) rfl rfl, w_pre hK hP hD⟩ rfl rfl hl.1 rfl (lv_room (Nat.le_of_ble_eq_true rfl)) dX1_addOrder_23 ⟨(Nat.le_of_ble_eq_true rfl), (Nat.le_of_ble_eq_true rfl)⟩) hD hS hA (fun r23 u23 H locs hw23 hP hD hS => ?_)
    have hP : va_P G vwCl (Mk cI cZ h a F nq no np sh nw 1 wt) H := hP
    have hD : va_D A (Mk cI cZ h a F nq no np sh nw 1 wt) := hD
    have hw23 : r23 = 0 := hw23
    subst hw23
    have hk : k3 (p_in x nq && p_in v 4) (p_wi y 0 4 && p_wi z 0 4) (!decide (no = 10)) = 1 := by rw [c10]; rfl
    have hP : va_P G vwCl (Mk cI cZ h a (nx (k3 (p_in x nq && p_in v 4) (p_wi y 0 4 && p_wi z 0 4) (!decide (no = 10))) (n_or F no x y z v) F) nq (nx (k3 (p_in x nq && p_in v 4) (p_wi y 0 4 && p_wi z 0 4) (!decide (no = 10))) (no + 1) no) np sh nw (k3 (p_in x nq && p_in v 4) (p_wi y 0 4 && p_wi z 0 4) (!decide (no = 10))) wt) H := by (simp only [hk, nx0, nx1, nx2, nx3]); exact hP
    have hD : va_D A (Mk cI cZ h a (nx (k3 (p_in x nq && p_in v 4) (p_wi y 0 4 && p_wi z 0 4) (!decide (no = 10))) (n_or F no x y z v) F) nq (nx (k3 (p_in x nq && p_in v 4) (p_wi y 0 4 && p_wi z 0 4) (!decide (no = 10))) (no + 1) no) np sh nw (k3 (p_in x nq && p_in v 4) (p_wi y 0 4 && p_wi z 0 4) (!decide (no = 10))) wt) := by (simp only [hk, nx0, nx1, nx2, nx3]); exact hD
    exact w_iret () hx hb hr hlocks hK hP hD hS (Nat.le_of_ble_eq_true rfl) (Nat.le_of_ble_eq_true rfl) dX1_addOrder_26 (show k3 (p_in x nq && p_in v 4) (p_wi y 0 4 && p_wi z 0 4) (!decide (no = 10)) = 0 → 0 = nI no from by intro hh9; rw [hk] at hh9; exact absurd hh9 (by decide))
  · have c10 := b2i_1.mp c10
    refine lv_iload hx hb dX1_addOrder_13 (lv_at hl 4 rfl) ?_
    refine w_st_i (va_runS (As := [.int v]) (rest := []) ⟨hx, hb, hml, hown, hts⟩ (c_X1_isColour l G H.size v ) (va_cwS 1 hts gX1_addOrder_X1_isColour rfl rfl rfl (by decide +kernel) ⟨(Nat.le_of_ble_eq_true rfl), (Nat.le_of_ble_eq_true rfl)⟩) ⟨wPre_blind, w_pre (hK.sub [] rfl) w_P0 (w_D0 (A := A))⟩ rfl rfl hl.1 rfl (lv_room (Nat.le_of_ble_eq_true rfl)) dX1_addOrder_15 ⟨(Nat.le_of_ble_eq_true rfl), (Nat.le_of_ble_eq_true rfl)⟩) hP hS hA (fun r15 u15 H locs hw15 hP hS => ?_)
    have hw15 : r15 = b2i (p_in v 4) := hw15
    subst hw15
    refine lv_if_ne (tgt := 27) hx hb dX1_addOrder_18 (by decide) (fun c18 => ?_) (fun c18 => ?_)
    · have c18 := b2i_1.mp c18
      refine lv_iload_n hx hb dX1_addOrder_27 rfl (lv_at hl 2 rfl) ?_
      refine lv_iconst (v := 0) hx hb dX1_addOrder_28 (by decide) ?_
      refine lv_iconst (v := 4) hx hb dX1_addOrder_29 (by decide) ?_
      refine w_st_i (va_runS (As := [.int y, .int 0, .int 4]) (rest := []) ⟨hx, hb, hml, hown, hts⟩ (c_X1_isIn l G H.size y 0 4 ) (va_cwS 3 hts gX1_addOrder_X1_isIn rfl rfl rfl (by decide +kernel) ⟨(Nat.le_of_ble_eq_true rfl), (Nat.le_of_ble_eq_true rfl)⟩) ⟨wPre_blind, w_pre (hK.sub [] rfl) w_P0 (w_D0 (A := A))⟩ rfl rfl hl.1 rfl (lv_room (Nat.le_of_ble_eq_true rfl)) dX1_addOrder_30 ⟨(Nat.le_of_ble_eq_true rfl), (Nat.le_of_ble_eq_true rfl)⟩) hP hS hA (fun r30 u30 H locs hw30 hP hS => ?_)
      have hw30 : r30 = b2i (p_wi y 0 4) := hw30
      subst hw30
      refine lv_if_eq (tgt := 45) hx hb dX1_addOrder_33 (by decide) (fun c33 => ?_) (fun c33 => ?_)
      · have c33 := b2i_0.mp c33
        refine lv_aload_n hx hb dX1_addOrder_45 rfl (lv_at hl 0 rfl) ?_
        refine lv_iconst (v := 2) hx hb dX1_addOrder_46 (by decide) ?_
        refine w_in_i (va_runV (As := [.int 2]) (rest := []) ⟨hx, hb, hml, hown, hts⟩ (c_X1_fail l G cI cZ h a F nq no np sh nw 0 wt H.size 2 ) (cwV 1 hts gX1_addOrder_X1_fail rfl rfl rfl (by decide +kernel) ⟨(Nat.le_of_ble_eq_true rfl), (Nat.le_of_ble_eq_true rfl)⟩) ⟨wPre_blind, va_recv hK hP (ci := 1) (q0 := 0) rfl rfl, w_pre hK hP hD⟩ rfl rfl hl.1 rfl (lv_room (Nat.le_of_ble_eq_true rfl)) dX1_addOrder_47 ⟨(Nat.le_of_ble_eq_true rfl), (Nat.le_of_ble_eq_true rfl)⟩) hD hS hA (fun r47 u47 H locs hw47 hP hD hS => ?_)
        have hP : va_P G vwCl (Mk cI cZ h a F nq no np sh nw 2 wt) H := hP
        have hD : va_D A (Mk cI cZ h a F nq no np sh nw 2 wt) := hD
        have hw47 : r47 = 0 := hw47
        subst hw47
        have hk : k3 (p_in x nq && p_in v 4) (p_wi y 0 4 && p_wi z 0 4) (!decide (no = 10)) = 2 := by rw [c10, c18, c33]; rfl
        have hP : va_P G vwCl (Mk cI cZ h a (nx (k3 (p_in x nq && p_in v 4) (p_wi y 0 4 && p_wi z 0 4) (!decide (no = 10))) (n_or F no x y z v) F) nq (nx (k3 (p_in x nq && p_in v 4) (p_wi y 0 4 && p_wi z 0 4) (!decide (no = 10))) (no + 1) no) np sh nw (k3 (p_in x nq && p_in v 4) (p_wi y 0 4 && p_wi z 0 4) (!decide (no = 10))) wt) H := by (simp only [hk, nx0, nx1, nx2, nx3]); exact hP
        have hD : va_D A (Mk cI cZ h a (nx (k3 (p_in x nq && p_in v 4) (p_wi y 0 4 && p_wi z 0 4) (!decide (no = 10))) (n_or F no x y z v) F) nq (nx (k3 (p_in x nq && p_in v 4) (p_wi y 0 4 && p_wi z 0 4) (!decide (no = 10))) (no + 1) no) np sh nw (k3 (p_in x nq && p_in v 4) (p_wi y 0 4 && p_wi z 0 4) (!decide (no = 10))) wt) := by (simp only [hk, nx0, nx1, nx2, nx3]); exact hD
        exact w_iret () hx hb hr hlocks hK hP hD hS (Nat.le_of_ble_eq_true rfl) (Nat.le_of_ble_eq_true rfl) dX1_addOrder_50 (show k3 (p_in x nq && p_in v 4) (p_wi y 0 4 && p_wi z 0 4) (!decide (no = 10)) = 0 → 0 = nI no from by intro hh9; rw [hk] at hh9; exact absurd hh9 (by decide))
      · have c33 := b2i_1.mp c33
        refine lv_iload_n hx hb dX1_addOrder_36 rfl (lv_at hl 3 rfl) ?_
        refine lv_iconst (v := 0) hx hb dX1_addOrder_37 (by decide) ?_
        refine lv_iconst (v := 4) hx hb dX1_addOrder_38 (by decide) ?_
        refine w_st_i (va_runS (As := [.int z, .int 0, .int 4]) (rest := []) ⟨hx, hb, hml, hown, hts⟩ (c_X1_isIn l G H.size z 0 4 ) (va_cwS 3 hts gX1_addOrder_X1_isIn rfl rfl rfl (by decide +kernel) ⟨(Nat.le_of_ble_eq_true rfl), (Nat.le_of_ble_eq_true rfl)⟩) ⟨wPre_blind, w_pre (hK.sub [] rfl) w_P0 (w_D0 (A := A))⟩ rfl rfl hl.1 rfl (lv_room (Nat.le_of_ble_eq_true rfl)) dX1_addOrder_39 ⟨(Nat.le_of_ble_eq_true rfl), (Nat.le_of_ble_eq_true rfl)⟩) hP hS hA (fun r39 u39 H locs hw39 hP hS => ?_)
        have hw39 : r39 = b2i (p_wi z 0 4) := hw39
        subst hw39
        refine lv_if_ne (tgt := 51) hx hb dX1_addOrder_42 (by decide) (fun c42 => ?_) (fun c42 => ?_)
        · have c42 := b2i_1.mp c42
          refine lv_aload_n hx hb dX1_addOrder_51 rfl (lv_at hl 0 rfl) ?_
          refine va_get (ci := 1) (v := .int (nI no)) (C := RX1) (T := TX1) (N := 18) hx hb hts hin hown hK hP 0 rfl rfl 4 (by decide) (hts (.fieldLink RX1 58 "CurfewDeskModel" "orders" "I") (by decide +kernel)) (fun _ h9 => h9) rfl dX1_addOrder_52 ?_
          refine lv_bipush (v := 10) hx hb dX1_addOrder_55 (by decide) ?_
          refine lv_icmp_ne (tgt := 66) hx hb dX1_addOrder_57 (by decide) (fun c57 => ?_) (fun c57 => ?_)
          · have c57 := ne_t (n := no) (k := 10) c57
            have q57 : no < 10 := Nat.lt_of_le_of_ne hno (by simpa using c57)
            refine lv_aload_n hx hb dX1_addOrder_66 rfl (lv_at hl 0 rfl) ?_
            refine va_get (ci := 1) (v := .ref (a 0)) (C := RX1) (T := TX1) (N := 18) hx hb hts hin hown hK hP 0 rfl rfl 6 (by decide) (hts (.fieldLink RX1 9 "CurfewDeskModel" "quarter" "[I") (by decide +kernel)) (fun _ h9 => h9) rfl dX1_addOrder_67 ?_
            refine lv_aload_n hx hb dX1_addOrder_70 rfl (lv_at hl 0 rfl) ?_
            refine va_get (ci := 1) (v := .int (nI no)) (C := RX1) (T := TX1) (N := 18) hx hb hts hin hown hK hP 0 rfl rfl 4 (by decide) (hts (.fieldLink RX1 58 "CurfewDeskModel" "orders" "I") (by decide +kernel)) (fun _ h9 => h9) rfl dX1_addOrder_71 ?_
            refine lv_iload_n hx hb dX1_addOrder_74 rfl (lv_at hl 1 rfl) ?_
            refine w_iast hx hb hK hP hD hS 1 0 rfl rfl (f := (F 0)) (j := no) (by omega) (by omega) dX1_addOrder_75 (fun H locs hP hD hS => ?_)
            have hP : va_P G vwCl (Mk cI cZ h a (va_up F 0 (upd (F 0) no x)) nq no np sh nw 0 wt) H := hP
            have hD : va_D A (Mk cI cZ h a (va_up F 0 (upd (F 0) no x)) nq no np sh nw 0 wt) := hD
            refine lv_aload_n hx hb dX1_addOrder_76 rfl (lv_at hl 0 rfl) ?_
            refine va_get (ci := 1) (v := .ref (a 1)) (C := RX1) (T := TX1) (N := 18) hx hb hts hin hown hK hP 0 rfl rfl 7 (by decide) (hts (.fieldLink RX1 13 "CurfewDeskModel" "ahead" "[I") (by decide +kernel)) (fun _ h9 => h9) rfl dX1_addOrder_77 ?_
            refine lv_aload_n hx hb dX1_addOrder_80 rfl (lv_at hl 0 rfl) ?_
            refine va_get (ci := 1) (v := .int (nI no)) (C := RX1) (T := TX1) (N := 18) hx hb hts hin hown hK hP 0 rfl rfl 4 (by decide) (hts (.fieldLink RX1 58 "CurfewDeskModel" "orders" "I") (by decide +kernel)) (fun _ h9 => h9) rfl dX1_addOrder_81 ?_
            refine lv_iload_n hx hb dX1_addOrder_84 rfl (lv_at hl 2 rfl) ?_
            refine w_iast hx hb hK hP hD hS 2 0 rfl rfl (f := (F 1)) (j := no) (by omega) (by omega) dX1_addOrder_85 (fun H locs hP hD hS => ?_)
            have hP : va_P G vwCl (Mk cI cZ h a (va_up (va_up F 0 (upd (F 0) no x)) 1 (upd (F 1) no y)) nq no np sh nw 0 wt) H := hP
            have hD : va_D A (Mk cI cZ h a (va_up (va_up F 0 (upd (F 0) no x)) 1 (upd (F 1) no y)) nq no np sh nw 0 wt) := hD
            refine lv_aload_n hx hb dX1_addOrder_86 rfl (lv_at hl 0 rfl) ?_
            refine va_get (ci := 1) (v := .ref (a 2)) (C := RX1) (T := TX1) (N := 18) hx hb hts hin hown hK hP 0 rfl rfl 8 (by decide) (hts (.fieldLink RX1 16 "CurfewDeskModel" "behind" "[I") (by decide +kernel)) (fun _ h9 => h9) rfl dX1_addOrder_87 ?_
            refine lv_aload_n hx hb dX1_addOrder_90 rfl (lv_at hl 0 rfl) ?_
            refine va_get (ci := 1) (v := .int (nI no)) (C := RX1) (T := TX1) (N := 18) hx hb hts hin hown hK hP 0 rfl rfl 4 (by decide) (hts (.fieldLink RX1 58 "CurfewDeskModel" "orders" "I") (by decide +kernel)) (fun _ h9 => h9) rfl dX1_addOrder_91 ?_
            refine lv_iload_n hx hb dX1_addOrder_94 rfl (lv_at hl 3 rfl) ?_
            refine w_iast hx hb hK hP hD hS 3 0 rfl rfl (f := (F 2)) (j := no) (by omega) (by omega) dX1_addOrder_95 (fun H locs hP hD hS => ?_)
            have hP : va_P G vwCl (Mk cI cZ h a (va_up (va_up (va_up F 0 (upd (F 0) no x)) 1 (upd (F 1) no y)) 2 (upd (F 2) no z)) nq no np sh nw 0 wt) H := hP
            have hD : va_D A (Mk cI cZ h a (va_up (va_up (va_up F 0 (upd (F 0) no x)) 1 (upd (F 1) no y)) 2 (upd (F 2) no z)) nq no np sh nw 0 wt) := hD
            refine lv_aload_n hx hb dX1_addOrder_96 rfl (lv_at hl 0 rfl) ?_
            refine va_get (ci := 1) (v := .ref (a 3)) (C := RX1) (T := TX1) (N := 18) hx hb hts hin hown hK hP 0 rfl rfl 9 (by decide) (hts (.fieldLink RX1 19 "CurfewDeskModel" "colour" "[I") (by decide +kernel)) (fun _ h9 => h9) rfl dX1_addOrder_97 ?_
            refine lv_aload_n hx hb dX1_addOrder_100 rfl (lv_at hl 0 rfl) ?_
            refine va_get (ci := 1) (v := .int (nI no)) (C := RX1) (T := TX1) (N := 18) hx hb hts hin hown hK hP 0 rfl rfl 4 (by decide) (hts (.fieldLink RX1 58 "CurfewDeskModel" "orders" "I") (by decide +kernel)) (fun _ h9 => h9) rfl dX1_addOrder_101 ?_
            refine lv_iload hx hb dX1_addOrder_104 (lv_at hl 4 rfl) ?_
            refine w_iast hx hb hK hP hD hS 4 0 rfl rfl (f := (F 3)) (j := no) (by omega) (by omega) dX1_addOrder_106 (fun H locs hP hD hS => ?_)
            have hP : va_P G vwCl (Mk cI cZ h a (va_up (va_up (va_up (va_up F 0 (upd (F 0) no x)) 1 (upd (F 1) no y)) 2 (upd (F 2) no z)) 3 (upd (F 3) no v)) nq no np sh nw 0 wt) H := hP
            have hD : va_D A (Mk cI cZ h a (va_up (va_up (va_up (va_up F 0 (upd (F 0) no x)) 1 (upd (F 1) no y)) 2 (upd (F 2) no z)) 3 (upd (F 3) no v)) nq no np sh nw 0 wt) := hD
            refine lv_aload_n hx hb dX1_addOrder_107 rfl (lv_at hl 0 rfl) ?_
            refine va_get (ci := 1) (v := .ref (a 4)) (C := RX1) (T := TX1) (N := 18) hx hb hts hin hown hK hP 0 rfl rfl 11 (by decide) (hts (.fieldLink RX1 25 "CurfewDeskModel" "force" "[Z") (by decide +kernel)) (fun _ h9 => h9) rfl dX1_addOrder_108 ?_
            refine lv_aload_n hx hb dX1_addOrder_111 rfl (lv_at hl 0 rfl) ?_
            refine va_get (ci := 1) (v := .int (nI no)) (C := RX1) (T := TX1) (N := 18) hx hb hts hin hown hK hP 0 rfl rfl 4 (by decide) (hts (.fieldLink RX1 58 "CurfewDeskModel" "orders" "I") (by decide +kernel)) (fun _ h9 => h9) rfl dX1_addOrder_112 ?_
            refine lv_iconst (v := 1) hx hb dX1_addOrder_115 (by decide) ?_
            refine w_zast hx hb hK hP hD hS 5 1 rfl rfl (f := (F 4)) (j := no) (by omega) (by omega) (rfl) dX1_addOrder_116 (fun H locs hP hD hS => ?_)
            have hP : va_P G vwCl (Mk cI cZ h a (va_up (va_up (va_up (va_up (va_up F 0 (upd (F 0) no x)) 1 (upd (F 1) no y)) 2 (upd (F 2) no z)) 3 (upd (F 3) no v)) 4 (upd (F 4) no 1)) nq no np sh nw 0 wt) H := hP
            have hD : va_D A (Mk cI cZ h a (va_up (va_up (va_up (va_up (va_up F 0 (upd (F 0) no x)) 1 (upd (F 1) no y)) 2 (upd (F 2) no z)) 3 (upd (F 3) no v)) 4 (upd (F 4) no 1)) nq no np sh nw 0 wt) := hD
            refine lv_aload_n hx hb dX1_addOrder_117 rfl (lv_at hl 0 rfl) ?_
            refine lv_dup hx hb dX1_addOrder_118 rfl ?_
            refine va_get (ci := 1) (v := .int (nI no)) (C := RX1) (T := TX1) (N := 18) hx hb hts hin hown hK hP 0 rfl rfl 4 (by decide) (hts (.fieldLink RX1 58 "CurfewDeskModel" "orders" "I") (by decide +kernel)) (fun _ h9 => h9) rfl dX1_addOrder_119 ?_
            refine lv_iconst (v := 1) hx hb dX1_addOrder_122 (by decide) ?_
            refine lv_iadd hx hb dX1_addOrder_123 ?_
            rw [nI_1]
            refine va_put (ci := 1) (v := .int (nI (no + 1))) (ty := .int) (C := RX1) (T := TX1) (N := 18) hx hb hts hin tyX1 tyX1_ok nmX1 hown hK hP hD hS 0 rfl rfl 4 (by decide) (hts (.fieldLink RX1 58 "CurfewDeskModel" "orders" "I") (by decide +kernel)) (fun _ h9 => h9) rfl (by decide +kernel) rfl rfl (Nat.le_of_ble_eq_true rfl) dX1_addOrder_124 (fun H locs hP hD hS => ?_)
            have hP : va_P G vwCl (Mk cI cZ h a (va_up (va_up (va_up (va_up (va_up F 0 (upd (F 0) no x)) 1 (upd (F 1) no y)) 2 (upd (F 2) no z)) 3 (upd (F 3) no v)) 4 (upd (F 4) no 1)) nq (no + 1) np sh nw 0 wt) H := hP
            have hD : va_D A (Mk cI cZ h a (va_up (va_up (va_up (va_up (va_up F 0 (upd (F 0) no x)) 1 (upd (F 1) no y)) 2 (upd (F 2) no z)) 3 (upd (F 3) no v)) 4 (upd (F 4) no 1)) nq (no + 1) np sh nw 0 wt) := hD
            refine lv_aload_n hx hb dX1_addOrder_127 rfl (lv_at hl 0 rfl) ?_
            refine va_get (ci := 1) (v := .int (nI (no + 1))) (C := RX1) (T := TX1) (N := 18) hx hb hts hin hown hK hP 0 rfl rfl 4 (by decide) (hts (.fieldLink RX1 58 "CurfewDeskModel" "orders" "I") (by decide +kernel)) (fun _ h9 => h9) rfl dX1_addOrder_128 ?_
            refine lv_iconst (v := 1) hx hb dX1_addOrder_131 (by decide) ?_
            refine lv_isub hx hb dX1_addOrder_132 ?_
            have hk : k3 (p_in x nq && p_in v 4) (p_wi y 0 4 && p_wi z 0 4) (!decide (no = 10)) = 0 := by rw [c10, c18, c33, c42, c57]; rfl
            have hP : va_P G vwCl (Mk cI cZ h a (nx (k3 (p_in x nq && p_in v 4) (p_wi y 0 4 && p_wi z 0 4) (!decide (no = 10))) (n_or F no x y z v) F) nq (nx (k3 (p_in x nq && p_in v 4) (p_wi y 0 4 && p_wi z 0 4) (!decide (no = 10))) (no + 1) no) np sh nw (k3 (p_in x nq && p_in v 4) (p_wi y 0 4 && p_wi z 0 4) (!decide (no = 10))) wt) H := by (simp only [hk, nx0, nx1, nx2, nx3]); exact hP
            have hD : va_D A (Mk cI cZ h a (nx (k3 (p_in x nq && p_in v 4) (p_wi y 0 4 && p_wi z 0 4) (!decide (no = 10))) (n_or F no x y z v) F) nq (nx (k3 (p_in x nq && p_in v 4) (p_wi y 0 4 && p_wi z 0 4) (!decide (no = 10))) (no + 1) no) np sh nw (k3 (p_in x nq && p_in v 4) (p_wi y 0 4 && p_wi z 0 4) (!decide (no = 10))) wt) := by (simp only [hk, nx0, nx1, nx2, nx3]); exact hD
            exact w_iret () hx hb hr hlocks hK hP hD hS (Nat.le_of_ble_eq_true rfl) (Nat.le_of_ble_eq_true rfl) dX1_addOrder_133 (show k3 (p_in x nq && p_in v 4) (p_wi y 0 4 && p_wi z 0 4) (!decide (no = 10)) = 0 → ((nI (no + 1)) - 1) = nI no from by intro _; exact nI_pred _)
          · have c57 := ne_f (n := no) (k := 10) (by omega) (by omega) c57
            refine lv_aload_n hx hb dX1_addOrder_60 rfl (lv_at hl 0 rfl) ?_
            refine lv_iconst (v := 3) hx hb dX1_addOrder_61 (by decide) ?_
            refine w_in_i (va_runV (As := [.int 3]) (rest := []) ⟨hx, hb, hml, hown, hts⟩ (c_X1_fail l G cI cZ h a F nq no np sh nw 0 wt H.size 3 ) (cwV 1 hts gX1_addOrder_X1_fail rfl rfl rfl (by decide +kernel) ⟨(Nat.le_of_ble_eq_true rfl), (Nat.le_of_ble_eq_true rfl)⟩) ⟨wPre_blind, va_recv hK hP (ci := 1) (q0 := 0) rfl rfl, w_pre hK hP hD⟩ rfl rfl hl.1 rfl (lv_room (Nat.le_of_ble_eq_true rfl)) dX1_addOrder_62 ⟨(Nat.le_of_ble_eq_true rfl), (Nat.le_of_ble_eq_true rfl)⟩) hD hS hA (fun r62 u62 H locs hw62 hP hD hS => ?_)
            have hP : va_P G vwCl (Mk cI cZ h a F nq no np sh nw 3 wt) H := hP
            have hD : va_D A (Mk cI cZ h a F nq no np sh nw 3 wt) := hD
            have hw62 : r62 = 0 := hw62
            subst hw62
            have hk : k3 (p_in x nq && p_in v 4) (p_wi y 0 4 && p_wi z 0 4) (!decide (no = 10)) = 3 := by rw [c10, c18, c33, c42, c57]; rfl
            have hP : va_P G vwCl (Mk cI cZ h a (nx (k3 (p_in x nq && p_in v 4) (p_wi y 0 4 && p_wi z 0 4) (!decide (no = 10))) (n_or F no x y z v) F) nq (nx (k3 (p_in x nq && p_in v 4) (p_wi y 0 4 && p_wi z 0 4) (!decide (no = 10))) (no + 1) no) np sh nw (k3 (p_in x nq && p_in v 4) (p_wi y 0 4 && p_wi z 0 4) (!decide (no = 10))) wt) H := by (simp only [hk, nx0, nx1, nx2, nx3]); exact hP
            have hD : va_D A (Mk cI cZ h a (nx (k3 (p_in x nq && p_in v 4) (p_wi y 0 4 && p_wi z 0 4) (!decide (no = 10))) (n_or F no x y z v) F) nq (nx (k3 (p_in x nq && p_in v 4) (p_wi y 0 4 && p_wi z 0 4) (!decide (no = 10))) (no + 1) no) np sh nw (k3 (p_in x nq && p_in v 4) (p_wi y 0 4 && p_wi z 0 4) (!decide (no = 10))) wt) := by (simp only [hk, nx0, nx1, nx2, nx3]); exact hD
            exact w_iret () hx hb hr hlocks hK hP hD hS (Nat.le_of_ble_eq_true rfl) (Nat.le_of_ble_eq_true rfl) dX1_addOrder_65 (show k3 (p_in x nq && p_in v 4) (p_wi y 0 4 && p_wi z 0 4) (!decide (no = 10)) = 0 → 0 = nI no from by intro hh9; rw [hk] at hh9; exact absurd hh9 (by decide))
        · have c42 := b2i_0.mp c42
          refine lv_aload_n hx hb dX1_addOrder_45 rfl (lv_at hl 0 rfl) ?_
          refine lv_iconst (v := 2) hx hb dX1_addOrder_46 (by decide) ?_
          refine w_in_i (va_runV (As := [.int 2]) (rest := []) ⟨hx, hb, hml, hown, hts⟩ (c_X1_fail l G cI cZ h a F nq no np sh nw 0 wt H.size 2 ) (cwV 1 hts gX1_addOrder_X1_fail rfl rfl rfl (by decide +kernel) ⟨(Nat.le_of_ble_eq_true rfl), (Nat.le_of_ble_eq_true rfl)⟩) ⟨wPre_blind, va_recv hK hP (ci := 1) (q0 := 0) rfl rfl, w_pre hK hP hD⟩ rfl rfl hl.1 rfl (lv_room (Nat.le_of_ble_eq_true rfl)) dX1_addOrder_47 ⟨(Nat.le_of_ble_eq_true rfl), (Nat.le_of_ble_eq_true rfl)⟩) hD hS hA (fun r47 u47 H locs hw47 hP hD hS => ?_)
          have hP : va_P G vwCl (Mk cI cZ h a F nq no np sh nw 2 wt) H := hP
          have hD : va_D A (Mk cI cZ h a F nq no np sh nw 2 wt) := hD
          have hw47 : r47 = 0 := hw47
          subst hw47
          have hk : k3 (p_in x nq && p_in v 4) (p_wi y 0 4 && p_wi z 0 4) (!decide (no = 10)) = 2 := by rw [c10, c18, c33, c42]; rfl
          have hP : va_P G vwCl (Mk cI cZ h a (nx (k3 (p_in x nq && p_in v 4) (p_wi y 0 4 && p_wi z 0 4) (!decide (no = 10))) (n_or F no x y z v) F) nq (nx (k3 (p_in x nq && p_in v 4) (p_wi y 0 4 && p_wi z 0 4) (!decide (no = 10))) (no + 1) no) np sh nw (k3 (p_in x nq && p_in v 4) (p_wi y 0 4 && p_wi z 0 4) (!decide (no = 10))) wt) H := by (simp only [hk, nx0, nx1, nx2, nx3]); exact hP
          have hD : va_D A (Mk cI cZ h a (nx (k3 (p_in x nq && p_in v 4) (p_wi y 0 4 && p_wi z 0 4) (!decide (no = 10))) (n_or F no x y z v) F) nq (nx (k3 (p_in x nq && p_in v 4) (p_wi y 0 4 && p_wi z 0 4) (!decide (no = 10))) (no + 1) no) np sh nw (k3 (p_in x nq && p_in v 4) (p_wi y 0 4 && p_wi z 0 4) (!decide (no = 10))) wt) := by (simp only [hk, nx0, nx1, nx2, nx3]); exact hD
          exact w_iret () hx hb hr hlocks hK hP hD hS (Nat.le_of_ble_eq_true rfl) (Nat.le_of_ble_eq_true rfl) dX1_addOrder_50 (show k3 (p_in x nq && p_in v 4) (p_wi y 0 4 && p_wi z 0 4) (!decide (no = 10)) = 0 → 0 = nI no from by intro hh9; rw [hk] at hh9; exact absurd hh9 (by decide))
    · have c18 := b2i_0.mp c18
      refine lv_aload_n hx hb dX1_addOrder_21 rfl (lv_at hl 0 rfl) ?_
      refine lv_iconst (v := 1) hx hb dX1_addOrder_22 (by decide) ?_
      refine w_in_i (va_runV (As := [.int 1]) (rest := []) ⟨hx, hb, hml, hown, hts⟩ (c_X1_fail l G cI cZ h a F nq no np sh nw 0 wt H.size 1 ) (cwV 1 hts gX1_addOrder_X1_fail rfl rfl rfl (by decide +kernel) ⟨(Nat.le_of_ble_eq_true rfl), (Nat.le_of_ble_eq_true rfl)⟩) ⟨wPre_blind, va_recv hK hP (ci := 1) (q0 := 0) rfl rfl, w_pre hK hP hD⟩ rfl rfl hl.1 rfl (lv_room (Nat.le_of_ble_eq_true rfl)) dX1_addOrder_23 ⟨(Nat.le_of_ble_eq_true rfl), (Nat.le_of_ble_eq_true rfl)⟩) hD hS hA (fun r23 u23 H locs hw23 hP hD hS => ?_)
      have hP : va_P G vwCl (Mk cI cZ h a F nq no np sh nw 1 wt) H := hP
      have hD : va_D A (Mk cI cZ h a F nq no np sh nw 1 wt) := hD
      have hw23 : r23 = 0 := hw23
      subst hw23
      have hk : k3 (p_in x nq && p_in v 4) (p_wi y 0 4 && p_wi z 0 4) (!decide (no = 10)) = 1 := by rw [c10, c18]; rfl
      have hP : va_P G vwCl (Mk cI cZ h a (nx (k3 (p_in x nq && p_in v 4) (p_wi y 0 4 && p_wi z 0 4) (!decide (no = 10))) (n_or F no x y z v) F) nq (nx (k3 (p_in x nq && p_in v 4) (p_wi y 0 4 && p_wi z 0 4) (!decide (no = 10))) (no + 1) no) np sh nw (k3 (p_in x nq && p_in v 4) (p_wi y 0 4 && p_wi z 0 4) (!decide (no = 10))) wt) H := by (simp only [hk, nx0, nx1, nx2, nx3]); exact hP
      have hD : va_D A (Mk cI cZ h a (nx (k3 (p_in x nq && p_in v 4) (p_wi y 0 4 && p_wi z 0 4) (!decide (no = 10))) (n_or F no x y z v) F) nq (nx (k3 (p_in x nq && p_in v 4) (p_wi y 0 4 && p_wi z 0 4) (!decide (no = 10))) (no + 1) no) np sh nw (k3 (p_in x nq && p_in v 4) (p_wi y 0 4 && p_wi z 0 4) (!decide (no = 10))) wt) := by (simp only [hk, nx0, nx1, nx2, nx3]); exact hD
      exact w_iret () hx hb hr hlocks hK hP hD hS (Nat.le_of_ble_eq_true rfl) (Nat.le_of_ble_eq_true rfl) dX1_addOrder_26 (show k3 (p_in x nq && p_in v 4) (p_wi y 0 4 && p_wi z 0 4) (!decide (no = 10)) = 0 → 0 = nI no from by intro hh9; rw [hk] at hh9; exact absurd hh9 (by decide))
set_option maxHeartbeats 4000000 in
set_option maxRecDepth 100000 in
theorem c_X1_bestLift (l : Launch) (G : va_G) (cI cZ : ClassId) (h : Nat) (a : Nat → Nat) (F : Nat → Nat → Int32) (nq no np : Nat) (sh nw : Int32) (th : Int32) (wt : Nat → Int32) (sz : Nat) (hnq : nq ≤ 6) (hno : no ≤ 10) (hnp : np ≤ 20) (H3 : ∀ o, o < no → ∃ c, c < 4 ∧ F 3 o = nI c) (H4 : ∀ j, F 4 j = 0 ∨ F 4 j = 1) : Met l yX1_bestLift wsX1_bestLift ({ frames := 7, cells := 0, slots := 0, locals := 159 } : Room) (va_Pc [.ref h] (wPre G (ty2 cI cZ) (Mk cI cZ h a F nq no np sh nw th wt) sz)) (va_Qi (fun (r : Int32) (_ : Nat → Int32) => r = (p_bM F sh nq no np nw no).1) (fun u => wP G (ty2 cI cZ) (Mk cI cZ h a F nq no np sh nw 0 u) (va_A (Mk cI cZ h a F nq no np sh nw th wt) sz)) (va_A (Mk cI cZ h a F nq no np sh nw th wt) sz)) 0 0 (va_A (Mk cI cZ h a F nq no np sh nw th wt) sz) := by
  refine w_met (cc := cX1_bestLift) (maxL := 5) (ret := (some .int)) (by decide) rfl (Nat.le_of_ble_eq_true rfl) ?_
  intro pg e s m below meth cd hx hb hml hr hts hown hlocks hnm hK hsz hP hD hA hS ls hl
  have hown : s.vm.findClass RX1 = some m.cls := hown
  have hin : ∀ w ∈ wsX10, w ∈ wsX1_bestLift := by decide +kernel
  have hl : lv_has ls 5 [(0, .ref h)] := hl
  generalize hAe : va_A (Mk cI cZ h a F nq no np sh nw th wt) sz = A at hD hA hS ⊢
  refine lv_aload_n hx hb dX1_bestLift_0 rfl (lv_at hl 0 rfl) ?_
  refine lv_iconst (v := 0) hx hb dX1_bestLift_1 (by decide) ?_
  refine va_put (ci := 1) (v := .int 0) (ty := .int) (C := RX1) (T := TX1) (N := 18) hx hb hts hin tyX1 tyX1_ok nmX1 hown hK hP hD hS 0 rfl rfl 0 (by decide) (hts (.fieldLink RX1 47 "CurfewDeskModel" "thrown" "I") (by decide +kernel)) (fun _ h9 => h9) rfl (by decide +kernel) rfl rfl (Nat.le_of_ble_eq_true rfl) dX1_bestLift_2 (fun H locs hP hD hS => ?_)
  have hP : va_P G vwCl (Mk cI cZ h a F nq no np sh nw 0 wt) H := hP
  have hD : va_D A (Mk cI cZ h a F nq no np sh nw 0 wt) := hD
  refine lv_iconst (v := (-1)) hx hb dX1_bestLift_5 (by decide) ?_
  refine lv_istore_n (lv' := [(1, .int (-1)), (0, .ref h)]) hx hb dX1_bestLift_6 rfl hl (by decide) rfl (fun ls hl => ?_)
  refine lv_aload_n hx hb dX1_bestLift_7 rfl (lv_at hl 1 rfl) ?_
  refine w_in_i (va_runV (As := []) (rest := []) ⟨hx, hb, hml, hown, hts⟩ (c_X1_pairs l G cI cZ h a F nq no np sh nw 0 wt H.size (by omega) (by omega) (by omega) (H3)) (cwV 0 hts gX1_bestLift_X1_pairs rfl rfl rfl (by decide +kernel) ⟨(Nat.le_of_ble_eq_true rfl), (Nat.le_of_ble_eq_true rfl)⟩) ⟨wPre_blind, va_recv hK hP (ci := 1) (q0 := 0) rfl rfl, w_pre hK hP hD⟩ rfl rfl hl.1 rfl (lv_room (Nat.le_of_ble_eq_true rfl)) dX1_bestLift_8 ⟨(Nat.le_of_ble_eq_true rfl), (Nat.le_of_ble_eq_true rfl)⟩) hD hS hA (fun r8 u8 H locs hw8 hP hD hS => ?_)
  have hP : va_P G vwCl (Mk cI cZ h a F nq no np sh nw 0 u8) H := hP
  have hD : va_D A (Mk cI cZ h a F nq no np sh nw 0 u8) := hD
  have hw8 : r8 = nI (p_pr F sh nq no np nw) := hw8
  subst hw8
  refine lv_istore_n (lv' := [(2, .int (nI (p_pr F sh nq no np nw))), (1, .int (-1)), (0, .ref h)]) hx hb dX1_bestLift_11 rfl hl (by decide) rfl (fun ls hl => ?_)
  refine lv_iconst (v := 0) hx hb dX1_bestLift_12 (by decide) ?_
  refine lv_istore_n (lv' := [(3, .int 0), (2, .int (nI (p_pr F sh nq no np nw))), (1, .int (-1)), (0, .ref h)]) hx hb dX1_bestLift_13 rfl hl (by decide) rfl (fun ls hl => ?_)
  have key14 : ∀ (n i14 : Nat), i14 ≤ no → no < i14 + n → ((p_bM F sh nq no np nw i14).2 ≤ 120) → ∀ (x1 : Int32) (x2 : Int32) (x3 : Int32), x1 = (p_bM F sh nq no np nw i14).1 → x2 = nI ((p_bM F sh nq no np nw i14).2) → x3 = nI i14 → ∀ (w14 : Nat → Int32) (H : Heap) (locs : List Loc), va_P G vwCl (Mk cI cZ h a F nq no np sh nw 0 w14) H → va_D A (Mk cI cZ h a F nq no np sh nw 0 w14) → va_S A s.heap H locs → ∀ ls : Array Slot, lv_has ls 5 [(0, .ref h), (1, .int x1), (2, .int x2), (3, .int x3)] → W pg l e ({ frames := 7, cells := 0, slots := 0, locals := 159 } : Room) s m ([.ref h] : List Value).toArray below meth cd H locs (0 + 0) (0 + 0) (MQ below (va_Qi (fun (r : Int32) (_ : Nat → Int32) => r = (p_bM F sh nq no np nw no).1) (fun u => wP G (ty2 cI cZ) (Mk cI cZ h a F nq no np sh nw 0 u) A) A) ([.ref h] : List Value).toArray s 0 0 A) (F0 m 14 ls []) := by
    intro n
    induction n with
    | zero => intro i14 h1 h2; exact absurd h2 (by omega)
    | succ n ih14 =>
      intro i14 hi_i14 hn_i14 hm9 x1 x2 x3 e1 e2 e3 w14 H locs hP hD hS ls hl
      subst e1 e2 e3
      have hl14 := pr_le (p_lf F i14) sh (nq := nq) (no := no) (np := np) nw hnq hnp
      refine lv_iload_n hx hb dX1_bestLift_14 rfl (lv_at hl 3 rfl) ?_
      refine lv_aload_n hx hb dX1_bestLift_15 rfl (lv_at hl 0 rfl) ?_
      refine va_get (ci := 1) (v := .int (nI no)) (C := RX1) (T := TX1) (N := 18) hx hb hts hin hown hK hP 0 rfl rfl 4 (by decide) (hts (.fieldLink RX1 58 "CurfewDeskModel" "orders" "I") (by decide +kernel)) (fun _ h9 => h9) rfl dX1_bestLift_16 ?_
      refine lv_icmp_ge (tgt := 74) hx hb dX1_bestLift_19 (by decide) (fun c19 => ?_) (fun c19 => ?_)
      · have c19 := (nI_leI (a := no) (b := i14) (by omega) (by omega)).mp c19
        have ei : no = i14 := by omega
        subst ei
        refine lv_iload_n hx hb dX1_bestLift_74 rfl (lv_at hl 1 rfl) ?_
        exact w_iret w14 hx hb hr hlocks hK hP hD hS (Nat.le_of_ble_eq_true rfl) (Nat.le_of_ble_eq_true rfl) dX1_bestLift_75 (show ((p_bM F sh nq no np nw no).1) = (p_bM F sh nq no np nw no).1 from by rfl)
      · have c19 := mt (nI_leI (a := no) (b := i14) (by omega) (by omega)).mpr c19
        have hlt_i14 : i14 < no := by omega
        refine lv_aload_n hx hb dX1_bestLift_22 rfl (lv_at hl 0 rfl) ?_
        refine va_get (ci := 1) (v := .ref (a 4)) (C := RX1) (T := TX1) (N := 18) hx hb hts hin hown hK hP 0 rfl rfl 11 (by decide) (hts (.fieldLink RX1 25 "CurfewDeskModel" "force" "[Z") (by decide +kernel)) (fun _ h9 => h9) rfl dX1_bestLift_23 ?_
        refine lv_iload_n hx hb dX1_bestLift_26 rfl (lv_at hl 3 rfl) ?_
        refine w_zald hx hb hK hP 5 1 rfl rfl (f := (F 4)) (j := i14) (by omega) (by omega) dX1_bestLift_27 ?_
        refine lv_if_ne (tgt := 34) hx hb dX1_bestLift_28 (by decide) (fun c28 => ?_) (fun c28 => ?_)
        · refine lv_aload_n hx hb dX1_bestLift_34 rfl (lv_at hl 0 rfl) ?_
          refine va_get (ci := 1) (v := .ref (a 4)) (C := RX1) (T := TX1) (N := 18) hx hb hts hin hown hK hP 0 rfl rfl 11 (by decide) (hts (.fieldLink RX1 25 "CurfewDeskModel" "force" "[Z") (by decide +kernel)) (fun _ h9 => h9) rfl dX1_bestLift_35 ?_
          refine lv_iload_n hx hb dX1_bestLift_38 rfl (lv_at hl 3 rfl) ?_
          refine lv_iconst (v := 0) hx hb dX1_bestLift_39 (by decide) ?_
          refine w_zast hx hb hK hP hD hS 5 1 rfl rfl (f := (F 4)) (j := i14) (by omega) (by omega) (rfl) dX1_bestLift_40 (fun H locs hP hD hS => ?_)
          have hP : va_P G vwCl (Mk cI cZ h a (va_up F 4 (upd (F 4) i14 0)) nq no np sh nw 0 w14) H := hP
          have hD : va_D A (Mk cI cZ h a (va_up F 4 (upd (F 4) i14 0)) nq no np sh nw 0 w14) := hD
          have hP : va_P G vwCl (Mk cI cZ h a (p_lf F i14) nq no np sh nw 0 w14) H := hP
          have hD : va_D A (Mk cI cZ h a (p_lf F i14) nq no np sh nw 0 w14) := hD
          refine lv_aload_n hx hb dX1_bestLift_41 rfl (lv_at hl 0 rfl) ?_
          refine w_in_i (va_runV (As := []) (rest := []) ⟨hx, hb, hml, hown, hts⟩ (c_X1_pairs l G cI cZ h a (p_lf F i14) nq no np sh nw 0 w14 H.size (by omega) (by omega) (by omega) (H3)) (cwV 0 hts gX1_bestLift_X1_pairs rfl rfl rfl (by decide +kernel) ⟨(Nat.le_of_ble_eq_true rfl), (Nat.le_of_ble_eq_true rfl)⟩) ⟨wPre_blind, va_recv hK hP (ci := 1) (q0 := 0) rfl rfl, w_pre hK hP hD⟩ rfl rfl hl.1 rfl (lv_room (Nat.le_of_ble_eq_true rfl)) dX1_bestLift_42 ⟨(Nat.le_of_ble_eq_true rfl), (Nat.le_of_ble_eq_true rfl)⟩) hD hS hA (fun r42 u42 H locs hw42 hP hD hS => ?_)
          have hP : va_P G vwCl (Mk cI cZ h a (p_lf F i14) nq no np sh nw 0 u42) H := hP
          have hD : va_D A (Mk cI cZ h a (p_lf F i14) nq no np sh nw 0 u42) := hD
          have hw42 : r42 = nI (p_pr (p_lf F i14) sh nq no np nw) := hw42
          subst hw42
          refine lv_istore (lv' := [(4, .int (nI (p_pr (p_lf F i14) sh nq no np nw))), (0, .ref h), (1, .int ((p_bM F sh nq no np nw i14).1)), (2, .int (nI ((p_bM F sh nq no np nw i14).2))), (3, .int (nI i14))]) hx hb dX1_bestLift_45 hl (by decide) rfl (fun ls hl => ?_)
          refine lv_aload_n hx hb dX1_bestLift_47 rfl (lv_at hl 1 rfl) ?_
          refine va_get (ci := 1) (v := .ref (a 4)) (C := RX1) (T := TX1) (N := 18) hx hb hts hin hown hK hP 0 rfl rfl 11 (by decide) (hts (.fieldLink RX1 25 "CurfewDeskModel" "force" "[Z") (by decide +kernel)) (fun _ h9 => h9) rfl dX1_bestLift_48 ?_
          refine lv_iload_n hx hb dX1_bestLift_51 rfl (lv_at hl 4 rfl) ?_
          refine lv_iconst (v := 1) hx hb dX1_bestLift_52 (by decide) ?_
          refine w_zast hx hb hK hP hD hS 5 1 rfl rfl (f := ((p_lf F i14) 4)) (j := i14) (by omega) (by omega) (rfl) dX1_bestLift_53 (fun H locs hP hD hS => ?_)
          have hP : va_P G vwCl (Mk cI cZ h a (va_up (p_lf F i14) 4 (upd ((p_lf F i14) 4) i14 1)) nq no np sh nw 0 u42) H := hP
          have hD : va_D A (Mk cI cZ h a (va_up (p_lf F i14) 4 (upd ((p_lf F i14) 4) i14 1)) nq no np sh nw 0 u42) := hD
          have hf14 : F 4 i14 = 1 := (H4 i14).resolve_left c28
          have hP : va_P G vwCl (Mk cI cZ h a F nq no np sh nw 0 u42) H := by rw [← lf_back hf14]; exact hP
          have hD : va_D A (Mk cI cZ h a F nq no np sh nw 0 u42) := by rw [← lf_back hf14]; exact hD
          have hP : va_P G vwCl (Mk cI cZ h a F nq no np sh nw 0 u42) H := hP
          have hD : va_D A (Mk cI cZ h a F nq no np sh nw 0 u42) := hD
          refine lv_iload hx hb dX1_bestLift_54 (lv_at hl 0 rfl) ?_
          refine lv_iload_n hx hb dX1_bestLift_56 rfl (lv_at hl 3 rfl) ?_
          refine lv_icmp_gt (tgt := 63) hx hb dX1_bestLift_57 (by decide) (fun c57 => ?_) (fun c57 => ?_)
          · have c57 := (nI_ltI (by omega) (by omega)).mp c57
            refine lv_iload_n hx hb dX1_bestLift_63 rfl (lv_at hl 4 rfl) ?_
            refine lv_istore_n (lv' := [(1, .int (nI i14)), (4, .int (nI (p_pr (p_lf F i14) sh nq no np nw))), (0, .ref h), (2, .int (nI ((p_bM F sh nq no np nw i14).2))), (3, .int (nI i14))]) hx hb dX1_bestLift_64 rfl hl (by decide) rfl (fun ls hl => ?_)
            refine lv_iload hx hb dX1_bestLift_65 (lv_at hl 1 rfl) ?_
            refine lv_istore_n (lv' := [(2, .int (nI (p_pr (p_lf F i14) sh nq no np nw))), (1, .int (nI i14)), (4, .int (nI (p_pr (p_lf F i14) sh nq no np nw))), (0, .ref h), (3, .int (nI i14))]) hx hb dX1_bestLift_67 rfl hl (by decide) rfl (fun ls hl => ?_)
            refine lv_iinc (v := nI i14 + 1) (lv' := [(3, .int (nI i14 + 1)), (2, .int (nI (p_pr (p_lf F i14) sh nq no np nw))), (1, .int (nI i14)), (4, .int (nI (p_pr (p_lf F i14) sh nq no np nw))), (0, .ref h)]) hx hb dX1_bestLift_68 hl (k := 4) rfl rfl (by decide) rfl (fun ls hl => ?_)
            refine lv_goto (tgt := 14) hx hb dX1_bestLift_71 (by decide) ?_
            exact ih14 (i14 + 1) (by omega) (by omega) (by first | (rw [p_bM, if_pos c28]; exact hm9) | (rw [p_bM, if_neg c28, if_pos c57]; exact hl14) | (rw [p_bM, if_neg c28, if_neg c57]; exact hm9)) (nI i14) (nI (p_pr (p_lf F i14) sh nq no np nw)) (nI i14 + 1) (by first | (rw [p_bM, if_pos c28]; done) | (rw [p_bM, if_neg c28, if_pos c57]; done) | (rw [p_bM, if_neg c28, if_neg c57]; done)) (by first | (rw [p_bM, if_pos c28]; done) | (rw [p_bM, if_neg c28, if_pos c57]; done) | (rw [p_bM, if_neg c28, if_neg c57]; done)) (by first | exact nI_1 _ | exact nct_t (by assumption) | exact nct_f (by assumption) | exact nct_b | rfl) u42 _ _ hP hD hS _ (lv_sub hl [4, 2, 1, 0] rfl)
          · have c57 := mt (nI_ltI (by omega) (by omega)).mpr c57
            refine lv_goto (tgt := 68) hx hb dX1_bestLift_60 (by decide) ?_
            refine lv_iinc (v := nI i14 + 1) (lv' := [(3, .int (nI i14 + 1)), (4, .int (nI (p_pr (p_lf F i14) sh nq no np nw))), (0, .ref h), (1, .int ((p_bM F sh nq no np nw i14).1)), (2, .int (nI ((p_bM F sh nq no np nw i14).2)))]) hx hb dX1_bestLift_68 hl (k := 4) rfl rfl (by decide) rfl (fun ls hl => ?_)
            refine lv_goto (tgt := 14) hx hb dX1_bestLift_71 (by decide) ?_
            exact ih14 (i14 + 1) (by omega) (by omega) (by first | (rw [p_bM, if_pos c28]; exact hm9) | (rw [p_bM, if_neg c28, if_pos c57]; exact hl14) | (rw [p_bM, if_neg c28, if_neg c57]; exact hm9)) ((p_bM F sh nq no np nw i14).1) (nI ((p_bM F sh nq no np nw i14).2)) (nI i14 + 1) (by first | (rw [p_bM, if_pos c28]; done) | (rw [p_bM, if_neg c28, if_pos c57]; done) | (rw [p_bM, if_neg c28, if_neg c57]; done)) (by first | (rw [p_bM, if_pos c28]; done) | (rw [p_bM, if_neg c28, if_pos c57]; done) | (rw [p_bM, if_neg c28, if_neg c57]; done)) (by first | exact nI_1 _ | exact nct_t (by assumption) | exact nct_f (by assumption) | exact nct_b | rfl) u42 _ _ hP hD hS _ (lv_sub hl [2, 3, 4, 0] rfl)
        · refine lv_goto (tgt := 68) hx hb dX1_bestLift_31 (by decide) ?_
          refine lv_iinc (v := nI i14 + 1) (lv' := [(3, .int (nI i14 + 1)), (0, .ref h), (1, .int ((p_bM F sh nq no np nw i14).1)), (2, .int (nI ((p_bM F sh nq no np nw i14).2)))]) hx hb dX1_bestLift_68 hl (k := 3) rfl rfl (by decide) rfl (fun ls hl => ?_)
          refine lv_goto (tgt := 14) hx hb dX1_bestLift_71 (by decide) ?_
          exact ih14 (i14 + 1) (by omega) (by omega) (by first | (rw [p_bM, if_pos c28]; exact hm9) | (rw [p_bM, if_neg c28, if_pos c57]; exact hl14) | (rw [p_bM, if_neg c28, if_neg c57]; exact hm9)) ((p_bM F sh nq no np nw i14).1) (nI ((p_bM F sh nq no np nw i14).2)) (nI i14 + 1) (by first | (rw [p_bM, if_pos c28]; done) | (rw [p_bM, if_neg c28, if_pos c57]; done) | (rw [p_bM, if_neg c28, if_neg c57]; done)) (by first | (rw [p_bM, if_pos c28]; done) | (rw [p_bM, if_neg c28, if_pos c57]; done) | (rw [p_bM, if_neg c28, if_neg c57]; done)) (by first | exact nI_1 _ | exact nct_t (by assumption) | exact nct_f (by assumption) | exact nct_b | rfl) w14 _ _ hP hD hS _ (lv_sub hl [1, 2, 3, 0] rfl)
  exact key14 (no + 1) 0 (by omega) (by omega) (by exact pr_le F sh nw hnq hnp) (-1) (nI (p_pr F sh nq no np nw)) 0 (by first | rfl | simp [p_ct, p_sm, p_fl, p_fg, nI_0]) (by first | rfl | simp [p_ct, p_sm, p_fl, p_fg, nI_0]) (by first | rfl | simp [p_ct, p_sm, p_fl, p_fg, nI_0]) u8 _ _ hP hD hS _ (lv_sub hl [3, 2, 1, 0] rfl)
set_option maxHeartbeats 4000000 in
set_option maxRecDepth 100000 in
theorem c_X1_meanDebt (l : Launch) (G : va_G) (cI cZ : ClassId) (h : Nat) (a : Nat → Nat) (F : Nat → Nat → Int32) (nq no np : Nat) (sh nw : Int32) (th : Int32) (wt : Nat → Int32) (sz : Nat) (hnp : np ≤ 20) : Met l yX1_meanDebt wsX1_meanDebt ({ frames := 1, cells := 0, slots := 0, locals := 22 } : Room) (va_Pc [.ref h] (wPre G (ty2 cI cZ) (Mk cI cZ h a F nq no np sh nw th wt) sz)) (va_Qd (fun (r : UInt64) (_ : Unit) => r = a_me F np) (fun _ => wP G (ty2 cI cZ) (Mk cI cZ h a F nq no np sh nw 0 wt) (va_A (Mk cI cZ h a F nq no np sh nw th wt) sz)) (va_A (Mk cI cZ h a F nq no np sh nw th wt) sz)) 0 0 (va_A (Mk cI cZ h a F nq no np sh nw th wt) sz) := by
  refine w_met (cc := cX1_meanDebt) (maxL := 1) (ret := (some .double)) (by decide) rfl (Nat.le_of_ble_eq_true rfl) ?_
  intro pg e s m below meth cd hx hb hml hr hts hown hlocks hnm hK hsz hP hD hA hS ls hl
  have hown : s.vm.findClass RX1 = some m.cls := hown
  have hin : ∀ w ∈ wsX10, w ∈ wsX1_meanDebt := by decide +kernel
  have hl : lv_has ls 1 [(0, .ref h)] := hl
  generalize hAe : va_A (Mk cI cZ h a F nq no np sh nw th wt) sz = A at hD hA hS ⊢
  refine lv_aload_n hx hb dX1_meanDebt_0 rfl (lv_at hl 0 rfl) ?_
  refine lv_iconst (v := 0) hx hb dX1_meanDebt_1 (by decide) ?_
  refine va_put (ci := 1) (v := .int 0) (ty := .int) (C := RX1) (T := TX1) (N := 18) hx hb hts hin tyX1 tyX1_ok nmX1 hown hK hP hD hS 0 rfl rfl 0 (by decide) (hts (.fieldLink RX1 47 "CurfewDeskModel" "thrown" "I") (by decide +kernel)) (fun _ h9 => h9) rfl (by decide +kernel) rfl rfl (Nat.le_of_ble_eq_true rfl) dX1_meanDebt_2 (fun H locs hP hD hS => ?_)
  have hP : va_P G vwCl (Mk cI cZ h a F nq no np sh nw 0 wt) H := hP
  have hD : va_D A (Mk cI cZ h a F nq no np sh nw 0 wt) := hD
  refine lv_aload_n hx hb dX1_meanDebt_5 rfl (lv_at hl 0 rfl) ?_
  refine va_get (ci := 1) (v := .int (nI np)) (C := RX1) (T := TX1) (N := 18) hx hb hts hin hown hK hP 0 rfl rfl 5 (by decide) (hts (.fieldLink RX1 61 "CurfewDeskModel" "people" "I") (by decide +kernel)) (fun _ h9 => h9) rfl dX1_meanDebt_6 ?_
  refine lv_if_ne (tgt := 16) hx hb dX1_meanDebt_9 (by decide) (fun c9 => ?_) (fun c9 => ?_)
  · refine lv_aload_n hx hb dX1_meanDebt_16 rfl (lv_at hl 0 rfl) ?_
    refine w_in_i (va_runV (As := []) (rest := []) ⟨hx, hb, hml, hown, hts⟩ (c_X1_all l G cI cZ h a F nq no np sh nw 0 wt H.size (by omega)) (cwV 0 hts gX1_meanDebt_X1_all rfl rfl rfl (by decide +kernel) ⟨(Nat.le_of_ble_eq_true rfl), (Nat.le_of_ble_eq_true rfl)⟩) ⟨wPre_blind, va_recv hK hP (ci := 1) (q0 := 0) rfl rfl, w_pre hK hP hD⟩ rfl rfl hl.1 rfl (lv_room (Nat.le_of_ble_eq_true rfl)) dX1_meanDebt_17 ⟨(Nat.le_of_ble_eq_true rfl), (Nat.le_of_ble_eq_true rfl)⟩) hD hS hA (fun r17 u17 H locs hw17 hP hD hS => ?_)
    have hP : va_P G vwCl (Mk cI cZ h a F nq no np sh nw 0 wt) H := hP
    have hD : va_D A (Mk cI cZ h a F nq no np sh nw 0 wt) := hD
    have hw17 : r17 = p_sm (F 8) np := hw17
    subst hw17
    refine lv_i2d hx hb dX1_meanDebt_20 ?_
    refine lv_aload_n hx hb dX1_meanDebt_21 rfl (lv_at hl 0 rfl) ?_
    refine va_get (ci := 1) (v := .int (nI np)) (C := RX1) (T := TX1) (N := 18) hx hb hts hin hown hK hP 0 rfl rfl 5 (by decide) (hts (.fieldLink RX1 61 "CurfewDeskModel" "people" "I") (by decide +kernel)) (fun _ h9 => h9) rfl dX1_meanDebt_22 ?_
    refine lv_i2d hx hb dX1_meanDebt_25 ?_
    refine lv_ddiv hx hb dX1_meanDebt_26 (nn_vf (nn_div _ c9)) ?_
    exact w_dret () hx hb hr hlocks hK hP hD hS (Nat.le_of_ble_eq_true rfl) (Nat.le_of_ble_eq_true rfl) dX1_meanDebt_27 (show (FP.ddiv (FP.i2d (p_sm (F 8) np)) (FP.i2d (nI np))) = a_me F np from by first | rw [a_me, if_pos ((nI_eq (a := np) (b := 0) (by omega) (by omega)).mp c9)] | rw [a_me, if_neg (mt (nI_eq (a := np) (b := 0) (by omega) (by omega)).mpr c9)])
  · refine lv_dconst0 hx hb dX1_meanDebt_12 ?_
    refine lv_goto (tgt := 27) hx hb dX1_meanDebt_13 (by decide) ?_
    exact w_dret () hx hb hr hlocks hK hP hD hS (Nat.le_of_ble_eq_true rfl) (Nat.le_of_ble_eq_true rfl) dX1_meanDebt_27 (show FP.dconst0 = a_me F np from by first | rw [a_me, if_pos ((nI_eq (a := np) (b := 0) (by omega) (by omega)).mp c9)] | rw [a_me, if_neg (mt (nI_eq (a := np) (b := 0) (by omega) (by omega)).mpr c9)])
