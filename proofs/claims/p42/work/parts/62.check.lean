section CHK
set_option maxHeartbeats 16000000 in
set_option maxRecDepth 100000 in
theorem lb_652 (pg : Program) (l : Launch) (e : Env) (s : State) (m : MethodId) (b : Nat) (below : List Frame) (meth : Method) (cd : Code) (G : va_G) (cI cZ : ClassId) (hc : Nat) (a : Nat → Nat) (w : BW) (T qn on pn K C0 S0 : Nat) (t : Nat) (hC : LCx pg s m b meth cd G cI cZ) (hB : LBx w qn on pn C0 S0) (h679 : LK pg l e s m b below meth cd G (WB cI cZ hc a w T qn on pn) K C0 S0 679 [(0, .ref b), (1, .ref hc), (2, .ref w.1.1), (3, .int (nI t))] []) : ∀ (x7 x8 x9 x10 : Int32), LK pg l e s m b below meth cd G (WB cI cZ hc a w T qn on pn) K C0 S0 652 [(0, .ref b), (1, .ref hc), (2, .ref w.1.1), (3, .int (nI t)), (7, .int x7), (8, .int x8), (9, .int x9), (10, .int x10)] [] := by
  have hC0 := hC
  have hB0 := hB
  obtain ⟨hx, hb, hml, hr, hts, hown, hlocks, hK⟩ := hC
  obtain ⟨hqn, hon, hpn, hF, hC1, hS1⟩ := hB
  have hA : ∀ q : Nat, s.heap.size ≤ q → oA s q := fun _ h => h
  intro x7 x8 x9 x10
  intro H locs ls cells slots hc9 hs9 hP hD hS hM hl
  refine lv_iload hx hb dL_law_652 (lv_at hl 4 rfl) ?_
  refine lv_aload_n hx hb dL_law_654 rfl (lv_at hl 1 rfl) ?_
  refine o_rd hM hP hD hS hA (va_runV (As := []) (rest := [.int x7]) ⟨hx, hb, hml, hown, hts⟩ (c_X0_ordersOn l G cI cZ hc a w.2.2.2.1 qn on pn 0 w.2.2.2.2.1 H.size hon) (cwV 0 hts gL_law_X0_ordersOn rfl rfl rfl (by decide +kernel) ⟨(Nat.le_of_ble_eq_true rfl), (Nat.le_of_ble_eq_true rfl)⟩) ⟨wPre_blind, va_recv hK hP (ci := 0) (q0 := 3) rfl rfl, w_preP hK hP hD [3, 4, 5, 6, 7, 8, 9, 10, 11, 12, 13, 14] (by decide) rfl rfl⟩ rfl rfl hl.1 rfl (lv_room (Nat.le_of_ble_eq_true rfl)) dL_law_655 ⟨Nat.le_trans hc9 hC1, Nat.le_trans hs9 hS1⟩) (fun r655 H locs hw hP hD hS hM => ?_)
  clear hw
  refine lv_icmp_ne (tgt := 677) hx hb dL_law_658 (by decide) (fun c658 => ?_) (fun c658 => ?_)
  · refine lv_iconst (v := 0) hx hb dL_law_677 (by decide) ?_
    exact o_ret0 hx hb hr hlocks hS dL_law_678
  · refine lv_iload hx hb dL_law_661 (lv_at hl 6 rfl) ?_
    refine lv_iload hx hb dL_law_663 (lv_at hl 5 rfl) ?_
    refine lv_icmp_ne (tgt := 677) hx hb dL_law_665 (by decide) (fun c665 => ?_) (fun c665 => ?_)
    · refine lv_iconst (v := 0) hx hb dL_law_677 (by decide) ?_
      exact o_ret0 hx hb hr hlocks hS dL_law_678
    · refine lv_iload hx hb dL_law_668 (lv_at hl 7 rfl) ?_
      refine lv_aload_n hx hb dL_law_670 rfl (lv_at hl 1 rfl) ?_
      refine o_rd hM hP hD hS hA (va_runV (As := []) (rest := [.int x10]) ⟨hx, hb, hml, hown, hts⟩ (c_X0_allOwe l G cI cZ hc a w.2.2.2.1 qn on pn 0 w.2.2.2.2.1 H.size hpn) (cwV 0 hts gL_law_X0_allOwe rfl rfl rfl (by decide +kernel) ⟨(Nat.le_of_ble_eq_true rfl), (Nat.le_of_ble_eq_true rfl)⟩) ⟨wPre_blind, va_recv hK hP (ci := 0) (q0 := 3) rfl rfl, w_preP hK hP hD [3, 4, 5, 6, 7, 8, 9, 10, 11, 12, 13, 14] (by decide) rfl rfl⟩ rfl rfl hl.1 rfl (lv_room (Nat.le_of_ble_eq_true rfl)) dL_law_671 ⟨Nat.le_trans hc9 hC1, Nat.le_trans hs9 hS1⟩) (fun r671 H locs hw hP hD hS hM => ?_)
      clear hw
      refine lv_icmp_eq (tgt := 679) hx hb dL_law_674 (by decide) (fun c674 => ?_) (fun c674 => ?_)
      · exact h679  _ _ _ _ _ hc9 hs9 hP hD hS hM (lv_sub hl [0, 1, 2, 3] rfl)
      · refine lv_iconst (v := 0) hx hb dL_law_677 (by decide) ?_
        exact o_ret0 hx hb hr hlocks hS dL_law_678
set_option maxHeartbeats 16000000 in
set_option maxRecDepth 100000 in
theorem lb_530 (pg : Program) (l : Launch) (e : Env) (s : State) (m : MethodId) (b : Nat) (below : List Frame) (meth : Method) (cd : Code) (G : va_G) (cI cZ : ClassId) (hc : Nat) (a : Nat → Nat) (w : BW) (T qn on pn K C0 S0 : Nat) (t : Nat)  (i11 : Nat) (hlt_i11 : i11 < pn)(hC : LCx pg s m b meth cd G cI cZ) (hB : LBx w qn on pn C0 S0) (h646 : ∀ (x7 x8 x9 x10 : Int32), LK pg l e s m b below meth cd G (WB cI cZ hc a w T qn on pn) K C0 S0 646 [(0, .ref b), (1, .ref hc), (2, .ref w.1.1), (3, .int (nI t)), (7, .int x7), (8, .int x8), (9, .int x9), (10, .int x10), (11, .int (nI i11))] []) : ∀ (n i14 : Nat), i14 ≤ qn → qn < i14 + n → ∀ (x7 x8 x9 x10 x13 : Int32), LK pg l e s m b below meth cd G (WB cI cZ hc a w T qn on pn) K C0 S0 530 [(0, .ref b), (1, .ref hc), (2, .ref w.1.1), (3, .int (nI t)), (7, .int x7), (8, .int x8), (9, .int x9), (10, .int x10), (11, .int (nI i11)), (13, .int x13), (14, .int (nI i14))] [] := by
  have hC0 := hC
  have hB0 := hB
  obtain ⟨hx, hb, hml, hr, hts, hown, hlocks, hK⟩ := hC
  obtain ⟨hqn, hon, hpn, hF, hC1, hS1⟩ := hB
  have hA : ∀ q : Nat, s.heap.size ≤ q → oA s q := fun _ h => h
  intro n
  induction n with
  | zero => intro i14 h1 h2; exact absurd h2 (by omega)
  | succ n ih =>
    intro i14 hi_i14 hn_i14
    intro x7 x8 x9 x10 x13
    intro H locs ls cells slots hc9 hs9 hP hD hS hM hl
    refine lv_iload hx hb dL_law_530 (lv_at hl 10 rfl) ?_
    refine lv_aload_n hx hb dL_law_532 rfl (lv_at hl 1 rfl) ?_
    refine o_rd hM hP hD hS hA (va_runV (As := []) (rest := [.int (nI i14)]) ⟨hx, hb, hml, hown, hts⟩ (c_X0_quarters l G cI cZ hc a w.2.2.2.1 qn on pn 0 w.2.2.2.2.1 H.size ) (cwV 0 hts gL_law_X0_quarters rfl rfl rfl (by decide +kernel) ⟨(Nat.le_of_ble_eq_true rfl), (Nat.le_of_ble_eq_true rfl)⟩) ⟨wPre_blind, va_recv hK hP (ci := 0) (q0 := 3) rfl rfl, w_preP hK hP hD [3, 4, 5, 6, 7, 8, 9, 10, 11, 12, 13, 14] (by decide) rfl rfl⟩ rfl rfl hl.1 rfl (lv_room (Nat.le_of_ble_eq_true rfl)) dL_law_533 ⟨Nat.le_trans hc9 hC1, Nat.le_trans hs9 hS1⟩) (fun r533 H locs hw hP hD hS hM => ?_)
    obtain ⟨-, hw⟩ := hw
    subst hw
    refine lv_icmp_ge (tgt := 646) hx hb dL_law_536 (by decide) (fun c536 => ?_) (fun c536 => ?_)
    · have h9 : qn ≤ i14 := (nI_leI (by omega) (by omega)).mp c536
      exact h646 x7 x8 x9 x10 _ _ _ _ _ hc9 hs9 hP hD hS hM (lv_sub hl [0, 1, 2, 3, 4, 5, 6, 7, 8] rfl)
    · have hlt_i14 : i14 < qn := o_ge c536 (by omega) (by omega)
      refine lv_aload_n hx hb dL_law_539 rfl (lv_at hl 1 rfl) ?_
      refine lv_iload hx hb dL_law_540 (lv_at hl 8 rfl) ?_
      refine lv_iload hx hb dL_law_542 (lv_at hl 10 rfl) ?_
      refine o_rd hM hP hD hS hA (va_runV (As := [.int (nI i11), .int (nI i14)]) (rest := []) ⟨hx, hb, hml, hown, hts⟩ (c_X0_ordersAgainst l G cI cZ hc a w.2.2.2.1 qn on pn 0 w.2.2.2.2.1 H.size (nI i11) (nI i14) hqn hon hpn (pin_nI hlt_i11 (by omega)) (pin_nI hlt_i14 (by omega))) (cwV 2 hts gL_law_X0_ordersAgainst rfl rfl rfl (by decide +kernel) ⟨(Nat.le_of_ble_eq_true rfl), (Nat.le_of_ble_eq_true rfl)⟩) ⟨wPre_blind, va_recv hK hP (ci := 0) (q0 := 3) rfl rfl, w_preP hK hP hD [3, 4, 5, 6, 7, 8, 9, 10, 11, 12, 13, 14] (by decide) rfl rfl⟩ rfl rfl hl.1 rfl (lv_room (Nat.le_of_ble_eq_true rfl)) dL_law_544 ⟨Nat.le_trans hc9 hC1, Nat.le_trans hs9 hS1⟩) (fun r544 H locs hw hP hD hS hM => ?_)
      clear hw
      refine lv_istore (lv' := [(15, .int r544), (0, .ref b), (1, .ref hc), (2, .ref w.1.1), (3, .int (nI t)), (7, .int x7), (8, .int x8), (9, .int x9), (10, .int x10), (11, .int (nI i11)), (13, .int x13), (14, .int (nI i14))]) hx hb dL_law_547 hl (by decide) rfl (fun ls hl => ?_)
      refine lv_aload_n hx hb dL_law_549 rfl (lv_at hl 2 rfl) ?_
      refine lv_iload hx hb dL_law_550 (lv_at hl 9 rfl) ?_
      refine lv_iload hx hb dL_law_552 (lv_at hl 11 rfl) ?_
      refine o_rd hM hP hD hS hA (va_runV (As := [.int (nI i11), .int (nI i14)]) (rest := []) ⟨hx, hb, hml, hown, hts⟩ (c_X0_stampsMissing l G cI cZ hc a w.2.2.2.1 qn on pn 0 w.2.2.2.2.1 H.size (nI i11) (nI i14) hqn hon hpn (pin_nI hlt_i11 (by omega)) (pin_nI hlt_i14 (by omega))) (cwV 2 hts gL_law_X0_stampsMissing rfl rfl rfl (by decide +kernel) ⟨(Nat.le_of_ble_eq_true rfl), (Nat.le_of_ble_eq_true rfl)⟩) ⟨wPre_blind, va_recv hK hP (ci := 0) (q0 := 3) rfl rfl, w_preP hK hP hD [3, 4, 5, 6, 7, 8, 9, 10, 11, 12, 13, 14] (by decide) rfl rfl⟩ rfl rfl hl.1 rfl (lv_room (Nat.le_of_ble_eq_true rfl)) dL_law_554 ⟨Nat.le_trans hc9 hC1, Nat.le_trans hs9 hS1⟩) (fun r554 H locs hw hP hD hS hM => ?_)
      clear hw
      refine lv_istore (lv' := [(16, .int r554), (15, .int r544), (0, .ref b), (1, .ref hc), (2, .ref w.1.1), (3, .int (nI t)), (7, .int x7), (8, .int x8), (9, .int x9), (10, .int x10), (11, .int (nI i11)), (13, .int x13), (14, .int (nI i14))]) hx hb dL_law_557 hl (by decide) rfl (fun ls hl => ?_)
      refine lv_iload hx hb dL_law_559 (lv_at hl 8 rfl) ?_
      refine lv_iload hx hb dL_law_561 (lv_at hl 1 rfl) ?_
      refine lv_iadd hx hb dL_law_563 ?_
      refine lv_istore (lv' := [(9, .int (x9 + r544)), (16, .int r554), (15, .int r544), (0, .ref b), (1, .ref hc), (2, .ref w.1.1), (3, .int (nI t)), (7, .int x7), (8, .int x8), (10, .int x10), (11, .int (nI i11)), (13, .int x13), (14, .int (nI i14))]) hx hb dL_law_564 hl (by decide) rfl (fun ls hl => ?_)
      refine lv_iload hx hb dL_law_566 (lv_at hl 1 rfl) ?_
      refine lv_if_lt (tgt := 638) hx hb dL_law_568 (by decide) (fun c568 => ?_) (fun c568 => ?_)
      · refine lv_iconst (v := 0) hx hb dL_law_638 (by decide) ?_
        exact o_ret0 hx hb hr hlocks hS dL_law_639
      · refine lv_iload hx hb dL_law_571 (lv_at hl 1 rfl) ?_
        refine lv_iload hx hb dL_law_573 (lv_at hl 2 rfl) ?_
        refine lv_icmp_gt (tgt := 638) hx hb dL_law_575 (by decide) (fun c575 => ?_) (fun c575 => ?_)
        · refine lv_iconst (v := 0) hx hb dL_law_638 (by decide) ?_
          exact o_ret0 hx hb hr hlocks hS dL_law_639
        · refine lv_iload hx hb dL_law_578 (lv_at hl 1 rfl) ?_
          refine lv_iload hx hb dL_law_580 (lv_at hl 2 rfl) ?_
          refine lv_iload hx hb dL_law_582 (lv_at hl 11 rfl) ?_
          refine lv_isub hx hb dL_law_584 ?_
          refine lv_icmp_lt (tgt := 638) hx hb dL_law_585 (by decide) (fun c585 => ?_) (fun c585 => ?_)
          · refine lv_iconst (v := 0) hx hb dL_law_638 (by decide) ?_
            exact o_ret0 hx hb hr hlocks hS dL_law_639
          · refine lv_aload_n hx hb dL_law_588 rfl (lv_at hl 4 rfl) ?_
            refine lv_iload hx hb dL_law_589 (lv_at hl 10 rfl) ?_
            refine lv_iload hx hb dL_law_591 (lv_at hl 12 rfl) ?_
            refine o_rd hM hP hD hS hA (va_runV (As := [.int (nI i11), .int (nI i14)]) (rest := []) ⟨hx, hb, hml, hown, hts⟩ (c_X0_mayGo l G cI cZ hc a w.2.2.2.1 qn on pn 0 w.2.2.2.2.1 H.size (nI i11) (nI i14) hqn hon hpn (pin_nI hlt_i11 (by omega)) (pin_nI hlt_i14 (by omega))) (cwV 2 hts gL_law_X0_mayGo rfl rfl rfl (by decide +kernel) ⟨(Nat.le_of_ble_eq_true rfl), (Nat.le_of_ble_eq_true rfl)⟩) ⟨wPre_blind, va_recv hK hP (ci := 0) (q0 := 3) rfl rfl, w_preP hK hP hD [3, 4, 5, 6, 7, 8, 9, 10, 11, 12, 13, 14] (by decide) rfl rfl⟩ rfl rfl hl.1 rfl (lv_room (Nat.le_of_ble_eq_true rfl)) dL_law_593 ⟨Nat.le_trans hc9 hC1, Nat.le_trans hs9 hS1⟩) (fun r593 H locs hw hP hD hS hM => ?_)
            clear hw
            refine lv_iload hx hb dL_law_596 (lv_at hl 1 rfl) ?_
            refine w_selN (v1 := 1) (v2 := 0) hx hb dL_law_598 (by decide) dL_law_601 (by decide) dL_law_602 (by decide) dL_law_605 (by decide) ?_
            generalize hv598 : (if r554 = 0 then (1 : Int32) else 0 : Int32) = v598
            clear hv598
            refine lv_icmp_ne (tgt := 638) hx hb dL_law_606 (by decide) (fun c606 => ?_) (fun c606 => ?_)
            · refine lv_iconst (v := 0) hx hb dL_law_638 (by decide) ?_
              exact o_ret0 hx hb hr hlocks hS dL_law_639
            · refine lv_iload hx hb dL_law_609 (lv_at hl 2 rfl) ?_
              refine w_selN (v1 := 1) (v2 := 0) hx hb dL_law_611 (by decide) dL_law_614 (by decide) dL_law_615 (by decide) dL_law_618 (by decide) ?_
              generalize hv611 : (if r544 = 0 then (1 : Int32) else 0 : Int32) = v611
              clear hv611
              refine lv_aload_n hx hb dL_law_619 rfl (lv_at hl 4 rfl) ?_
              refine lv_iload hx hb dL_law_620 (lv_at hl 10 rfl) ?_
              refine lv_iload hx hb dL_law_622 (lv_at hl 12 rfl) ?_
              refine o_rd hM hP hD hS hA (va_runV (As := [.int (nI i11), .int (nI i14)]) (rest := [.int v611]) ⟨hx, hb, hml, hown, hts⟩ (c_X0_halfHoursUntilFree l G cI cZ hc a w.2.2.2.1 qn on pn 0 w.2.2.2.2.1 H.size (nI i11) (nI i14) hqn hon hpn (pin_nI hlt_i11 (by omega)) (pin_nI hlt_i14 (by omega))) (cwV 2 hts gL_law_X0_halfHoursUntilFree rfl rfl rfl (by decide +kernel) ⟨(Nat.le_of_ble_eq_true rfl), (Nat.le_of_ble_eq_true rfl)⟩) ⟨wPre_blind, va_recv hK hP (ci := 0) (q0 := 3) rfl rfl, w_preP hK hP hD [3, 4, 5, 6, 7, 8, 9, 10, 11, 12, 13, 14] (by decide) rfl rfl⟩ rfl rfl hl.1 rfl (lv_room (Nat.le_of_ble_eq_true rfl)) dL_law_624 ⟨Nat.le_trans hc9 hC1, Nat.le_trans hs9 hS1⟩) (fun r624 H locs hw hP hD hS hM => ?_)
              clear hw
              refine w_selN (v1 := 1) (v2 := 0) hx hb dL_law_627 (by decide) dL_law_630 (by decide) dL_law_631 (by decide) dL_law_634 (by decide) ?_
              generalize hv627 : (if r624 = 0 then (1 : Int32) else 0 : Int32) = v627
              clear hv627
              refine lv_icmp_eq (tgt := 640) hx hb dL_law_635 (by decide) (fun c635 => ?_) (fun c635 => ?_)
              · refine lv_iinc (v := nI i14 + 1) (lv' := [(14, .int (nI i14 + 1)), (9, .int (x9 + r544)), (16, .int r554), (15, .int r544), (0, .ref b), (1, .ref hc), (2, .ref w.1.1), (3, .int (nI t)), (7, .int x7), (8, .int x8), (10, .int x10), (11, .int (nI i11)), (13, .int x13)]) hx hb dL_law_640 hl (k := 12) rfl rfl (by decide) rfl (fun ls hl => ?_)
                rw [nI_1] at hl
                refine lv_goto (tgt := 530) hx hb dL_law_643 (by decide) ?_
                exact ih (i14 + 1) (by omega) (by omega) x7 x8 (x9 + r544) x10 x13 _ _ _ _ _ hc9 hs9 hP hD hS hM (lv_sub hl [4, 5, 6, 7, 8, 9, 1, 10, 11, 12, 0] rfl)
              · refine lv_iconst (v := 0) hx hb dL_law_638 (by decide) ?_
                exact o_ret0 hx hb hr hlocks hS dL_law_639
set_option maxHeartbeats 16000000 in
set_option maxRecDepth 100000 in
theorem lb_484 (pg : Program) (l : Launch) (e : Env) (s : State) (m : MethodId) (b : Nat) (below : List Frame) (meth : Method) (cd : Code) (G : va_G) (cI cZ : ClassId) (hc : Nat) (a : Nat → Nat) (w : BW) (T qn on pn K C0 S0 : Nat) (t : Nat)  (i11 : Nat) (hlt_i11 : i11 < pn)(hC : LCx pg s m b meth cd G cI cZ) (hB : LBx w qn on pn C0 S0) (h527 : ∀ (x7 x8 x9 x10 x13 : Int32), LK pg l e s m b below meth cd G (WB cI cZ hc a w T qn on pn) K C0 S0 527 [(0, .ref b), (1, .ref hc), (2, .ref w.1.1), (3, .int (nI t)), (7, .int x7), (8, .int x8), (9, .int x9), (10, .int x10), (11, .int (nI i11)), (13, .int x13)] []) : ∀ (n i14 : Nat), i14 ≤ 4 → 4 < i14 + n → ∀ (x7 x8 x9 x10 x13 : Int32), LK pg l e s m b below meth cd G (WB cI cZ hc a w T qn on pn) K C0 S0 484 [(0, .ref b), (1, .ref hc), (2, .ref w.1.1), (3, .int (nI t)), (7, .int x7), (8, .int x8), (9, .int x9), (10, .int x10), (11, .int (nI i11)), (13, .int x13), (14, .int (nI i14))] [] := by
  have hC0 := hC
  have hB0 := hB
  obtain ⟨hx, hb, hml, hr, hts, hown, hlocks, hK⟩ := hC
  obtain ⟨hqn, hon, hpn, hF, hC1, hS1⟩ := hB
  have hA : ∀ q : Nat, s.heap.size ≤ q → oA s q := fun _ h => h
  intro n
  induction n with
  | zero => intro i14 h1 h2; exact absurd h2 (by omega)
  | succ n ih =>
    intro i14 hi_i14 hn_i14
    intro x7 x8 x9 x10 x13
    intro H locs ls cells slots hc9 hs9 hP hD hS hM hl
    refine lv_iload hx hb dL_law_484 (lv_at hl 10 rfl) ?_
    refine lv_iconst (v := nI 4) hx hb dL_law_486 (by decide) ?_
    refine lv_icmp_ge (tgt := 527) hx hb dL_law_487 (by decide) (fun c487 => ?_) (fun c487 => ?_)
    · have h9 : 4 ≤ i14 := (nI_leI (by omega) (by omega)).mp c487
      exact h527 x7 x8 x9 x10 x13 _ _ _ _ _ hc9 hs9 hP hD hS hM (lv_sub hl [0, 1, 2, 3, 4, 5, 6, 7, 8, 9] rfl)
    · have hlt_i14 : i14 < 4 := o_ge c487 (by omega) (by omega)
      refine lv_aload_n hx hb dL_law_490 rfl (lv_at hl 1 rfl) ?_
      refine lv_iload hx hb dL_law_491 (lv_at hl 8 rfl) ?_
      refine lv_iload hx hb dL_law_493 (lv_at hl 10 rfl) ?_
      refine o_rd hM hP hD hS hA (va_runV (As := [.int (nI i11), .int (nI i14)]) (rest := []) ⟨hx, hb, hml, hown, hts⟩ (c_X0_stampsOf l G cI cZ hc a w.2.2.2.1 qn on pn 0 w.2.2.2.2.1 H.size (nI i11) (nI i14) hpn (pin_nI hlt_i11 (by omega)) (pin_nI hlt_i14 (by omega))) (cwV 2 hts gL_law_X0_stampsOf rfl rfl rfl (by decide +kernel) ⟨(Nat.le_of_ble_eq_true rfl), (Nat.le_of_ble_eq_true rfl)⟩) ⟨wPre_blind, va_recv hK hP (ci := 0) (q0 := 3) rfl rfl, w_preP hK hP hD [3, 4, 5, 6, 7, 8, 9, 10, 11, 12, 13, 14] (by decide) rfl rfl⟩ rfl rfl hl.1 rfl (lv_room (Nat.le_of_ble_eq_true rfl)) dL_law_495 ⟨Nat.le_trans hc9 hC1, Nat.le_trans hs9 hS1⟩) (fun r495 H locs hw hP hD hS hM => ?_)
      clear hw
      refine lv_istore (lv' := [(15, .int r495), (0, .ref b), (1, .ref hc), (2, .ref w.1.1), (3, .int (nI t)), (7, .int x7), (8, .int x8), (9, .int x9), (10, .int x10), (11, .int (nI i11)), (13, .int x13), (14, .int (nI i14))]) hx hb dL_law_498 hl (by decide) rfl (fun ls hl => ?_)
      refine lv_iload hx hb dL_law_500 (lv_at hl 0 rfl) ?_
      refine lv_if_lt (tgt := 512) hx hb dL_law_502 (by decide) (fun c502 => ?_) (fun c502 => ?_)
      · refine lv_iconst (v := 0) hx hb dL_law_512 (by decide) ?_
        exact o_ret0 hx hb hr hlocks hS dL_law_513
      · refine lv_iload hx hb dL_law_505 (lv_at hl 0 rfl) ?_
        refine lv_bipush (v := 9) hx hb dL_law_507 (by decide) ?_
        refine lv_icmp_le (tgt := 514) hx hb dL_law_509 (by decide) (fun c509 => ?_) (fun c509 => ?_)
        · refine lv_iload hx hb dL_law_514 (lv_at hl 10 rfl) ?_
          refine lv_iload hx hb dL_law_516 (lv_at hl 0 rfl) ?_
          refine lv_iadd hx hb dL_law_518 ?_
          refine lv_istore (lv' := [(13, .int (x13 + r495)), (15, .int r495), (0, .ref b), (1, .ref hc), (2, .ref w.1.1), (3, .int (nI t)), (7, .int x7), (8, .int x8), (9, .int x9), (10, .int x10), (11, .int (nI i11)), (14, .int (nI i14))]) hx hb dL_law_519 hl (by decide) rfl (fun ls hl => ?_)
          refine lv_iinc (v := nI i14 + 1) (lv' := [(14, .int (nI i14 + 1)), (13, .int (x13 + r495)), (15, .int r495), (0, .ref b), (1, .ref hc), (2, .ref w.1.1), (3, .int (nI t)), (7, .int x7), (8, .int x8), (9, .int x9), (10, .int x10), (11, .int (nI i11))]) hx hb dL_law_521 hl (k := 11) rfl rfl (by decide) rfl (fun ls hl => ?_)
          rw [nI_1] at hl
          refine lv_goto (tgt := 484) hx hb dL_law_524 (by decide) ?_
          exact ih (i14 + 1) (by omega) (by omega) x7 x8 x9 x10 (x13 + r495) _ _ _ _ _ hc9 hs9 hP hD hS hM (lv_sub hl [3, 4, 5, 6, 7, 8, 9, 10, 11, 1, 0] rfl)
        · refine lv_iconst (v := 0) hx hb dL_law_512 (by decide) ?_
          exact o_ret0 hx hb hr hlocks hS dL_law_513
set_option maxHeartbeats 16000000 in
set_option maxRecDepth 100000 in
theorem lb_430 (pg : Program) (l : Launch) (e : Env) (s : State) (m : MethodId) (b : Nat) (below : List Frame) (meth : Method) (cd : Code) (G : va_G) (cI cZ : ClassId) (hc : Nat) (a : Nat → Nat) (w : BW) (T qn on pn K C0 S0 : Nat) (t : Nat) (hC : LCx pg s m b meth cd G cI cZ) (hB : LBx w qn on pn C0 S0) (h652 : ∀ (x7 x8 x9 x10 : Int32), LK pg l e s m b below meth cd G (WB cI cZ hc a w T qn on pn) K C0 S0 652 [(0, .ref b), (1, .ref hc), (2, .ref w.1.1), (3, .int (nI t)), (7, .int x7), (8, .int x8), (9, .int x9), (10, .int x10)] []) : ∀ (n i11 : Nat), i11 ≤ pn → pn < i11 + n → ∀ (x7 x8 x9 x10 : Int32), LK pg l e s m b below meth cd G (WB cI cZ hc a w T qn on pn) K C0 S0 430 [(0, .ref b), (1, .ref hc), (2, .ref w.1.1), (3, .int (nI t)), (7, .int x7), (8, .int x8), (9, .int x9), (10, .int x10), (11, .int (nI i11))] [] := by
  have hC0 := hC
  have hB0 := hB
  obtain ⟨hx, hb, hml, hr, hts, hown, hlocks, hK⟩ := hC
  obtain ⟨hqn, hon, hpn, hF, hC1, hS1⟩ := hB
  have hA : ∀ q : Nat, s.heap.size ≤ q → oA s q := fun _ h => h
  intro n
  induction n with
  | zero => intro i11 h1 h2; exact absurd h2 (by omega)
  | succ n ih =>
    intro i11 hi_i11 hn_i11
    have h646 : i11 < pn → ∀ (x7 x8 x9 x10 : Int32), LK pg l e s m b below meth cd G (WB cI cZ hc a w T qn on pn) K C0 S0 646 [(0, .ref b), (1, .ref hc), (2, .ref w.1.1), (3, .int (nI t)), (7, .int x7), (8, .int x8), (9, .int x9), (10, .int x10), (11, .int (nI i11))] [] := by
      intro hlt_i11
      intro x7 x8 x9 x10
      intro H locs ls cells slots hc9 hs9 hP hD hS hM hl
      refine lv_iinc (v := nI i11 + 1) (lv' := [(11, .int (nI i11 + 1)), (0, .ref b), (1, .ref hc), (2, .ref w.1.1), (3, .int (nI t)), (7, .int x7), (8, .int x8), (9, .int x9), (10, .int x10)]) hx hb dL_law_646 hl (k := 8) rfl rfl (by decide) rfl (fun ls hl => ?_)
      rw [nI_1] at hl
      refine lv_goto (tgt := 430) hx hb dL_law_649 (by decide) ?_
      exact ih (i11 + 1) (by omega) (by omega) x7 x8 x9 x10 _ _ _ _ _ hc9 hs9 hP hD hS hM (lv_sub hl [1, 2, 3, 4, 5, 6, 7, 8, 0] rfl)
    have h527 : i11 < pn → ∀ (x7 x8 x9 x10 x13 : Int32), LK pg l e s m b below meth cd G (WB cI cZ hc a w T qn on pn) K C0 S0 527 [(0, .ref b), (1, .ref hc), (2, .ref w.1.1), (3, .int (nI t)), (7, .int x7), (8, .int x8), (9, .int x9), (10, .int x10), (11, .int (nI i11)), (13, .int x13)] [] := by
      intro hlt_i11
      intro x7 x8 x9 x10 x13
      intro H locs ls cells slots hc9 hs9 hP hD hS hM hl
      refine lv_iconst (v := 0) hx hb dL_law_527 (by decide) ?_
      refine lv_istore (lv' := [(14, .int 0), (0, .ref b), (1, .ref hc), (2, .ref w.1.1), (3, .int (nI t)), (7, .int x7), (8, .int x8), (9, .int x9), (10, .int x10), (11, .int (nI i11)), (13, .int x13)]) hx hb dL_law_528 hl (by decide) rfl (fun ls hl => ?_)
      exact (fun x7 x8 x9 x10 x13 => lb_530 pg l e s m b below meth cd G cI cZ hc a w T qn on pn K C0 S0 t i11 hlt_i11 hC0 hB0 (h646 hlt_i11) (qn + 1) 0 (by omega) (by omega) x7 x8 x9 x10 x13) x7 x8 x9 x10 x13 _ _ _ _ _ hc9 hs9 hP hD hS hM (lv_sub hl [1, 2, 3, 4, 5, 6, 7, 8, 9, 10, 0] rfl)
    intro x7 x8 x9 x10
    intro H locs ls cells slots hc9 hs9 hP hD hS hM hl
    refine lv_iload hx hb dL_law_430 (lv_at hl 8 rfl) ?_
    refine lv_aload_n hx hb dL_law_432 rfl (lv_at hl 1 rfl) ?_
    refine o_rd hM hP hD hS hA (va_runV (As := []) (rest := [.int (nI i11)]) ⟨hx, hb, hml, hown, hts⟩ (c_X0_people l G cI cZ hc a w.2.2.2.1 qn on pn 0 w.2.2.2.2.1 H.size ) (cwV 0 hts gL_law_X0_people rfl rfl rfl (by decide +kernel) ⟨(Nat.le_of_ble_eq_true rfl), (Nat.le_of_ble_eq_true rfl)⟩) ⟨wPre_blind, va_recv hK hP (ci := 0) (q0 := 3) rfl rfl, w_preP hK hP hD [3, 4, 5, 6, 7, 8, 9, 10, 11, 12, 13, 14] (by decide) rfl rfl⟩ rfl rfl hl.1 rfl (lv_room (Nat.le_of_ble_eq_true rfl)) dL_law_433 ⟨Nat.le_trans hc9 hC1, Nat.le_trans hs9 hS1⟩) (fun r433 H locs hw hP hD hS hM => ?_)
    obtain ⟨-, hw⟩ := hw
    subst hw
    refine lv_icmp_ge (tgt := 652) hx hb dL_law_436 (by decide) (fun c436 => ?_) (fun c436 => ?_)
    · have h9 : pn ≤ i11 := (nI_leI (by omega) (by omega)).mp c436
      exact h652 x7 x8 x9 x10 _ _ _ _ _ hc9 hs9 hP hD hS hM (lv_sub hl [0, 1, 2, 3, 4, 5, 6, 7] rfl)
    · have hlt_i11 : i11 < pn := o_ge c436 (by omega) (by omega)
      refine lv_aload_n hx hb dL_law_439 rfl (lv_at hl 1 rfl) ?_
      refine lv_iload hx hb dL_law_440 (lv_at hl 8 rfl) ?_
      refine o_rd hM hP hD hS hA (va_runV (As := [.int (nI i11)]) (rest := []) ⟨hx, hb, hml, hown, hts⟩ (c_X0_timesFined l G cI cZ hc a w.2.2.2.1 qn on pn 0 w.2.2.2.2.1 H.size (nI i11) hpn (pin_nI hlt_i11 (by omega))) (cwV 1 hts gL_law_X0_timesFined rfl rfl rfl (by decide +kernel) ⟨(Nat.le_of_ble_eq_true rfl), (Nat.le_of_ble_eq_true rfl)⟩) ⟨wPre_blind, va_recv hK hP (ci := 0) (q0 := 3) rfl rfl, w_preP hK hP hD [3, 4, 5, 6, 7, 8, 9, 10, 11, 12, 13, 14] (by decide) rfl rfl⟩ rfl rfl hl.1 rfl (lv_room (Nat.le_of_ble_eq_true rfl)) dL_law_442 ⟨Nat.le_trans hc9 hC1, Nat.le_trans hs9 hS1⟩) (fun r442 H locs hw hP hD hS hM => ?_)
      clear hw
      refine lv_istore (lv' := [(12, .int r442), (0, .ref b), (1, .ref hc), (2, .ref w.1.1), (3, .int (nI t)), (7, .int x7), (8, .int x8), (9, .int x9), (10, .int x10), (11, .int (nI i11))]) hx hb dL_law_445 hl (by decide) rfl (fun ls hl => ?_)
      refine lv_aload_n hx hb dL_law_447 rfl (lv_at hl 2 rfl) ?_
      refine lv_iload hx hb dL_law_448 (lv_at hl 9 rfl) ?_
      refine o_rd hM hP hD hS hA (va_runV (As := [.int (nI i11)]) (rest := []) ⟨hx, hb, hml, hown, hts⟩ (c_X0_owes l G cI cZ hc a w.2.2.2.1 qn on pn 0 w.2.2.2.2.1 H.size (nI i11) hpn (pin_nI hlt_i11 (by omega))) (cwV 1 hts gL_law_X0_owes rfl rfl rfl (by decide +kernel) ⟨(Nat.le_of_ble_eq_true rfl), (Nat.le_of_ble_eq_true rfl)⟩) ⟨wPre_blind, va_recv hK hP (ci := 0) (q0 := 3) rfl rfl, w_preP hK hP hD [3, 4, 5, 6, 7, 8, 9, 10, 11, 12, 13, 14] (by decide) rfl rfl⟩ rfl rfl hl.1 rfl (lv_room (Nat.le_of_ble_eq_true rfl)) dL_law_450 ⟨Nat.le_trans hc9 hC1, Nat.le_trans hs9 hS1⟩) (fun r450 H locs hw hP hD hS hM => ?_)
      clear hw
      refine lv_iconst (v := 5) hx hb dL_law_453 (by decide) ?_
      refine lv_iload hx hb dL_law_454 (lv_at hl 0 rfl) ?_
      refine lv_imul hx hb dL_law_456 ?_
      refine lv_iload hx hb dL_law_457 (lv_at hl 0 rfl) ?_
      refine lv_iconst (v := 1) hx hb dL_law_459 (by decide) ?_
      refine lv_iadd hx hb dL_law_460 ?_
      refine lv_imul hx hb dL_law_461 ?_
      refine lv_icmp_eq (tgt := 467) hx hb dL_law_462 (by decide) (fun c462 => ?_) (fun c462 => ?_)
      · refine lv_iload hx hb dL_law_467 (lv_at hl 8 rfl) ?_
        refine lv_aload_n hx hb dL_law_469 rfl (lv_at hl 2 rfl) ?_
        refine lv_iload hx hb dL_law_470 (lv_at hl 9 rfl) ?_
        refine o_rd hM hP hD hS hA (va_runV (As := [.int (nI i11)]) (rest := [.int x10]) ⟨hx, hb, hml, hown, hts⟩ (c_X0_owes l G cI cZ hc a w.2.2.2.1 qn on pn 0 w.2.2.2.2.1 H.size (nI i11) hpn (pin_nI hlt_i11 (by omega))) (cwV 1 hts gL_law_X0_owes rfl rfl rfl (by decide +kernel) ⟨(Nat.le_of_ble_eq_true rfl), (Nat.le_of_ble_eq_true rfl)⟩) ⟨wPre_blind, va_recv hK hP (ci := 0) (q0 := 3) rfl rfl, w_preP hK hP hD [3, 4, 5, 6, 7, 8, 9, 10, 11, 12, 13, 14] (by decide) rfl rfl⟩ rfl rfl hl.1 rfl (lv_room (Nat.le_of_ble_eq_true rfl)) dL_law_472 ⟨Nat.le_trans hc9 hC1, Nat.le_trans hs9 hS1⟩) (fun r472 H locs hw hP hD hS hM => ?_)
        clear hw
        refine lv_iadd hx hb dL_law_475 ?_
        refine lv_istore (lv' := [(10, .int (x10 + r472)), (12, .int r442), (0, .ref b), (1, .ref hc), (2, .ref w.1.1), (3, .int (nI t)), (7, .int x7), (8, .int x8), (9, .int x9), (11, .int (nI i11))]) hx hb dL_law_476 hl (by decide) rfl (fun ls hl => ?_)
        refine lv_iconst (v := 0) hx hb dL_law_478 (by decide) ?_
        refine lv_istore (lv' := [(13, .int 0), (10, .int (x10 + r472)), (12, .int r442), (0, .ref b), (1, .ref hc), (2, .ref w.1.1), (3, .int (nI t)), (7, .int x7), (8, .int x8), (9, .int x9), (11, .int (nI i11))]) hx hb dL_law_479 hl (by decide) rfl (fun ls hl => ?_)
        refine lv_iconst (v := 0) hx hb dL_law_481 (by decide) ?_
        refine lv_istore (lv' := [(14, .int 0), (13, .int 0), (10, .int (x10 + r472)), (12, .int r442), (0, .ref b), (1, .ref hc), (2, .ref w.1.1), (3, .int (nI t)), (7, .int x7), (8, .int x8), (9, .int x9), (11, .int (nI i11))]) hx hb dL_law_482 hl (by decide) rfl (fun ls hl => ?_)
        exact (fun x7 x8 x9 x10 x13 => lb_484 pg l e s m b below meth cd G cI cZ hc a w T qn on pn K C0 S0 t i11 hlt_i11 hC0 hB0 (h527 hlt_i11) 5 0 (by omega) (by omega) x7 x8 x9 x10 x13) x7 x8 x9 (x10 + r472) 0 _ _ _ _ _ hc9 hs9 hP hD hS hM (lv_sub hl [4, 5, 6, 7, 8, 9, 10, 2, 11, 1, 0] rfl)
      · refine lv_iconst (v := 0) hx hb dL_law_465 (by decide) ?_
        exact o_ret0 hx hb hr hlocks hS dL_law_466
set_option maxHeartbeats 16000000 in
set_option maxRecDepth 100000 in
theorem lb_337 (pg : Program) (l : Launch) (e : Env) (s : State) (m : MethodId) (b : Nat) (below : List Frame) (meth : Method) (cd : Code) (G : va_G) (cI cZ : ClassId) (hc : Nat) (a : Nat → Nat) (w : BW) (T qn on pn K C0 S0 : Nat) (t : Nat)  (i9 : Nat) (hlt_i9 : i9 < on)(hC : LCx pg s m b meth cd G cI cZ) (hB : LBx w qn on pn C0 S0) (h377 : ∀ (x5 x7 x8 x10 x13 : Int32), LK pg l e s m b below meth cd G (WB cI cZ hc a w T qn on pn) K C0 S0 377 [(0, .ref b), (1, .ref hc), (2, .ref w.1.1), (3, .int (nI t)), (5, .int x5), (7, .int x7), (8, .int x8), (9, .int (nI i9)), (10, .int x10), (13, .int x13)] []) : ∀ (n i14 : Nat), i14 ≤ pn → pn < i14 + n → ∀ (x5 x7 x8 x10 x13 : Int32), LK pg l e s m b below meth cd G (WB cI cZ hc a w T qn on pn) K C0 S0 337 [(0, .ref b), (1, .ref hc), (2, .ref w.1.1), (3, .int (nI t)), (5, .int x5), (7, .int x7), (8, .int x8), (9, .int (nI i9)), (10, .int x10), (13, .int x13), (14, .int (nI i14))] [] := by
  have hC0 := hC
  have hB0 := hB
  obtain ⟨hx, hb, hml, hr, hts, hown, hlocks, hK⟩ := hC
  obtain ⟨hqn, hon, hpn, hF, hC1, hS1⟩ := hB
  have hA : ∀ q : Nat, s.heap.size ≤ q → oA s q := fun _ h => h
  intro n
  induction n with
  | zero => intro i14 h1 h2; exact absurd h2 (by omega)
  | succ n ih =>
    intro i14 hi_i14 hn_i14
    intro x5 x7 x8 x10 x13
    intro H locs ls cells slots hc9 hs9 hP hD hS hM hl
    refine lv_iload hx hb dL_law_337 (lv_at hl 10 rfl) ?_
    refine lv_aload_n hx hb dL_law_339 rfl (lv_at hl 1 rfl) ?_
    refine o_rd hM hP hD hS hA (va_runV (As := []) (rest := [.int (nI i14)]) ⟨hx, hb, hml, hown, hts⟩ (c_X0_people l G cI cZ hc a w.2.2.2.1 qn on pn 0 w.2.2.2.2.1 H.size ) (cwV 0 hts gL_law_X0_people rfl rfl rfl (by decide +kernel) ⟨(Nat.le_of_ble_eq_true rfl), (Nat.le_of_ble_eq_true rfl)⟩) ⟨wPre_blind, va_recv hK hP (ci := 0) (q0 := 3) rfl rfl, w_preP hK hP hD [3, 4, 5, 6, 7, 8, 9, 10, 11, 12, 13, 14] (by decide) rfl rfl⟩ rfl rfl hl.1 rfl (lv_room (Nat.le_of_ble_eq_true rfl)) dL_law_340 ⟨Nat.le_trans hc9 hC1, Nat.le_trans hs9 hS1⟩) (fun r340 H locs hw hP hD hS hM => ?_)
    obtain ⟨-, hw⟩ := hw
    subst hw
    refine lv_icmp_ge (tgt := 377) hx hb dL_law_343 (by decide) (fun c343 => ?_) (fun c343 => ?_)
    · have h9 : pn ≤ i14 := (nI_leI (by omega) (by omega)).mp c343
      exact h377 x5 x7 x8 x10 x13 _ _ _ _ _ hc9 hs9 hP hD hS hM (lv_sub hl [0, 1, 2, 3, 4, 5, 6, 7, 8, 9] rfl)
    · have hlt_i14 : i14 < pn := o_ge c343 (by omega) (by omega)
      refine lv_iload hx hb dL_law_346 (lv_at hl 9 rfl) ?_
      refine lv_aload_n hx hb dL_law_348 rfl (lv_at hl 1 rfl) ?_
      refine lv_iload hx hb dL_law_349 (lv_at hl 7 rfl) ?_
      refine lv_aload_n hx hb dL_law_351 rfl (lv_at hl 1 rfl) ?_
      refine lv_iload hx hb dL_law_352 (lv_at hl 10 rfl) ?_
      refine o_rd hM hP hD hS hA (va_runV (As := [.int (nI i14)]) (rest := [.int (nI i9), .ref hc, .int x13]) ⟨hx, hb, hml, hown, hts⟩ (c_X0_tradeOf l G cI cZ hc a w.2.2.2.1 qn on pn 0 w.2.2.2.2.1 H.size (nI i14) hpn (pin_nI hlt_i14 (by omega))) (cwV 1 hts gL_law_X0_tradeOf rfl rfl rfl (by decide +kernel) ⟨(Nat.le_of_ble_eq_true rfl), (Nat.le_of_ble_eq_true rfl)⟩) ⟨wPre_blind, va_recv hK hP (ci := 0) (q0 := 3) rfl rfl, w_preP hK hP hD [3, 4, 5, 6, 7, 8, 9, 10, 11, 12, 13, 14] (by decide) rfl rfl⟩ rfl rfl hl.1 rfl (lv_room (Nat.le_of_ble_eq_true rfl)) dL_law_354 ⟨Nat.le_trans hc9 hC1, Nat.le_trans hs9 hS1⟩) (fun r354 H locs hw hP hD hS hM => ?_)
      obtain ⟨-, hw⟩ := hw
      have hp8 : p_in r354 8 = true := by rw [hw, nI_clamp (by omega)]; exact hF.1 _ hlt_i14
      clear hw
      refine o_rd hM hP hD hS hA (va_runV (As := [.int (nI i9), .int r354]) (rest := [.int x13]) ⟨hx, hb, hml, hown, hts⟩ (c_X0_isExempt l G cI cZ hc a w.2.2.2.1 qn on pn 0 w.2.2.2.2.1 H.size (nI i9) (r354) hon (pin_nI hlt_i9 (by omega)) hp8) (cwV 2 hts gL_law_X0_isExempt rfl rfl rfl (by decide +kernel) ⟨(Nat.le_of_ble_eq_true rfl), (Nat.le_of_ble_eq_true rfl)⟩) ⟨wPre_blind, va_recv hK hP (ci := 0) (q0 := 3) rfl rfl, w_preP hK hP hD [3, 4, 5, 6, 7, 8, 9, 10, 11, 12, 13, 14] (by decide) rfl rfl⟩ rfl rfl hl.1 rfl (lv_room (Nat.le_of_ble_eq_true rfl)) dL_law_357 ⟨Nat.le_trans hc9 hC1, Nat.le_trans hs9 hS1⟩) (fun r357 H locs hw hP hD hS hM => ?_)
      clear hw
      refine w_selE (v1 := 1) (v2 := 0) hx hb dL_law_360 (by decide) dL_law_363 (by decide) dL_law_364 (by decide) dL_law_367 (by decide) ?_
      generalize hv360 : (if r357 = 0 then (0 : Int32) else 1 : Int32) = v360
      clear hv360
      refine lv_iadd hx hb dL_law_368 ?_
      refine lv_istore (lv' := [(13, .int (x13 + v360)), (0, .ref b), (1, .ref hc), (2, .ref w.1.1), (3, .int (nI t)), (5, .int x5), (7, .int x7), (8, .int x8), (9, .int (nI i9)), (10, .int x10), (14, .int (nI i14))]) hx hb dL_law_369 hl (by decide) rfl (fun ls hl => ?_)
      refine lv_iinc (v := nI i14 + 1) (lv' := [(14, .int (nI i14 + 1)), (13, .int (x13 + v360)), (0, .ref b), (1, .ref hc), (2, .ref w.1.1), (3, .int (nI t)), (5, .int x5), (7, .int x7), (8, .int x8), (9, .int (nI i9)), (10, .int x10)]) hx hb dL_law_371 hl (k := 10) rfl rfl (by decide) rfl (fun ls hl => ?_)
      rw [nI_1] at hl
      refine lv_goto (tgt := 337) hx hb dL_law_374 (by decide) ?_
      exact ih (i14 + 1) (by omega) (by omega) x5 x7 x8 x10 (x13 + v360) _ _ _ _ _ hc9 hs9 hP hD hS hM (lv_sub hl [2, 3, 4, 5, 6, 7, 8, 9, 10, 1, 0] rfl)
set_option maxHeartbeats 16000000 in
set_option maxRecDepth 100000 in
theorem lb_175 (pg : Program) (l : Launch) (e : Env) (s : State) (m : MethodId) (b : Nat) (below : List Frame) (meth : Method) (cd : Code) (G : va_G) (cI cZ : ClassId) (hc : Nat) (a : Nat → Nat) (w : BW) (T qn on pn K C0 S0 : Nat) (t : Nat) (hC : LCx pg s m b meth cd G cI cZ) (hB : LBx w qn on pn C0 S0) (h421 : ∀ (x7 x8 : Int32), LK pg l e s m b below meth cd G (WB cI cZ hc a w T qn on pn) K C0 S0 421 [(0, .ref b), (1, .ref hc), (2, .ref w.1.1), (3, .int (nI t)), (7, .int x7), (8, .int x8)] []) : ∀ (n i9 : Nat), i9 ≤ on → on < i9 + n → ∀ (x5 x7 x8 : Int32), LK pg l e s m b below meth cd G (WB cI cZ hc a w T qn on pn) K C0 S0 175 [(0, .ref b), (1, .ref hc), (2, .ref w.1.1), (3, .int (nI t)), (5, .int x5), (7, .int x7), (8, .int x8), (9, .int (nI i9))] [] := by
  have hC0 := hC
  have hB0 := hB
  obtain ⟨hx, hb, hml, hr, hts, hown, hlocks, hK⟩ := hC
  obtain ⟨hqn, hon, hpn, hF, hC1, hS1⟩ := hB
  have hA : ∀ q : Nat, s.heap.size ≤ q → oA s q := fun _ h => h
  intro n
  induction n with
  | zero => intro i9 h1 h2; exact absurd h2 (by omega)
  | succ n ih =>
    intro i9 hi_i9 hn_i9
    have h399 : i9 < on → ∀ (v0 v1 x5 x7 x8 x10 : Int32), LK pg l e s m b below meth cd G (WB cI cZ hc a w T qn on pn) K C0 S0 399 [(0, .ref b), (1, .ref hc), (2, .ref w.1.1), (3, .int (nI t)), (5, .int x5), (7, .int x7), (8, .int x8), (9, .int (nI i9)), (10, .int x10)] [.int v0, .int v1] := by
      intro hlt_i9
      intro v0 v1 x5 x7 x8 x10
      intro H locs ls cells slots hc9 hs9 hP hD hS hM hl
      refine lv_icmp_eq (tgt := 404) hx hb dL_law_399 (by decide) (fun c399 => ?_) (fun c399 => ?_)
      · refine lv_iload hx hb dL_law_404 (lv_at hl 6 rfl) ?_
        refine lv_aload_n hx hb dL_law_406 rfl (lv_at hl 1 rfl) ?_
        refine lv_iload hx hb dL_law_407 (lv_at hl 7 rfl) ?_
        refine o_rd hM hP hD hS hA (va_runV (As := [.int (nI i9)]) (rest := [.int x8]) ⟨hx, hb, hml, hown, hts⟩ (c_X0_barredBy l G cI cZ hc a w.2.2.2.1 qn on pn 0 w.2.2.2.2.1 H.size (nI i9) hon hpn (pin_nI hlt_i9 (by omega))) (cwV 1 hts gL_law_X0_barredBy rfl rfl rfl (by decide +kernel) ⟨(Nat.le_of_ble_eq_true rfl), (Nat.le_of_ble_eq_true rfl)⟩) ⟨wPre_blind, va_recv hK hP (ci := 0) (q0 := 3) rfl rfl, w_preP hK hP hD [3, 4, 5, 6, 7, 8, 9, 10, 11, 12, 13, 14] (by decide) rfl rfl⟩ rfl rfl hl.1 rfl (lv_room (Nat.le_of_ble_eq_true rfl)) dL_law_409 ⟨Nat.le_trans hc9 hC1, Nat.le_trans hs9 hS1⟩) (fun r409 H locs hw hP hD hS hM => ?_)
        clear hw
        refine lv_iadd hx hb dL_law_412 ?_
        refine lv_istore (lv' := [(8, .int (x8 + r409)), (0, .ref b), (1, .ref hc), (2, .ref w.1.1), (3, .int (nI t)), (5, .int x5), (7, .int x7), (9, .int (nI i9)), (10, .int x10)]) hx hb dL_law_413 hl (by decide) rfl (fun ls hl => ?_)
        refine lv_iinc (v := nI i9 + 1) (lv' := [(9, .int (nI i9 + 1)), (8, .int (x8 + r409)), (0, .ref b), (1, .ref hc), (2, .ref w.1.1), (3, .int (nI t)), (5, .int x5), (7, .int x7), (10, .int x10)]) hx hb dL_law_415 hl (k := 7) rfl rfl (by decide) rfl (fun ls hl => ?_)
        rw [nI_1] at hl
        refine lv_goto (tgt := 175) hx hb dL_law_418 (by decide) ?_
        exact ih (i9 + 1) (by omega) (by omega) x5 x7 (x8 + r409) _ _ _ _ _ hc9 hs9 hP hD hS hM (lv_sub hl [2, 3, 4, 5, 6, 7, 1, 0] rfl)
      · refine lv_iconst (v := 0) hx hb dL_law_402 (by decide) ?_
        exact o_ret0 hx hb hr hlocks hS dL_law_403
    have h377 : i9 < on → ∀ (x5 x7 x8 x10 x13 : Int32), LK pg l e s m b below meth cd G (WB cI cZ hc a w T qn on pn) K C0 S0 377 [(0, .ref b), (1, .ref hc), (2, .ref w.1.1), (3, .int (nI t)), (5, .int x5), (7, .int x7), (8, .int x8), (9, .int (nI i9)), (10, .int x10), (13, .int x13)] [] := by
      intro hlt_i9
      intro x5 x7 x8 x10 x13
      intro H locs ls cells slots hc9 hs9 hP hD hS hM hl
      refine lv_aload_n hx hb dL_law_377 rfl (lv_at hl 1 rfl) ?_
      refine lv_iload hx hb dL_law_378 (lv_at hl 7 rfl) ?_
      refine o_rd hM hP hD hS hA (va_runV (As := [.int (nI i9)]) (rest := []) ⟨hx, hb, hml, hown, hts⟩ (c_X0_barredBy l G cI cZ hc a w.2.2.2.1 qn on pn 0 w.2.2.2.2.1 H.size (nI i9) hon hpn (pin_nI hlt_i9 (by omega))) (cwV 1 hts gL_law_X0_barredBy rfl rfl rfl (by decide +kernel) ⟨(Nat.le_of_ble_eq_true rfl), (Nat.le_of_ble_eq_true rfl)⟩) ⟨wPre_blind, va_recv hK hP (ci := 0) (q0 := 3) rfl rfl, w_preP hK hP hD [3, 4, 5, 6, 7, 8, 9, 10, 11, 12, 13, 14] (by decide) rfl rfl⟩ rfl rfl hl.1 rfl (lv_room (Nat.le_of_ble_eq_true rfl)) dL_law_380 ⟨Nat.le_trans hc9 hC1, Nat.le_trans hs9 hS1⟩) (fun r380 H locs hw hP hD hS hM => ?_)
      clear hw
      refine lv_iload hx hb dL_law_383 (lv_at hl 8 rfl) ?_
      refine lv_if_eq (tgt := 398) hx hb dL_law_385 (by decide) (fun c385 => ?_) (fun c385 => ?_)
      · refine lv_iconst (v := 0) hx hb dL_law_398 (by decide) ?_
        exact h399 hlt_i9 0 r380 x5 x7 x8 x10 _ _ _ _ _ hc9 hs9 hP hD hS hM (lv_sub hl [0, 1, 2, 3, 4, 5, 6, 7, 8] rfl)
      · refine lv_aload_n hx hb dL_law_388 rfl (lv_at hl 1 rfl) ?_
        refine o_rd hM hP hD hS hA (va_runV (As := []) (rest := [.int r380]) ⟨hx, hb, hml, hown, hts⟩ (c_X0_people l G cI cZ hc a w.2.2.2.1 qn on pn 0 w.2.2.2.2.1 H.size ) (cwV 0 hts gL_law_X0_people rfl rfl rfl (by decide +kernel) ⟨(Nat.le_of_ble_eq_true rfl), (Nat.le_of_ble_eq_true rfl)⟩) ⟨wPre_blind, va_recv hK hP (ci := 0) (q0 := 3) rfl rfl, w_preP hK hP hD [3, 4, 5, 6, 7, 8, 9, 10, 11, 12, 13, 14] (by decide) rfl rfl⟩ rfl rfl hl.1 rfl (lv_room (Nat.le_of_ble_eq_true rfl)) dL_law_389 ⟨Nat.le_trans hc9 hC1, Nat.le_trans hs9 hS1⟩) (fun r389 H locs hw hP hD hS hM => ?_)
        obtain ⟨-, hw⟩ := hw
        subst hw
        refine lv_iload hx hb dL_law_392 (lv_at hl 9 rfl) ?_
        refine lv_isub hx hb dL_law_394 ?_
        refine lv_goto (tgt := 399) hx hb dL_law_395 (by decide) ?_
        exact h399 hlt_i9 ((nI pn) - x13) r380 x5 x7 x8 x10 _ _ _ _ _ hc9 hs9 hP hD hS hM (lv_sub hl [0, 1, 2, 3, 4, 5, 6, 7, 8] rfl)
    have h331 : i9 < on → ∀ (x5 x7 x8 x10 : Int32), LK pg l e s m b below meth cd G (WB cI cZ hc a w T qn on pn) K C0 S0 331 [(0, .ref b), (1, .ref hc), (2, .ref w.1.1), (3, .int (nI t)), (5, .int x5), (7, .int x7), (8, .int x8), (9, .int (nI i9)), (10, .int x10)] [] := by
      intro hlt_i9
      intro x5 x7 x8 x10
      intro H locs ls cells slots hc9 hs9 hP hD hS hM hl
      refine lv_iconst (v := 0) hx hb dL_law_331 (by decide) ?_
      refine lv_istore (lv' := [(13, .int 0), (0, .ref b), (1, .ref hc), (2, .ref w.1.1), (3, .int (nI t)), (5, .int x5), (7, .int x7), (8, .int x8), (9, .int (nI i9)), (10, .int x10)]) hx hb dL_law_332 hl (by decide) rfl (fun ls hl => ?_)
      refine lv_iconst (v := 0) hx hb dL_law_334 (by decide) ?_
      refine lv_istore (lv' := [(14, .int 0), (13, .int 0), (0, .ref b), (1, .ref hc), (2, .ref w.1.1), (3, .int (nI t)), (5, .int x5), (7, .int x7), (8, .int x8), (9, .int (nI i9)), (10, .int x10)]) hx hb dL_law_335 hl (by decide) rfl (fun ls hl => ?_)
      exact (fun x5 x7 x8 x10 x13 => lb_337 pg l e s m b below meth cd G cI cZ hc a w T qn on pn K C0 S0 t i9 hlt_i9 hC0 hB0 (h377 hlt_i9) (pn + 1) 0 (by omega) (by omega) x5 x7 x8 x10 x13) x5 x7 x8 x10 0 _ _ _ _ _ hc9 hs9 hP hD hS hM (lv_sub hl [2, 3, 4, 5, 6, 7, 8, 9, 10, 1, 0] rfl)
    have h308 : i9 < on → ∀ (x5 x7 x8 x10 : Int32), LK pg l e s m b below meth cd G (WB cI cZ hc a w T qn on pn) K C0 S0 308 [(0, .ref b), (1, .ref hc), (2, .ref w.1.1), (3, .int (nI t)), (5, .int x5), (7, .int x7), (8, .int x8), (9, .int (nI i9)), (10, .int x10)] [] := by
      intro hlt_i9
      intro x5 x7 x8 x10
      intro H locs ls cells slots hc9 hs9 hP hD hS hM hl
      refine lv_aload_n hx hb dL_law_308 rfl (lv_at hl 1 rfl) ?_
      refine lv_iload hx hb dL_law_309 (lv_at hl 7 rfl) ?_
      refine o_rd hM hP hD hS hA (va_runV (As := [.int (nI i9)]) (rest := []) ⟨hx, hb, hml, hown, hts⟩ (c_X0_halfHoursOn l G cI cZ hc a w.2.2.2.1 qn on pn 0 w.2.2.2.2.1 H.size (nI i9) hon (pin_nI hlt_i9 (by omega))) (cwV 1 hts gL_law_X0_halfHoursOn rfl rfl rfl (by decide +kernel) ⟨(Nat.le_of_ble_eq_true rfl), (Nat.le_of_ble_eq_true rfl)⟩) ⟨wPre_blind, va_recv hK hP (ci := 0) (q0 := 3) rfl rfl, w_preP hK hP hD [3, 4, 5, 6, 7, 8, 9, 10, 11, 12, 13, 14] (by decide) rfl rfl⟩ rfl rfl hl.1 rfl (lv_room (Nat.le_of_ble_eq_true rfl)) dL_law_311 ⟨Nat.le_trans hc9 hC1, Nat.le_trans hs9 hS1⟩) (fun r311 H locs hw hP hD hS hM => ?_)
      clear hw
      refine lv_iconst (v := 1) hx hb dL_law_314 (by decide) ?_
      refine lv_icmp_lt (tgt := 329) hx hb dL_law_315 (by decide) (fun c315 => ?_) (fun c315 => ?_)
      · refine lv_iconst (v := 0) hx hb dL_law_329 (by decide) ?_
        exact o_ret0 hx hb hr hlocks hS dL_law_330
      · refine lv_aload_n hx hb dL_law_318 rfl (lv_at hl 1 rfl) ?_
        refine lv_iload hx hb dL_law_319 (lv_at hl 7 rfl) ?_
        refine o_rd hM hP hD hS hA (va_runV (As := [.int (nI i9)]) (rest := []) ⟨hx, hb, hml, hown, hts⟩ (c_X0_halfHoursOn l G cI cZ hc a w.2.2.2.1 qn on pn 0 w.2.2.2.2.1 H.size (nI i9) hon (pin_nI hlt_i9 (by omega))) (cwV 1 hts gL_law_X0_halfHoursOn rfl rfl rfl (by decide +kernel) ⟨(Nat.le_of_ble_eq_true rfl), (Nat.le_of_ble_eq_true rfl)⟩) ⟨wPre_blind, va_recv hK hP (ci := 0) (q0 := 3) rfl rfl, w_preP hK hP hD [3, 4, 5, 6, 7, 8, 9, 10, 11, 12, 13, 14] (by decide) rfl rfl⟩ rfl rfl hl.1 rfl (lv_room (Nat.le_of_ble_eq_true rfl)) dL_law_321 ⟨Nat.le_trans hc9 hC1, Nat.le_trans hs9 hS1⟩) (fun r321 H locs hw hP hD hS hM => ?_)
        clear hw
        refine lv_bipush (v := 48) hx hb dL_law_324 (by decide) ?_
        refine lv_icmp_le (tgt := 331) hx hb dL_law_326 (by decide) (fun c326 => ?_) (fun c326 => ?_)
        · exact h331 hlt_i9 x5 x7 x8 x10 _ _ _ _ _ hc9 hs9 hP hD hS hM (lv_sub hl [0, 1, 2, 3, 4, 5, 6, 7, 8] rfl)
        · refine lv_iconst (v := 0) hx hb dL_law_329 (by decide) ?_
          exact o_ret0 hx hb hr hlocks hS dL_law_330
    have h298 : i9 < on → ∀ (x5 x7 x8 x10 x12 : Int32), LK pg l e s m b below meth cd G (WB cI cZ hc a w T qn on pn) K C0 S0 298 [(0, .ref b), (1, .ref hc), (2, .ref w.1.1), (3, .int (nI t)), (5, .int x5), (7, .int x7), (8, .int x8), (9, .int (nI i9)), (10, .int x10), (12, .int x12)] [] := by
      intro hlt_i9
      intro x5 x7 x8 x10 x12
      intro H locs ls cells slots hc9 hs9 hP hD hS hM hl
      refine lv_iload hx hb dL_law_298 (lv_at hl 9 rfl) ?_
      refine lv_if_eq (tgt := 308) hx hb dL_law_300 (by decide) (fun c300 => ?_) (fun c300 => ?_)
      · exact h308 hlt_i9 x5 x7 x8 x10 _ _ _ _ _ hc9 hs9 hP hD hS hM (lv_sub hl [0, 1, 2, 3, 4, 5, 6, 7, 8] rfl)
      · refine lv_iload hx hb dL_law_303 (lv_at hl 8 rfl) ?_
        refine lv_if_ne (tgt := 329) hx hb dL_law_305 (by decide) (fun c305 => ?_) (fun c305 => ?_)
        · refine lv_iconst (v := 0) hx hb dL_law_329 (by decide) ?_
          exact o_ret0 hx hb hr hlocks hS dL_law_330
        · exact h308 hlt_i9 x5 x7 x8 x10 _ _ _ _ _ hc9 hs9 hP hD hS hM (lv_sub hl [0, 1, 2, 3, 4, 5, 6, 7, 8] rfl)
    have h279 : i9 < on → ∀ (x5 x7 x8 x10 x11 x12 : Int32), LK pg l e s m b below meth cd G (WB cI cZ hc a w T qn on pn) K C0 S0 279 [(0, .ref b), (1, .ref hc), (2, .ref w.1.1), (3, .int (nI t)), (5, .int x5), (7, .int x7), (8, .int x8), (9, .int (nI i9)), (10, .int x10), (11, .int x11), (12, .int x12)] [] := by
      intro hlt_i9
      intro x5 x7 x8 x10 x11 x12
      intro H locs ls cells slots hc9 hs9 hP hD hS hM hl
      refine lv_iload hx hb dL_law_279 (lv_at hl 9 rfl) ?_
      refine lv_if_eq (tgt := 298) hx hb dL_law_281 (by decide) (fun c281 => ?_) (fun c281 => ?_)
      · exact h298 hlt_i9 x5 x7 x8 x10 x12 _ _ _ _ _ hc9 hs9 hP hD hS hM (lv_sub hl [0, 1, 2, 3, 4, 5, 6, 7, 8, 10] rfl)
      · refine lv_aload_n hx hb dL_law_284 rfl (lv_at hl 1 rfl) ?_
        refine lv_iload hx hb dL_law_285 (lv_at hl 7 rfl) ?_
        refine o_rd hM hP hD hS hA (va_runV (As := [.int (nI i9)]) (rest := []) ⟨hx, hb, hml, hown, hts⟩ (c_X0_isInForce l G cI cZ hc a w.2.2.2.1 qn on pn 0 w.2.2.2.2.1 H.size (nI i9) hon hF.2 (pin_nI hlt_i9 (by omega))) (cwV 1 hts gL_law_X0_isInForce rfl rfl rfl (by decide +kernel) ⟨(Nat.le_of_ble_eq_true rfl), (Nat.le_of_ble_eq_true rfl)⟩) ⟨wPre_blind, va_recv hK hP (ci := 0) (q0 := 3) rfl rfl, w_preP hK hP hD [3, 4, 5, 6, 7, 8, 9, 10, 11, 12, 13, 14] (by decide) rfl rfl⟩ rfl rfl hl.1 rfl (lv_room (Nat.le_of_ble_eq_true rfl)) dL_law_287 ⟨Nat.le_trans hc9 hC1, Nat.le_trans hs9 hS1⟩) (fun r287 H locs hw hP hD hS hM => ?_)
        clear hw
        refine lv_if_eq (tgt := 298) hx hb dL_law_290 (by decide) (fun c290 => ?_) (fun c290 => ?_)
        · exact h298 hlt_i9 x5 x7 x8 x10 x12 _ _ _ _ _ hc9 hs9 hP hD hS hM (lv_sub hl [0, 1, 2, 3, 4, 5, 6, 7, 8, 10] rfl)
        · refine lv_iload hx hb dL_law_293 (lv_at hl 8 rfl) ?_
          refine lv_if_eq (tgt := 329) hx hb dL_law_295 (by decide) (fun c295 => ?_) (fun c295 => ?_)
          · refine lv_iconst (v := 0) hx hb dL_law_329 (by decide) ?_
            exact o_ret0 hx hb hr hlocks hS dL_law_330
          · exact h298 hlt_i9 x5 x7 x8 x10 x12 _ _ _ _ _ hc9 hs9 hP hD hS hM (lv_sub hl [0, 1, 2, 3, 4, 5, 6, 7, 8, 10] rfl)
    have h263 : i9 < on → ∀ (v0 x5 x7 x8 x10 x11 : Int32), LK pg l e s m b below meth cd G (WB cI cZ hc a w T qn on pn) K C0 S0 263 [(0, .ref b), (1, .ref hc), (2, .ref w.1.1), (3, .int (nI t)), (5, .int x5), (7, .int x7), (8, .int x8), (9, .int (nI i9)), (10, .int x10), (11, .int x11)] [.int v0] := by
      intro hlt_i9
      intro v0 x5 x7 x8 x10 x11
      intro H locs ls cells slots hc9 hs9 hP hD hS hM hl
      refine lv_istore (lv' := [(12, .int v0), (0, .ref b), (1, .ref hc), (2, .ref w.1.1), (3, .int (nI t)), (5, .int x5), (7, .int x7), (8, .int x8), (9, .int (nI i9)), (10, .int x10), (11, .int x11)]) hx hb dL_law_263 hl (by decide) rfl (fun ls hl => ?_)
      refine lv_iload hx hb dL_law_265 (lv_at hl 9 rfl) ?_
      refine lv_if_eq (tgt := 279) hx hb dL_law_267 (by decide) (fun c267 => ?_) (fun c267 => ?_)
      · exact h279 hlt_i9 x5 x7 x8 x10 x11 v0 _ _ _ _ _ hc9 hs9 hP hD hS hM (lv_sub hl [1, 2, 3, 4, 5, 6, 7, 8, 9, 10, 0] rfl)
      · refine lv_aload_n hx hb dL_law_270 rfl (lv_at hl 2 rfl) ?_
        refine lv_iload hx hb dL_law_271 (lv_at hl 8 rfl) ?_
        refine o_rd hM hP hD hS hA (va_runV (As := [.int (nI i9)]) (rest := []) ⟨hx, hb, hml, hown, hts⟩ (c_X0_isInForce l G cI cZ hc a w.2.2.2.1 qn on pn 0 w.2.2.2.2.1 H.size (nI i9) hon hF.2 (pin_nI hlt_i9 (by omega))) (cwV 1 hts gL_law_X0_isInForce rfl rfl rfl (by decide +kernel) ⟨(Nat.le_of_ble_eq_true rfl), (Nat.le_of_ble_eq_true rfl)⟩) ⟨wPre_blind, va_recv hK hP (ci := 0) (q0 := 3) rfl rfl, w_preP hK hP hD [3, 4, 5, 6, 7, 8, 9, 10, 11, 12, 13, 14] (by decide) rfl rfl⟩ rfl rfl hl.1 rfl (lv_room (Nat.le_of_ble_eq_true rfl)) dL_law_273 ⟨Nat.le_trans hc9 hC1, Nat.le_trans hs9 hS1⟩) (fun r273 H locs hw hP hD hS hM => ?_)
        clear hw
        refine lv_if_eq (tgt := 329) hx hb dL_law_276 (by decide) (fun c276 => ?_) (fun c276 => ?_)
        · refine lv_iconst (v := 0) hx hb dL_law_329 (by decide) ?_
          exact o_ret0 hx hb hr hlocks hS dL_law_330
        · exact h279 hlt_i9 x5 x7 x8 x10 x11 v0 _ _ _ _ _ hc9 hs9 hP hD hS hM (lv_sub hl [1, 2, 3, 4, 5, 6, 7, 8, 9, 10, 0] rfl)
    have h232 : i9 < on → ∀ (v0 x5 x7 x8 x10 : Int32), LK pg l e s m b below meth cd G (WB cI cZ hc a w T qn on pn) K C0 S0 232 [(0, .ref b), (1, .ref hc), (2, .ref w.1.1), (3, .int (nI t)), (5, .int x5), (7, .int x7), (8, .int x8), (9, .int (nI i9)), (10, .int x10)] [.int v0] := by
      intro hlt_i9
      intro v0 x5 x7 x8 x10
      intro H locs ls cells slots hc9 hs9 hP hD hS hM hl
      refine lv_istore (lv' := [(11, .int v0), (0, .ref b), (1, .ref hc), (2, .ref w.1.1), (3, .int (nI t)), (5, .int x5), (7, .int x7), (8, .int x8), (9, .int (nI i9)), (10, .int x10)]) hx hb dL_law_232 hl (by decide) rfl (fun ls hl => ?_)
      refine lv_iload hx hb dL_law_234 (lv_at hl 5 rfl) ?_
      refine lv_aload_n hx hb dL_law_236 rfl (lv_at hl 2 rfl) ?_
      refine lv_iconst (v := 0) hx hb dL_law_237 (by decide) ?_
      refine o_rd hM hP hD hS hA (va_runV (As := [.int 0]) (rest := [.int x5]) ⟨hx, hb, hml, hown, hts⟩ (c_X0_dawnIn l G cI cZ hc a w.2.2.2.1 qn on pn 0 w.2.2.2.2.1 H.size 0 (by decide)) (cwV 1 hts gL_law_X0_dawnIn rfl rfl rfl (by decide +kernel) ⟨(Nat.le_of_ble_eq_true rfl), (Nat.le_of_ble_eq_true rfl)⟩) ⟨wPre_blind, va_recv hK hP (ci := 0) (q0 := 3) rfl rfl, w_preP hK hP hD [3, 4, 5, 6, 7, 8, 9, 10, 11, 12, 13, 14] (by decide) rfl rfl⟩ rfl rfl hl.1 rfl (lv_room (Nat.le_of_ble_eq_true rfl)) dL_law_238 ⟨Nat.le_trans hc9 hC1, Nat.le_trans hs9 hS1⟩) (fun r238 H locs hw hP hD hS hM => ?_)
      clear hw
      refine lv_iconst (v := 4) hx hb dL_law_241 (by decide) ?_
      refine lv_iadd hx hb dL_law_242 ?_
      refine lv_icmp_lt (tgt := 262) hx hb dL_law_243 (by decide) (fun c243 => ?_) (fun c243 => ?_)
      · refine lv_iconst (v := 0) hx hb dL_law_262 (by decide) ?_
        exact h263 hlt_i9 0 x5 x7 x8 x10 v0 _ _ _ _ _ hc9 hs9 hP hD hS hM (lv_sub hl [1, 2, 3, 4, 5, 6, 7, 8, 9, 0] rfl)
      · refine lv_iload hx hb dL_law_246 (lv_at hl 5 rfl) ?_
        refine lv_aload_n hx hb dL_law_248 rfl (lv_at hl 2 rfl) ?_
        refine lv_iconst (v := 0) hx hb dL_law_249 (by decide) ?_
        refine o_rd hM hP hD hS hA (va_runV (As := [.int 0]) (rest := [.int x5]) ⟨hx, hb, hml, hown, hts⟩ (c_X0_duskIn l G cI cZ hc a w.2.2.2.1 qn on pn 0 w.2.2.2.2.1 H.size 0 (by decide)) (cwV 1 hts gL_law_X0_duskIn rfl rfl rfl (by decide +kernel) ⟨(Nat.le_of_ble_eq_true rfl), (Nat.le_of_ble_eq_true rfl)⟩) ⟨wPre_blind, va_recv hK hP (ci := 0) (q0 := 3) rfl rfl, w_preP hK hP hD [3, 4, 5, 6, 7, 8, 9, 10, 11, 12, 13, 14] (by decide) rfl rfl⟩ rfl rfl hl.1 rfl (lv_room (Nat.le_of_ble_eq_true rfl)) dL_law_250 ⟨Nat.le_trans hc9 hC1, Nat.le_trans hs9 hS1⟩) (fun r250 H locs hw hP hD hS hM => ?_)
        clear hw
        refine lv_iconst (v := 4) hx hb dL_law_253 (by decide) ?_
        refine lv_isub hx hb dL_law_254 ?_
        refine lv_icmp_ge (tgt := 262) hx hb dL_law_255 (by decide) (fun c255 => ?_) (fun c255 => ?_)
        · refine lv_iconst (v := 0) hx hb dL_law_262 (by decide) ?_
          exact h263 hlt_i9 0 x5 x7 x8 x10 v0 _ _ _ _ _ hc9 hs9 hP hD hS hM (lv_sub hl [1, 2, 3, 4, 5, 6, 7, 8, 9, 0] rfl)
        · refine lv_iconst (v := 1) hx hb dL_law_258 (by decide) ?_
          refine lv_goto (tgt := 263) hx hb dL_law_259 (by decide) ?_
          exact h263 hlt_i9 1 x5 x7 x8 x10 v0 _ _ _ _ _ hc9 hs9 hP hD hS hM (lv_sub hl [1, 2, 3, 4, 5, 6, 7, 8, 9, 0] rfl)
    intro x5 x7 x8
    intro H locs ls cells slots hc9 hs9 hP hD hS hM hl
    refine lv_iload hx hb dL_law_175 (lv_at hl 7 rfl) ?_
    refine lv_aload_n hx hb dL_law_177 rfl (lv_at hl 1 rfl) ?_
    refine o_rd hM hP hD hS hA (va_runV (As := []) (rest := [.int (nI i9)]) ⟨hx, hb, hml, hown, hts⟩ (c_X0_orders l G cI cZ hc a w.2.2.2.1 qn on pn 0 w.2.2.2.2.1 H.size ) (cwV 0 hts gL_law_X0_orders rfl rfl rfl (by decide +kernel) ⟨(Nat.le_of_ble_eq_true rfl), (Nat.le_of_ble_eq_true rfl)⟩) ⟨wPre_blind, va_recv hK hP (ci := 0) (q0 := 3) rfl rfl, w_preP hK hP hD [3, 4, 5, 6, 7, 8, 9, 10, 11, 12, 13, 14] (by decide) rfl rfl⟩ rfl rfl hl.1 rfl (lv_room (Nat.le_of_ble_eq_true rfl)) dL_law_178 ⟨Nat.le_trans hc9 hC1, Nat.le_trans hs9 hS1⟩) (fun r178 H locs hw hP hD hS hM => ?_)
    obtain ⟨-, hw⟩ := hw
    subst hw
    refine lv_icmp_ge (tgt := 421) hx hb dL_law_181 (by decide) (fun c181 => ?_) (fun c181 => ?_)
    · have h9 : on ≤ i9 := (nI_leI (by omega) (by omega)).mp c181
      exact h421 x7 x8 _ _ _ _ _ hc9 hs9 hP hD hS hM (lv_sub hl [0, 1, 2, 3, 5, 6] rfl)
    · have hlt_i9 : i9 < on := o_ge c181 (by omega) (by omega)
      refine lv_aload_n hx hb dL_law_184 rfl (lv_at hl 1 rfl) ?_
      refine lv_iload hx hb dL_law_185 (lv_at hl 7 rfl) ?_
      refine o_rd hM hP hD hS hA (va_runV (As := [.int (nI i9)]) (rest := []) ⟨hx, hb, hml, hown, hts⟩ (c_X0_isOn l G cI cZ hc a w.2.2.2.1 qn on pn 0 w.2.2.2.2.1 H.size (nI i9) hon (pin_nI hlt_i9 (by omega))) (cwV 1 hts gL_law_X0_isOn rfl rfl rfl (by decide +kernel) ⟨(Nat.le_of_ble_eq_true rfl), (Nat.le_of_ble_eq_true rfl)⟩) ⟨wPre_blind, va_recv hK hP (ci := 0) (q0 := 3) rfl rfl, w_preP hK hP hD [3, 4, 5, 6, 7, 8, 9, 10, 11, 12, 13, 14] (by decide) rfl rfl⟩ rfl rfl hl.1 rfl (lv_room (Nat.le_of_ble_eq_true rfl)) dL_law_187 ⟨Nat.le_trans hc9 hC1, Nat.le_trans hs9 hS1⟩) (fun r187 H locs hw hP hD hS hM => ?_)
      clear hw
      refine lv_istore (lv' := [(10, .int r187), (0, .ref b), (1, .ref hc), (2, .ref w.1.1), (3, .int (nI t)), (5, .int x5), (7, .int x7), (8, .int x8), (9, .int (nI i9))]) hx hb dL_law_190 hl (by decide) rfl (fun ls hl => ?_)
      refine lv_iload hx hb dL_law_192 (lv_at hl 6 rfl) ?_
      refine lv_iload hx hb dL_law_194 (lv_at hl 0 rfl) ?_
      refine w_selE (v1 := 1) (v2 := 0) hx hb dL_law_196 (by decide) dL_law_199 (by decide) dL_law_200 (by decide) dL_law_203 (by decide) ?_
      generalize hv196 : (if r187 = 0 then (0 : Int32) else 1 : Int32) = v196
      clear hv196
      refine lv_iadd hx hb dL_law_204 ?_
      refine lv_istore (lv' := [(7, .int (x7 + v196)), (10, .int r187), (0, .ref b), (1, .ref hc), (2, .ref w.1.1), (3, .int (nI t)), (5, .int x5), (8, .int x8), (9, .int (nI i9))]) hx hb dL_law_205 hl (by decide) rfl (fun ls hl => ?_)
      refine lv_iload hx hb dL_law_207 (lv_at hl 6 rfl) ?_
      refine lv_aload_n hx hb dL_law_209 rfl (lv_at hl 3 rfl) ?_
      refine lv_iconst (v := 0) hx hb dL_law_210 (by decide) ?_
      refine o_rd hM hP hD hS hA (va_runV (As := [.int 0]) (rest := [.int x5]) ⟨hx, hb, hml, hown, hts⟩ (c_X0_duskIn l G cI cZ hc a w.2.2.2.1 qn on pn 0 w.2.2.2.2.1 H.size 0 (by decide)) (cwV 1 hts gL_law_X0_duskIn rfl rfl rfl (by decide +kernel) ⟨(Nat.le_of_ble_eq_true rfl), (Nat.le_of_ble_eq_true rfl)⟩) ⟨wPre_blind, va_recv hK hP (ci := 0) (q0 := 3) rfl rfl, w_preP hK hP hD [3, 4, 5, 6, 7, 8, 9, 10, 11, 12, 13, 14] (by decide) rfl rfl⟩ rfl rfl hl.1 rfl (lv_room (Nat.le_of_ble_eq_true rfl)) dL_law_211 ⟨Nat.le_trans hc9 hC1, Nat.le_trans hs9 hS1⟩) (fun r211 H locs hw hP hD hS hM => ?_)
      clear hw
      refine lv_icmp_ge (tgt := 227) hx hb dL_law_214 (by decide) (fun c214 => ?_) (fun c214 => ?_)
      · refine lv_iconst (v := 1) hx hb dL_law_227 (by decide) ?_
        refine lv_goto (tgt := 232) hx hb dL_law_228 (by decide) ?_
        exact h232 hlt_i9 1 x5 (x7 + v196) x8 r187 _ _ _ _ _ hc9 hs9 hP hD hS hM (lv_sub hl [2, 3, 4, 5, 6, 0, 7, 8, 1] rfl)
      · refine lv_iload hx hb dL_law_217 (lv_at hl 6 rfl) ?_
        refine lv_aload_n hx hb dL_law_219 rfl (lv_at hl 3 rfl) ?_
        refine lv_iconst (v := 0) hx hb dL_law_220 (by decide) ?_
        refine o_rd hM hP hD hS hA (va_runV (As := [.int 0]) (rest := [.int x5]) ⟨hx, hb, hml, hown, hts⟩ (c_X0_dawnIn l G cI cZ hc a w.2.2.2.1 qn on pn 0 w.2.2.2.2.1 H.size 0 (by decide)) (cwV 1 hts gL_law_X0_dawnIn rfl rfl rfl (by decide +kernel) ⟨(Nat.le_of_ble_eq_true rfl), (Nat.le_of_ble_eq_true rfl)⟩) ⟨wPre_blind, va_recv hK hP (ci := 0) (q0 := 3) rfl rfl, w_preP hK hP hD [3, 4, 5, 6, 7, 8, 9, 10, 11, 12, 13, 14] (by decide) rfl rfl⟩ rfl rfl hl.1 rfl (lv_room (Nat.le_of_ble_eq_true rfl)) dL_law_221 ⟨Nat.le_trans hc9 hC1, Nat.le_trans hs9 hS1⟩) (fun r221 H locs hw hP hD hS hM => ?_)
        clear hw
        refine lv_icmp_ge (tgt := 231) hx hb dL_law_224 (by decide) (fun c224 => ?_) (fun c224 => ?_)
        · refine lv_iconst (v := 0) hx hb dL_law_231 (by decide) ?_
          exact h232 hlt_i9 0 x5 (x7 + v196) x8 r187 _ _ _ _ _ hc9 hs9 hP hD hS hM (lv_sub hl [2, 3, 4, 5, 6, 0, 7, 8, 1] rfl)
        · refine lv_iconst (v := 1) hx hb dL_law_227 (by decide) ?_
          refine lv_goto (tgt := 232) hx hb dL_law_228 (by decide) ?_
          exact h232 hlt_i9 1 x5 (x7 + v196) x8 r187 _ _ _ _ _ hc9 hs9 hP hD hS hM (lv_sub hl [2, 3, 4, 5, 6, 0, 7, 8, 1] rfl)
set_option maxHeartbeats 16000000 in
set_option maxRecDepth 100000 in
theorem lb_90 (pg : Program) (l : Launch) (e : Env) (s : State) (m : MethodId) (b : Nat) (below : List Frame) (meth : Method) (cd : Code) (G : va_G) (cI cZ : ClassId) (hc : Nat) (a : Nat → Nat) (w : BW) (T qn on pn K C0 S0 : Nat) (t : Nat) (hC : LCx pg s m b meth cd G cI cZ) (hB : LBx w qn on pn C0 S0) (h679 : LK pg l e s m b below meth cd G (WB cI cZ hc a w T qn on pn) K C0 S0 679 [(0, .ref b), (1, .ref hc), (2, .ref w.1.1), (3, .int (nI t))] []) : LK pg l e s m b below meth cd G (WB cI cZ hc a w T qn on pn) K C0 S0 90 [(0, .ref b), (1, .ref hc), (2, .ref w.1.1), (3, .int (nI t))] [] := by
  have hC0 := hC
  have hB0 := hB
  obtain ⟨hx, hb, hml, hr, hts, hown, hlocks, hK⟩ := hC
  obtain ⟨hqn, hon, hpn, hF, hC1, hS1⟩ := hB
  have hA : ∀ q : Nat, s.heap.size ≤ q → oA s q := fun _ h => h
  have h652 := lb_652 pg l e s m b below meth cd G cI cZ hc a w T qn on pn K C0 S0 t hC0 hB0 h679
  have h421 : ∀ (x7 x8 : Int32), LK pg l e s m b below meth cd G (WB cI cZ hc a w T qn on pn) K C0 S0 421 [(0, .ref b), (1, .ref hc), (2, .ref w.1.1), (3, .int (nI t)), (7, .int x7), (8, .int x8)] [] := by
    intro x7 x8
    intro H locs ls cells slots hc9 hs9 hP hD hS hM hl
    refine lv_iconst (v := 0) hx hb dL_law_421 (by decide) ?_
    refine lv_istore (lv' := [(9, .int 0), (0, .ref b), (1, .ref hc), (2, .ref w.1.1), (3, .int (nI t)), (7, .int x7), (8, .int x8)]) hx hb dL_law_422 hl (by decide) rfl (fun ls hl => ?_)
    refine lv_iconst (v := 0) hx hb dL_law_424 (by decide) ?_
    refine lv_istore (lv' := [(10, .int 0), (9, .int 0), (0, .ref b), (1, .ref hc), (2, .ref w.1.1), (3, .int (nI t)), (7, .int x7), (8, .int x8)]) hx hb dL_law_425 hl (by decide) rfl (fun ls hl => ?_)
    refine lv_iconst (v := 0) hx hb dL_law_427 (by decide) ?_
    refine lv_istore (lv' := [(11, .int 0), (10, .int 0), (9, .int 0), (0, .ref b), (1, .ref hc), (2, .ref w.1.1), (3, .int (nI t)), (7, .int x7), (8, .int x8)]) hx hb dL_law_428 hl (by decide) rfl (fun ls hl => ?_)
    exact (fun x7 x8 x9 x10 => lb_430 pg l e s m b below meth cd G cI cZ hc a w T qn on pn K C0 S0 t hC0 hB0 h652 (pn + 1) 0 (by omega) (by omega) x7 x8 x9 x10) x7 x8 0 0 _ _ _ _ _ hc9 hs9 hP hD hS hM (lv_sub hl [3, 4, 5, 6, 7, 8, 2, 1, 0] rfl)
  intro H locs ls cells slots hc9 hs9 hP hD hS hM hl
  refine lv_aload_n hx hb dL_law_90 rfl (lv_at hl 1 rfl) ?_
  refine o_rd hM hP hD hS hA (va_runV (As := []) (rest := []) ⟨hx, hb, hml, hown, hts⟩ (c_X0_halfHour l G cI cZ hc a w.2.2.2.1 qn on pn 0 w.2.2.2.2.1 H.size ) (cwV 0 hts gL_law_X0_halfHour rfl rfl rfl (by decide +kernel) ⟨(Nat.le_of_ble_eq_true rfl), (Nat.le_of_ble_eq_true rfl)⟩) ⟨wPre_blind, va_recv hK hP (ci := 0) (q0 := 3) rfl rfl, w_preP hK hP hD [3, 4, 5, 6, 7, 8, 9, 10, 11, 12, 13, 14] (by decide) rfl rfl⟩ rfl rfl hl.1 rfl (lv_room (Nat.le_of_ble_eq_true rfl)) dL_law_91 ⟨Nat.le_trans hc9 hC1, Nat.le_trans hs9 hS1⟩) (fun r91 H locs hw hP hD hS hM => ?_)
  clear hw
  refine lv_istore (lv' := [(5, .int r91), (0, .ref b), (1, .ref hc), (2, .ref w.1.1), (3, .int (nI t))]) hx hb dL_law_94 hl (by decide) rfl (fun ls hl => ?_)
  refine lv_bipush (v := 14) hx hb dL_law_96 (by decide) ?_
  refine lv_aload_n hx hb dL_law_98 rfl (lv_at hl 2 rfl) ?_
  refine lv_iconst (v := 0) hx hb dL_law_99 (by decide) ?_
  refine o_rd hM hP hD hS hA (va_runV (As := [.int 0]) (rest := [.int 14]) ⟨hx, hb, hml, hown, hts⟩ (c_X0_dawnIn l G cI cZ hc a w.2.2.2.1 qn on pn 0 w.2.2.2.2.1 H.size 0 (by decide)) (cwV 1 hts gL_law_X0_dawnIn rfl rfl rfl (by decide +kernel) ⟨(Nat.le_of_ble_eq_true rfl), (Nat.le_of_ble_eq_true rfl)⟩) ⟨wPre_blind, va_recv hK hP (ci := 0) (q0 := 3) rfl rfl, w_preP hK hP hD [3, 4, 5, 6, 7, 8, 9, 10, 11, 12, 13, 14] (by decide) rfl rfl⟩ rfl rfl hl.1 rfl (lv_room (Nat.le_of_ble_eq_true rfl)) dL_law_100 ⟨Nat.le_trans hc9 hC1, Nat.le_trans hs9 hS1⟩) (fun r100 H locs hw hP hD hS hM => ?_)
  clear hw
  refine lv_isub hx hb dL_law_103 ?_
  refine lv_istore (lv' := [(6, .int (14 - r100)), (5, .int r91), (0, .ref b), (1, .ref hc), (2, .ref w.1.1), (3, .int (nI t))]) hx hb dL_law_104 hl (by decide) rfl (fun ls hl => ?_)
  refine lv_iload hx hb dL_law_106 (lv_at hl 1 rfl) ?_
  refine lv_if_lt (tgt := 164) hx hb dL_law_108 (by decide) (fun c108 => ?_) (fun c108 => ?_)
  · refine lv_iconst (v := 0) hx hb dL_law_164 (by decide) ?_
    exact o_ret0 hx hb hr hlocks hS dL_law_165
  · refine lv_iload hx hb dL_law_111 (lv_at hl 1 rfl) ?_
    refine lv_bipush (v := 47) hx hb dL_law_113 (by decide) ?_
    refine lv_icmp_gt (tgt := 164) hx hb dL_law_115 (by decide) (fun c115 => ?_) (fun c115 => ?_)
    · refine lv_iconst (v := 0) hx hb dL_law_164 (by decide) ?_
      exact o_ret0 hx hb hr hlocks hS dL_law_165
    · refine lv_iload hx hb dL_law_118 (lv_at hl 0 rfl) ?_
      refine lv_if_lt (tgt := 164) hx hb dL_law_120 (by decide) (fun c120 => ?_) (fun c120 => ?_)
      · refine lv_iconst (v := 0) hx hb dL_law_164 (by decide) ?_
        exact o_ret0 hx hb hr hlocks hS dL_law_165
      · refine lv_iload hx hb dL_law_123 (lv_at hl 0 rfl) ?_
        refine lv_iconst (v := 4) hx hb dL_law_125 (by decide) ?_
        refine lv_icmp_gt (tgt := 164) hx hb dL_law_126 (by decide) (fun c126 => ?_) (fun c126 => ?_)
        · refine lv_iconst (v := 0) hx hb dL_law_164 (by decide) ?_
          exact o_ret0 hx hb hr hlocks hS dL_law_165
        · refine lv_aload_n hx hb dL_law_129 rfl (lv_at hl 3 rfl) ?_
          refine lv_iconst (v := 0) hx hb dL_law_130 (by decide) ?_
          refine o_rd hM hP hD hS hA (va_runV (As := [.int 0]) (rest := []) ⟨hx, hb, hml, hown, hts⟩ (c_X0_duskIn l G cI cZ hc a w.2.2.2.1 qn on pn 0 w.2.2.2.2.1 H.size 0 (by decide)) (cwV 1 hts gL_law_X0_duskIn rfl rfl rfl (by decide +kernel) ⟨(Nat.le_of_ble_eq_true rfl), (Nat.le_of_ble_eq_true rfl)⟩) ⟨wPre_blind, va_recv hK hP (ci := 0) (q0 := 3) rfl rfl, w_preP hK hP hD [3, 4, 5, 6, 7, 8, 9, 10, 11, 12, 13, 14] (by decide) rfl rfl⟩ rfl rfl hl.1 rfl (lv_room (Nat.le_of_ble_eq_true rfl)) dL_law_131 ⟨Nat.le_trans hc9 hC1, Nat.le_trans hs9 hS1⟩) (fun r131 H locs hw hP hD hS hM => ?_)
          clear hw
          refine lv_bipush (v := 34) hx hb dL_law_134 (by decide) ?_
          refine lv_iload hx hb dL_law_136 (lv_at hl 0 rfl) ?_
          refine lv_iadd hx hb dL_law_138 ?_
          refine lv_aload_n hx hb dL_law_139 rfl (lv_at hl 3 rfl) ?_
          refine o_rd hM hP hD hS hA (va_runV (As := []) (rest := [.int (34 + (14 - r100)), .int r131]) ⟨hx, hb, hml, hown, hts⟩ (c_X0_shift l G cI cZ hc a w.2.2.2.1 qn on pn 0 w.2.2.2.2.1 H.size ) (cwV 0 hts gL_law_X0_shift rfl rfl rfl (by decide +kernel) ⟨(Nat.le_of_ble_eq_true rfl), (Nat.le_of_ble_eq_true rfl)⟩) ⟨wPre_blind, va_recv hK hP (ci := 0) (q0 := 3) rfl rfl, w_preP hK hP hD [3, 4, 5, 6, 7, 8, 9, 10, 11, 12, 13, 14] (by decide) rfl rfl⟩ rfl rfl hl.1 rfl (lv_room (Nat.le_of_ble_eq_true rfl)) dL_law_140 ⟨Nat.le_trans hc9 hC1, Nat.le_trans hs9 hS1⟩) (fun r140 H locs hw hP hD hS hM => ?_)
          clear hw
          refine lv_iadd hx hb dL_law_143 ?_
          refine lv_icmp_ne (tgt := 164) hx hb dL_law_144 (by decide) (fun c144 => ?_) (fun c144 => ?_)
          · refine lv_iconst (v := 0) hx hb dL_law_164 (by decide) ?_
            exact o_ret0 hx hb hr hlocks hS dL_law_165
          · refine lv_aload_n hx hb dL_law_147 rfl (lv_at hl 3 rfl) ?_
            refine o_rd hM hP hD hS hA (va_runV (As := []) (rest := []) ⟨hx, hb, hml, hown, hts⟩ (c_X0_shift l G cI cZ hc a w.2.2.2.1 qn on pn 0 w.2.2.2.2.1 H.size ) (cwV 0 hts gL_law_X0_shift rfl rfl rfl (by decide +kernel) ⟨(Nat.le_of_ble_eq_true rfl), (Nat.le_of_ble_eq_true rfl)⟩) ⟨wPre_blind, va_recv hK hP (ci := 0) (q0 := 3) rfl rfl, w_preP hK hP hD [3, 4, 5, 6, 7, 8, 9, 10, 11, 12, 13, 14] (by decide) rfl rfl⟩ rfl rfl hl.1 rfl (lv_room (Nat.le_of_ble_eq_true rfl)) dL_law_148 ⟨Nat.le_trans hc9 hC1, Nat.le_trans hs9 hS1⟩) (fun r148 H locs hw hP hD hS hM => ?_)
            clear hw
            refine lv_bipush (v := (-4)) hx hb dL_law_151 (by decide) ?_
            refine lv_icmp_lt (tgt := 164) hx hb dL_law_153 (by decide) (fun c153 => ?_) (fun c153 => ?_)
            · refine lv_iconst (v := 0) hx hb dL_law_164 (by decide) ?_
              exact o_ret0 hx hb hr hlocks hS dL_law_165
            · refine lv_aload_n hx hb dL_law_156 rfl (lv_at hl 3 rfl) ?_
              refine o_rd hM hP hD hS hA (va_runV (As := []) (rest := []) ⟨hx, hb, hml, hown, hts⟩ (c_X0_shift l G cI cZ hc a w.2.2.2.1 qn on pn 0 w.2.2.2.2.1 H.size ) (cwV 0 hts gL_law_X0_shift rfl rfl rfl (by decide +kernel) ⟨(Nat.le_of_ble_eq_true rfl), (Nat.le_of_ble_eq_true rfl)⟩) ⟨wPre_blind, va_recv hK hP (ci := 0) (q0 := 3) rfl rfl, w_preP hK hP hD [3, 4, 5, 6, 7, 8, 9, 10, 11, 12, 13, 14] (by decide) rfl rfl⟩ rfl rfl hl.1 rfl (lv_room (Nat.le_of_ble_eq_true rfl)) dL_law_157 ⟨Nat.le_trans hc9 hC1, Nat.le_trans hs9 hS1⟩) (fun r157 H locs hw hP hD hS hM => ?_)
              clear hw
              refine lv_iconst (v := 4) hx hb dL_law_160 (by decide) ?_
              refine lv_icmp_le (tgt := 166) hx hb dL_law_161 (by decide) (fun c161 => ?_) (fun c161 => ?_)
              · refine lv_iconst (v := 0) hx hb dL_law_166 (by decide) ?_
                refine lv_istore (lv' := [(7, .int 0), (6, .int (14 - r100)), (5, .int r91), (0, .ref b), (1, .ref hc), (2, .ref w.1.1), (3, .int (nI t))]) hx hb dL_law_167 hl (by decide) rfl (fun ls hl => ?_)
                refine lv_iconst (v := 0) hx hb dL_law_169 (by decide) ?_
                refine lv_istore (lv' := [(8, .int 0), (7, .int 0), (6, .int (14 - r100)), (5, .int r91), (0, .ref b), (1, .ref hc), (2, .ref w.1.1), (3, .int (nI t))]) hx hb dL_law_170 hl (by decide) rfl (fun ls hl => ?_)
                refine lv_iconst (v := 0) hx hb dL_law_172 (by decide) ?_
                refine lv_istore (lv' := [(9, .int 0), (8, .int 0), (7, .int 0), (6, .int (14 - r100)), (5, .int r91), (0, .ref b), (1, .ref hc), (2, .ref w.1.1), (3, .int (nI t))]) hx hb dL_law_173 hl (by decide) rfl (fun ls hl => ?_)
                exact (fun x5 x7 x8 => lb_175 pg l e s m b below meth cd G cI cZ hc a w T qn on pn K C0 S0 t hC0 hB0 h421 (on + 1) 0 (by omega) (by omega) x5 x7 x8) r91 0 0 _ _ _ _ _ hc9 hs9 hP hD hS hM (lv_sub hl [5, 6, 7, 8, 4, 2, 1, 0] rfl)
              · refine lv_iconst (v := 0) hx hb dL_law_164 (by decide) ?_
                exact o_ret0 hx hb hr hlocks hS dL_law_165
end CHK
