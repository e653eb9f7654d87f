set_option maxHeartbeats 4000000 in
set_option maxRecDepth 100000 in
theorem cx_X0_barredBy (l : Launch) (hfl : l.flags = flags0) (G : va_G) (cI cZ : ClassId) (h : Nat) (a : Nat → Nat) (F : Nat → Nat → Int32) (nq no np : Nat) (sh nw : Int32) (sz : Nat) (x : Int32) (hno : no ≤ 10) (hnp : np ≤ 20) : vx_Met l yX0_barredBy wsX0_barredBy ({ frames := 7, cells := 1, slots := 6, locals := 103 } : Room) (va_Pc [.ref h, .int x] (wPreX G (ty2 cI cZ) (Dk cI cZ h a F nq no np sh nw) sz)) (va_Qi (fun (r : Int32) (_ : Unit) => k1 (p_in x no) = 0 ∧ r = nI (p_bd F sh np x.toNatClampNeg nw)) (fun _ => wP G (ty2 cI cZ) (Dk cI cZ h a F nq no np sh nw) (va_A (Dk cI cZ h a F nq no np sh nw) sz)) (va_A (Dk cI cZ h a F nq no np sh nw) sz)) (wXC (fun E : String => E = "java/lang/IndexOutOfBoundsException" ∧ k1 (p_in x no) = 1) G (ty2 cI cZ) (Dk cI cZ h a F nq no np sh nw) (va_A (Dk cI cZ h a F nq no np sh nw) sz)) 1 6 (va_A (Dk cI cZ h a F nq no np sh nw) sz) := by
  refine w_metX (cc := cX0_barredBy) (maxL := 4) (ret := (some .int)) (by decide) rfl (Nat.le_of_ble_eq_true rfl) ?_
  intro pg e s m below meth cd hx hb hml hr hts hown hlocks hnm hno9 hZ hK hsz hP hD hA hS ls hl
  have hown : s.vm.findClass RX0 = some m.cls := hown
  have hin : ∀ w ∈ wsX00, w ∈ wsX0_barredBy := by decide +kernel
  have hl : lv_has ls 4 [(0, .ref h), (1, .int x)] := hl
  generalize hAe : va_A (Dk cI cZ h a F nq no np sh nw) sz = A at hD hA hS hZ ⊢
  refine lv_aload_n hx hb dX0_barredBy_0 rfl (lv_at hl 0 rfl) ?_
  refine lv_iload_n hx hb dX0_barredBy_1 rfl (lv_at hl 1 rfl) ?_
  refine w_prop_v (vx_runV (As := [.int x]) (rest := []) ⟨hx, hb, hml, hown, hts⟩ (cx_X0_requireOrder l hfl G cI cZ h a F nq no np sh nw s.heap.size x (by omega)) (cwV 1 hts gX0_barredBy_X0_requireOrder rfl rfl rfl (by decide +kernel) ⟨(Nat.le_of_ble_eq_true rfl), (Nat.le_of_ble_eq_true rfl)⟩) ⟨wPreX_blind, va_recv hK hP (ci := 0) (q0 := 0) rfl rfl, w_preX hK hP hD (w_free hD hS hA) hS hZ⟩ rfl rfl hl.1 rfl (lv_room (Nat.le_of_ble_eq_true rfl)) dX0_barredBy_2 ⟨(Nat.le_of_ble_eq_true rfl), (Nat.le_of_ble_eq_true rfl)⟩) hK hD hS hA hno9 hlocks (Nat.le_of_ble_eq_true rfl) (Nat.le_of_ble_eq_true rfl) (fun E h => ⟨h.1, by rw [h.2]; rfl⟩) (fun u H locs hw2 hP hD hS => ?_)
  have hw2 : p_in x no = true := hw2
  have hP : va_P G vwCl (Dk cI cZ h a F nq no np sh nw) H := hP
  have hD : va_D A (Dk cI cZ h a F nq no np sh nw) := hD
  obtain ⟨j, hj, rfl⟩ := pin_of hw2
  refine lv_iconst (v := 0) hx hb dX0_barredBy_5 (by decide) ?_
  refine lv_istore_n (lv' := [(2, .int 0), (0, .ref h), (1, .int (nI j))]) hx hb dX0_barredBy_6 rfl hl (by decide) rfl (fun ls hl => ?_)
  refine lv_iconst (v := 0) hx hb dX0_barredBy_7 (by decide) ?_
  refine lv_istore_n (lv' := [(3, .int 0), (2, .int 0), (0, .ref h), (1, .int (nI j))]) hx hb dX0_barredBy_8 rfl hl (by decide) rfl (fun ls hl => ?_)
  have key9 : ∀ (n i9 : Nat), i9 ≤ np → np < i9 + n → ∀ (x2 : Int32) (x3 : Int32), x2 = nI (p_ct (fun p => p_bars F sh j p (F 0 j) nw) i9) → x3 = nI i9 → ∀ (H : Heap) (locs : List Loc), va_P G vwCl (Dk cI cZ h a F nq no np sh nw) H → va_D A (Dk cI cZ h a F nq no np sh nw) → va_S A s.heap H locs → ∀ ls : Array Slot, lv_has ls 4 [(0, .ref h), (1, .int (nI j)), (2, .int x2), (3, .int x3)] → W pg l e ({ frames := 7, cells := 1, slots := 6, locals := 103 } : Room) s m ([.ref h, .int (nI j)] : List Value).toArray below meth cd H locs (0 + 1) (0 + 6) (vx_MQ below (va_Qi (fun (r : Int32) (_ : Unit) => k1 (p_in (nI j) no) = 0 ∧ r = nI (p_bd F sh np (nI j).toNatClampNeg nw)) (fun _ => wP G (ty2 cI cZ) (Dk cI cZ h a F nq no np sh nw) A) A) (wXC (fun E : String => E = "java/lang/IndexOutOfBoundsException" ∧ k1 (p_in (nI j) no) = 1) G (ty2 cI cZ) (Dk cI cZ h a F nq no np sh nw) A) ([.ref h, .int (nI j)] : List Value).toArray s 1 6 A) (F0 m 9 ls []) := by
    intro n
    induction n with
    | zero => intro i9 h1 h2; exact absurd h2 (by omega)
    | succ n ih9 =>
      intro i9 hi_i9 hn_i9 x2 x3 e2 e3 H locs hP hD hS ls hl
      subst e2 e3
      refine lv_iload_n hx hb dX0_barredBy_9 rfl (lv_at hl 3 rfl) ?_
      refine lv_aload_n hx hb dX0_barredBy_10 rfl (lv_at hl 0 rfl) ?_
      refine va_get (ci := 0) (v := .int (nI np)) (C := RX0) (T := TX0) (N := 16) hx hb hts hin hown hK hP 0 rfl rfl 13 (by decide) (hts (.fieldLink RX0 59 "CurfewDesk" "personCount" "I") (by decide +kernel)) (fun _ h9 => h9) rfl dX0_barredBy_11 ?_
      refine lv_icmp_ge (tgt := 45) hx hb dX0_barredBy_14 (by decide) (fun c14 => ?_) (fun c14 => ?_)
      · have c14 := (nI_leI (a := np) (b := i9) (by omega) (by omega)).mp c14
        have ei : np = i9 := by omega
        subst ei
        refine lv_iload_n hx hb dX0_barredBy_45 rfl (lv_at hl 2 rfl) ?_
        refine vx_ret ?_
        exact w_iret () hx hb hr hlocks hK hP hD hS (Nat.le_of_ble_eq_true rfl) (Nat.le_of_ble_eq_true rfl) dX0_barredBy_46 (show k1 (p_in (nI j) no) = 0 ∧ (nI (p_ct (fun p => p_bars F sh j p (F 0 j) nw) np)) = nI (p_bd F sh np (nI j).toNatClampNeg nw) from by first | exact ⟨by rw [hw2]; rfl, by simp only [nI_clamp (show j < 2 ^ 31 by omega)]; rfl⟩ | (simp only [nI_clamp (show j < 2 ^ 31 by omega)]; rfl))
      · have c14 := mt (nI_leI (a := np) (b := i9) (by omega) (by omega)).mpr c14
        have hlt_i9 : i9 < np := by omega
        refine lv_aload_n hx hb dX0_barredBy_17 rfl (lv_at hl 0 rfl) ?_
        refine lv_iload_n hx hb dX0_barredBy_18 rfl (lv_at hl 1 rfl) ?_
        refine lv_iload_n hx hb dX0_barredBy_19 rfl (lv_at hl 3 rfl) ?_
        refine lv_aload_n hx hb dX0_barredBy_20 rfl (lv_at hl 0 rfl) ?_
        refine va_get (ci := 0) (v := .ref (a 0)) (C := RX0) (T := TX0) (N := 16) hx hb hts hin hown hK hP 0 rfl rfl 0 (by decide) (hts (.fieldLink RX0 9 "CurfewDesk" "orderQuarter" "[I") (by decide +kernel)) (fun _ h9 => h9) rfl dX0_barredBy_21 ?_
        refine lv_iload_n hx hb dX0_barredBy_24 rfl (lv_at hl 1 rfl) ?_
        refine w_iald hx hb hK hP 1 0 rfl rfl (f := (F 0)) (j := j) (by omega) (by omega) dX0_barredBy_25 ?_
        refine lv_aload_n hx hb dX0_barredBy_26 rfl (lv_at hl 0 rfl) ?_
        refine va_get (ci := 0) (v := .int nw) (C := RX0) (T := TX0) (N := 16) hx hb hts hin hown hK hP 0 rfl rfl 15 (by decide) (hts (.fieldLink RX0 101 "CurfewDesk" "now" "I") (by decide +kernel)) (fun _ h9 => h9) rfl dX0_barredBy_27 ?_
        refine w_in_i (va_runV (As := [.int (nI j), .int (nI i9), .int ((F 0) j), .int nw]) (rest := []) ⟨hx, hb, hml, hown, hts⟩ (c_X0_bars l G cI cZ h a F nq no np sh nw H.size j i9 ((F 0) j) nw (by omega) (by omega)) (cwV 4 hts gX0_barredBy_X0_bars rfl rfl rfl (by decide +kernel) ⟨(Nat.le_of_ble_eq_true rfl), (Nat.le_of_ble_eq_true rfl)⟩) ⟨wPre_blind, va_recv hK hP (ci := 0) (q0 := 0) rfl rfl, w_pre hK hP hD⟩ rfl rfl hl.1 rfl (lv_room (Nat.le_of_ble_eq_true rfl)) dX0_barredBy_30 ⟨(Nat.le_of_ble_eq_true rfl), (Nat.le_of_ble_eq_true rfl)⟩) hD hS hA (fun r30 u30 H locs hw30 hP hD hS => ?_)
        have hP : va_P G vwCl (Dk cI cZ h a F nq no np sh nw) H := hP
        have hD : va_D A (Dk cI cZ h a F nq no np sh nw) := hD
        have hw30 : r30 = b2i (p_bars F sh j i9 ((F 0) j) nw) := hw30
        subst hw30
        refine lv_if_eq (tgt := 39) hx hb dX0_barredBy_33 (by decide) (fun c33 => ?_) (fun c33 => ?_)
        · have c33 := b2i_0.mp c33
          refine lv_iinc (v := nI i9 + 1) (lv' := [(3, .int (nI i9 + 1)), (0, .ref h), (1, .int (nI j)), (2, .int (nI (p_ct (fun p => p_bars F sh j p (F 0 j) nw) i9)))]) hx hb dX0_barredBy_39 hl (k := 3) rfl rfl (by decide) rfl (fun ls hl => ?_)
          refine lv_goto (tgt := 9) hx hb dX0_barredBy_42 (by decide) ?_
          exact ih9 (i9 + 1) (by omega) (by omega) (nI (p_ct (fun p => p_bars F sh j p (F 0 j) nw) i9)) (nI i9 + 1) (by first | exact nI_1 _ | exact nct_t (by assumption) | exact nct_f (by assumption) | exact nct_b | rfl) (by first | exact nI_1 _ | exact nct_t (by assumption) | exact nct_f (by assumption) | exact nct_b | rfl) _ _ hP hD hS _ (lv_sub hl [1, 2, 3, 0] rfl)
        · have c33 := b2i_1.mp c33
          refine lv_iinc (v := nI (p_ct (fun p => p_bars F sh j p (F 0 j) nw) i9) + 1) (lv' := [(2, .int (nI (p_ct (fun p => p_bars F sh j p (F 0 j) nw) i9) + 1)), (0, .ref h), (1, .int (nI j)), (3, .int (nI i9))]) hx hb dX0_barredBy_36 hl (k := 2) rfl rfl (by decide) rfl (fun ls hl => ?_)
          refine lv_iinc (v := nI i9 + 1) (lv' := [(3, .int (nI i9 + 1)), (2, .int (nI (p_ct (fun p => p_bars F sh j p (F 0 j) nw) i9) + 1)), (0, .ref h), (1, .int (nI j))]) hx hb dX0_barredBy_39 hl (k := 3) rfl rfl (by decide) rfl (fun ls hl => ?_)
          refine lv_goto (tgt := 9) hx hb dX0_barredBy_42 (by decide) ?_
          exact ih9 (i9 + 1) (by omega) (by omega) (nI (p_ct (fun p => p_bars F sh j p (F 0 j) nw) i9) + 1) (nI i9 + 1) (by first | exact nI_1 _ | exact nct_t (by assumption) | exact nct_f (by assumption) | exact nct_b | rfl) (by first | exact nI_1 _ | exact nct_t (by assumption) | exact nct_f (by assumption) | exact nct_b | rfl) _ _ hP hD hS _ (lv_sub hl [2, 3, 1, 0] rfl)
  exact key9 (np + 1) 0 (by omega) (by omega) 0 0 (by first | rfl | simp [p_ct, p_sm, p_fl, p_fg, nI_0]) (by first | rfl | simp [p_ct, p_sm, p_fl, p_fg, nI_0]) _ _ hP hD hS _ (lv_sub hl [2, 3, 1, 0] rfl)
set_option maxHeartbeats 4000000 in
set_option maxRecDepth 100000 in
theorem cx_X0_ordersAgainst (l : Launch) (hfl : l.flags = flags0) (G : va_G) (cI cZ : ClassId) (h : Nat) (a : Nat → Nat) (F : Nat → Nat → Int32) (nq no np : Nat) (sh nw : Int32) (sz : Nat) (x : Int32) (y : Int32) (hnq : nq ≤ 6) (hno : no ≤ 10) (hnp : np ≤ 20) : vx_Met l yX0_ordersAgainst wsX0_ordersAgainst ({ frames := 7, cells := 2, slots := 12, locals := 103 } : Room) (va_Pc [.ref h, .int x, .int y] (wPreX G (ty2 cI cZ) (Dk cI cZ h a F nq no np sh nw) sz)) (va_Qi (fun (r : Int32) (_ : Unit) => k1 (p_in x np && p_in y nq) = 0 ∧ r = nI (p_ag F sh no x.toNatClampNeg y nw)) (fun _ => wP G (ty2 cI cZ) (Dk cI cZ h a F nq no np sh nw) (va_A (Dk cI cZ h a F nq no np sh nw) sz)) (va_A (Dk cI cZ h a F nq no np sh nw) sz)) (wXC (fun E : String => E = "java/lang/IndexOutOfBoundsException" ∧ k1 (p_in x np && p_in y nq) = 1) G (ty2 cI cZ) (Dk cI cZ h a F nq no np sh nw) (va_A (Dk cI cZ h a F nq no np sh nw) sz)) 2 12 (va_A (Dk cI cZ h a F nq no np sh nw) sz) := by
  refine w_metX (cc := cX0_ordersAgainst) (maxL := 5) (ret := (some .int)) (by decide) rfl (Nat.le_of_ble_eq_true rfl) ?_
  intro pg e s m below meth cd hx hb hml hr hts hown hlocks hnm hno9 hZ hK hsz hP hD hA hS ls hl
  have hown : s.vm.findClass RX0 = some m.cls := hown
  have hin : ∀ w ∈ wsX00, w ∈ wsX0_ordersAgainst := by decide +kernel
  have hl : lv_has ls 5 [(0, .ref h), (1, .int x), (2, .int y)] := hl
  generalize hAe : va_A (Dk cI cZ h a F nq no np sh nw) sz = A at hD hA hS hZ ⊢
  refine lv_aload_n hx hb dX0_ordersAgainst_0 rfl (lv_at hl 0 rfl) ?_
  refine lv_iload_n hx hb dX0_ordersAgainst_1 rfl (lv_at hl 1 rfl) ?_
  refine w_prop_v (vx_runV (As := [.int x]) (rest := []) ⟨hx, hb, hml, hown, hts⟩ (cx_X0_requirePerson l hfl G cI cZ h a F nq no np sh nw s.heap.size x (by omega)) (cwV 1 hts gX0_ordersAgainst_X0_requirePerson rfl rfl rfl (by decide +kernel) ⟨(Nat.le_of_ble_eq_true rfl), (Nat.le_of_ble_eq_true rfl)⟩) ⟨wPreX_blind, va_recv hK hP (ci := 0) (q0 := 0) rfl rfl, w_preX hK hP hD (w_free hD hS hA) hS hZ⟩ rfl rfl hl.1 rfl (lv_room (Nat.le_of_ble_eq_true rfl)) dX0_ordersAgainst_2 ⟨(Nat.le_of_ble_eq_true rfl), (Nat.le_of_ble_eq_true rfl)⟩) hK hD hS hA hno9 hlocks (Nat.le_of_ble_eq_true rfl) (Nat.le_of_ble_eq_true rfl) (fun E h => ⟨h.1, by rw [h.2]; rfl⟩) (fun u H locs hw2 hP hD hS => ?_)
  have hw2 : p_in x np = true := hw2
  have hP : va_P G vwCl (Dk cI cZ h a F nq no np sh nw) H := hP
  have hD : va_D A (Dk cI cZ h a F nq no np sh nw) := hD
  obtain ⟨j, hj, rfl⟩ := pin_of hw2
  refine lv_aload_n hx hb dX0_ordersAgainst_5 rfl (lv_at hl 0 rfl) ?_
  refine lv_iload_n hx hb dX0_ordersAgainst_6 rfl (lv_at hl 2 rfl) ?_
  refine w_prop_v (vx_runV (As := [.int y]) (rest := []) ⟨hx, hb, hml, hown, hts⟩ (cx_X0_requireQuarter l hfl G cI cZ h a F nq no np sh nw H.size y (by omega)) (cwV 1 hts gX0_ordersAgainst_X0_requireQuarter rfl rfl rfl (by decide +kernel) ⟨(Nat.le_of_ble_eq_true rfl), (Nat.le_of_ble_eq_true rfl)⟩) ⟨wPreX_blind, va_recv hK hP (ci := 0) (q0 := 0) rfl rfl, w_preX hK hP hD (w_free hD hS hA) hS hZ⟩ rfl rfl hl.1 rfl (lv_room (Nat.le_of_ble_eq_true rfl)) dX0_ordersAgainst_7 ⟨(Nat.le_of_ble_eq_true rfl), (Nat.le_of_ble_eq_true rfl)⟩) hK hD hS hA hno9 hlocks (Nat.le_of_ble_eq_true rfl) (Nat.le_of_ble_eq_true rfl) (fun E h => ⟨h.1, by rw [hw2, h.2]; rfl⟩) (fun u H locs hw7 hP hD hS => ?_)
  have hw7 : p_in y nq = true := hw7
  have hP : va_P G vwCl (Dk cI cZ h a F nq no np sh nw) H := hP
  have hD : va_D A (Dk cI cZ h a F nq no np sh nw) := hD
  refine lv_iconst (v := 0) hx hb dX0_ordersAgainst_10 (by decide) ?_
  refine lv_istore_n (lv' := [(3, .int 0), (0, .ref h), (1, .int (nI j)), (2, .int y)]) hx hb dX0_ordersAgainst_11 rfl hl (by decide) rfl (fun ls hl => ?_)
  refine lv_iconst (v := 0) hx hb dX0_ordersAgainst_12 (by decide) ?_
  refine lv_istore (lv' := [(4, .int 0), (3, .int 0), (0, .ref h), (1, .int (nI j)), (2, .int y)]) hx hb dX0_ordersAgainst_13 hl (by decide) rfl (fun ls hl => ?_)
  have key15 : ∀ (n i15 : Nat), i15 ≤ no → no < i15 + n → ∀ (x3 : Int32) (x4 : Int32), x3 = nI (p_ct (fun o => p_bars F sh o j y nw) i15) → x4 = nI i15 → ∀ (H : Heap) (locs : List Loc), va_P G vwCl (Dk cI cZ h a F nq no np sh nw) H → va_D A (Dk cI cZ h a F nq no np sh nw) → va_S A s.heap H locs → ∀ ls : Array Slot, lv_has ls 5 [(0, .ref h), (1, .int (nI j)), (2, .int y), (3, .int x3), (4, .int x4)] → W pg l e ({ frames := 7, cells := 2, slots := 12, locals := 103 } : Room) s m ([.ref h, .int (nI j), .int y] : List Value).toArray below meth cd H locs (0 + 1 + 1) (0 + 6 + 6) (vx_MQ below (va_Qi (fun (r : Int32) (_ : Unit) => k1 (p_in (nI j) np && p_in y nq) = 0 ∧ r = nI (p_ag F sh no (nI j).toNatClampNeg y nw)) (fun _ => wP G (ty2 cI cZ) (Dk cI cZ h a F nq no np sh nw) A) A) (wXC (fun E : String => E = "java/lang/IndexOutOfBoundsException" ∧ k1 (p_in (nI j) np && p_in y nq) = 1) G (ty2 cI cZ) (Dk cI cZ h a F nq no np sh nw) A) ([.ref h, .int (nI j), .int y] : List Value).toArray s 2 12 A) (F0 m 15 ls []) := by
    intro n
    induction n with
    | zero => intro i15 h1 h2; exact absurd h2 (by omega)
    | succ n ih15 =>
      intro i15 hi_i15 hn_i15 x3 x4 e3 e4 H locs hP hD hS ls hl
      subst e3 e4
      refine lv_iload hx hb dX0_ordersAgainst_15 (lv_at hl 4 rfl) ?_
      refine lv_aload_n hx hb dX0_ordersAgainst_17 rfl (lv_at hl 0 rfl) ?_
      refine va_get (ci := 0) (v := .int (nI no)) (C := RX0) (T := TX0) (N := 16) hx hb hts hin hown hK hP 0 rfl rfl 12 (by decide) (hts (.fieldLink RX0 74 "CurfewDesk" "orderCount" "I") (by decide +kernel)) (fun _ h9 => h9) rfl dX0_ordersAgainst_18 ?_
      refine lv_icmp_ge (tgt := 48) hx hb dX0_ordersAgainst_21 (by decide) (fun c21 => ?_) (fun c21 => ?_)
      · have c21 := (nI_leI (a := no) (b := i15) (by omega) (by omega)).mp c21
        have ei : no = i15 := by omega
        subst ei
        refine lv_iload_n hx hb dX0_ordersAgainst_48 rfl (lv_at hl 3 rfl) ?_
        refine vx_ret ?_
        exact w_iret () hx hb hr hlocks hK hP hD hS (Nat.le_of_ble_eq_true rfl) (Nat.le_of_ble_eq_true rfl) dX0_ordersAgainst_49 (show k1 (p_in (nI j) np && p_in y nq) = 0 ∧ (nI (p_ct (fun o => p_bars F sh o j y nw) no)) = nI (p_ag F sh no (nI j).toNatClampNeg y nw) from by first | exact ⟨by rw [hw2, hw7]; rfl, by simp only [nI_clamp (show j < 2 ^ 31 by omega)]; rfl⟩ | (simp only [nI_clamp (show j < 2 ^ 31 by omega)]; rfl))
      · have c21 := mt (nI_leI (a := no) (b := i15) (by omega) (by omega)).mpr c21
        have hlt_i15 : i15 < no := by omega
        refine lv_aload_n hx hb dX0_ordersAgainst_24 rfl (lv_at hl 0 rfl) ?_
        refine lv_iload hx hb dX0_ordersAgainst_25 (lv_at hl 4 rfl) ?_
        refine lv_iload_n hx hb dX0_ordersAgainst_27 rfl (lv_at hl 1 rfl) ?_
        refine lv_iload_n hx hb dX0_ordersAgainst_28 rfl (lv_at hl 2 rfl) ?_
        refine lv_aload_n hx hb dX0_ordersAgainst_29 rfl (lv_at hl 0 rfl) ?_
        refine va_get (ci := 0) (v := .int nw) (C := RX0) (T := TX0) (N := 16) hx hb hts hin hown hK hP 0 rfl rfl 15 (by decide) (hts (.fieldLink RX0 101 "CurfewDesk" "now" "I") (by decide +kernel)) (fun _ h9 => h9) rfl dX0_ordersAgainst_30 ?_
        refine w_in_i (va_runV (As := [.int (nI i15), .int (nI j), .int y, .int nw]) (rest := []) ⟨hx, hb, hml, hown, hts⟩ (c_X0_bars l G cI cZ h a F nq no np sh nw H.size i15 j y nw (by omega) (by omega)) (cwV 4 hts gX0_ordersAgainst_X0_bars rfl rfl rfl (by decide +kernel) ⟨(Nat.le_of_ble_eq_true rfl), (Nat.le_of_ble_eq_true rfl)⟩) ⟨wPre_blind, va_recv hK hP (ci := 0) (q0 := 0) rfl rfl, w_pre hK hP hD⟩ rfl rfl hl.1 rfl (lv_room (Nat.le_of_ble_eq_true rfl)) dX0_ordersAgainst_33 ⟨(Nat.le_of_ble_eq_true rfl), (Nat.le_of_ble_eq_true rfl)⟩) hD hS hA (fun r33 u33 H locs hw33 hP hD hS => ?_)
        have hP : va_P G vwCl (Dk cI cZ h a F nq no np sh nw) H := hP
        have hD : va_D A (Dk cI cZ h a F nq no np sh nw) := hD
        have hw33 : r33 = b2i (p_bars F sh i15 j y nw) := hw33
        subst hw33
        refine lv_if_eq (tgt := 42) hx hb dX0_ordersAgainst_36 (by decide) (fun c36 => ?_) (fun c36 => ?_)
        · have c36 := b2i_0.mp c36
          refine lv_iinc (v := nI i15 + 1) (lv' := [(4, .int (nI i15 + 1)), (0, .ref h), (1, .int (nI j)), (2, .int y), (3, .int (nI (p_ct (fun o => p_bars F sh o j y nw) i15)))]) hx hb dX0_ordersAgainst_42 hl (k := 4) rfl rfl (by decide) rfl (fun ls hl => ?_)
          refine lv_goto (tgt := 15) hx hb dX0_ordersAgainst_45 (by decide) ?_
          exact ih15 (i15 + 1) (by omega) (by omega) (nI (p_ct (fun o => p_bars F sh o j y nw) i15)) (nI i15 + 1) (by first | exact nI_1 _ | exact nct_t (by assumption) | exact nct_f (by assumption) | exact nct_b | rfl) (by first | exact nI_1 _ | exact nct_t (by assumption) | exact nct_f (by assumption) | exact nct_b | rfl) _ _ hP hD hS _ (lv_sub hl [1, 2, 3, 4, 0] rfl)
        · have c36 := b2i_1.mp c36
          refine lv_iinc (v := nI (p_ct (fun o => p_bars F sh o j y nw) i15) + 1) (lv' := [(3, .int (nI (p_ct (fun o => p_bars F sh o j y nw) i15) + 1)), (0, .ref h), (1, .int (nI j)), (2, .int y), (4, .int (nI i15))]) hx hb dX0_ordersAgainst_39 hl (k := 3) rfl rfl (by decide) rfl (fun ls hl => ?_)
          refine lv_iinc (v := nI i15 + 1) (lv' := [(4, .int (nI i15 + 1)), (3, .int (nI (p_ct (fun o => p_bars F sh o j y nw) i15) + 1)), (0, .ref h), (1, .int (nI j)), (2, .int y)]) hx hb dX0_ordersAgainst_42 hl (k := 4) rfl rfl (by decide) rfl (fun ls hl => ?_)
          refine lv_goto (tgt := 15) hx hb dX0_ordersAgainst_45 (by decide) ?_
          exact ih15 (i15 + 1) (by omega) (by omega) (nI (p_ct (fun o => p_bars F sh o j y nw) i15) + 1) (nI i15 + 1) (by first | exact nI_1 _ | exact nct_t (by assumption) | exact nct_f (by assumption) | exact nct_b | rfl) (by first | exact nI_1 _ | exact nct_t (by assumption) | exact nct_f (by assumption) | exact nct_b | rfl) _ _ hP hD hS _ (lv_sub hl [2, 3, 4, 1, 0] rfl)
  exact key15 (no + 1) 0 (by omega) (by omega) 0 0 (by first | rfl | simp [p_ct, p_sm, p_fl, p_fg, nI_0]) (by first | rfl | simp [p_ct, p_sm, p_fl, p_fg, nI_0]) _ _ hP hD hS _ (lv_sub hl [2, 3, 4, 1, 0] rfl)
set_option maxHeartbeats 4000000 in
set_option maxRecDepth 100000 in
theorem cx_X0_mayGo (l : Launch) (hfl : l.flags = flags0) (G : va_G) (cI cZ : ClassId) (h : Nat) (a : Nat → Nat) (F : Nat → Nat → Int32) (nq no np : Nat) (sh nw : Int32) (sz : Nat) (x : Int32) (y : Int32) (hnq : nq ≤ 6) (hno : no ≤ 10) (hnp : np ≤ 20) : vx_Met l yX0_mayGo wsX0_mayGo ({ frames := 7, cells := 2, slots := 12, locals := 117 } : Room) (va_Pc [.ref h, .int x, .int y] (wPreX G (ty2 cI cZ) (Dk cI cZ h a F nq no np sh nw) sz)) (va_Qi (fun (r : Int32) (_ : Unit) => k1 (p_in x np && p_in y nq) = 0 ∧ r = b2i (decide (p_miss F sh no x.toNatClampNeg y nw (-1) = 0))) (fun _ => wP G (ty2 cI cZ) (Dk cI cZ h a F nq no np sh nw) (va_A (Dk cI cZ h a F nq no np sh nw) sz)) (va_A (Dk cI cZ h a F nq no np sh nw) sz)) (wXC (fun E : String => E = "java/lang/IndexOutOfBoundsException" ∧ k1 (p_in x np && p_in y nq) = 1) G (ty2 cI cZ) (Dk cI cZ h a F nq no np sh nw) (va_A (Dk cI cZ h a F nq no np sh nw) sz)) 2 12 (va_A (Dk cI cZ h a F nq no np sh nw) sz) := by
  refine w_metX (cc := cX0_mayGo) (maxL := 3) (ret := (some .boolean)) (by decide) rfl (Nat.le_of_ble_eq_true rfl) ?_
  intro pg e s m below meth cd hx hb hml hr hts hown hlocks hnm hno9 hZ hK hsz hP hD hA hS ls hl
  have hown : s.vm.findClass RX0 = some m.cls := hown
  have hl : lv_has ls 3 [(0, .ref h), (1, .int x), (2, .int y)] := hl
  generalize hAe : va_A (Dk cI cZ h a F nq no np sh nw) sz = A at hD hA hS hZ ⊢
  refine lv_aload_n hx hb dX0_mayGo_0 rfl (lv_at hl 0 rfl) ?_
  refine lv_iload_n hx hb dX0_mayGo_1 rfl (lv_at hl 1 rfl) ?_
  refine w_prop_v (vx_runV (As := [.int x]) (rest := []) ⟨hx, hb, hml, hown, hts⟩ (cx_X0_requirePerson l hfl G cI cZ h a F nq no np sh nw s.heap.size x (by omega)) (cwV 1 hts gX0_mayGo_X0_requirePerson rfl rfl rfl (by decide +kernel) ⟨(Nat.le_of_ble_eq_true rfl), (Nat.le_of_ble_eq_true rfl)⟩) ⟨wPreX_blind, va_recv hK hP (ci := 0) (q0 := 0) rfl rfl, w_preX hK hP hD (w_free hD hS hA) hS hZ⟩ rfl rfl hl.1 rfl (lv_room (Nat.le_of_ble_eq_true rfl)) dX0_mayGo_2 ⟨(Nat.le_of_ble_eq_true rfl), (Nat.le_of_ble_eq_true rfl)⟩) hK hD hS hA hno9 hlocks (Nat.le_of_ble_eq_true rfl) (Nat.le_of_ble_eq_true rfl) (fun E h => ⟨h.1, by rw [h.2]; rfl⟩) (fun u H locs hw2 hP hD hS => ?_)
  have hw2 : p_in x np = true := hw2
  have hP : va_P G vwCl (Dk cI cZ h a F nq no np sh nw) H := hP
  have hD : va_D A (Dk cI cZ h a F nq no np sh nw) := hD
  obtain ⟨j, hj, rfl⟩ := pin_of hw2
  refine lv_aload_n hx hb dX0_mayGo_5 rfl (lv_at hl 0 rfl) ?_
  refine lv_iload_n hx hb dX0_mayGo_6 rfl (lv_at hl 2 rfl) ?_
  refine w_prop_v (vx_runV (As := [.int y]) (rest := []) ⟨hx, hb, hml, hown, hts⟩ (cx_X0_requireQuarter l hfl G cI cZ h a F nq no np sh nw H.size y (by omega)) (cwV 1 hts gX0_mayGo_X0_requireQuarter rfl rfl rfl (by decide +kernel) ⟨(Nat.le_of_ble_eq_true rfl), (Nat.le_of_ble_eq_true rfl)⟩) ⟨wPreX_blind, va_recv hK hP (ci := 0) (q0 := 0) rfl rfl, w_preX hK hP hD (w_free hD hS hA) hS hZ⟩ rfl rfl hl.1 rfl (lv_room (Nat.le_of_ble_eq_true rfl)) dX0_mayGo_7 ⟨(Nat.le_of_ble_eq_true rfl), (Nat.le_of_ble_eq_true rfl)⟩) hK hD hS hA hno9 hlocks (Nat.le_of_ble_eq_true rfl) (Nat.le_of_ble_eq_true rfl) (fun E h => ⟨h.1, by rw [hw2, h.2]; rfl⟩) (fun u H locs hw7 hP hD hS => ?_)
  have hw7 : p_in y nq = true := hw7
  have hP : va_P G vwCl (Dk cI cZ h a F nq no np sh nw) H := hP
  have hD : va_D A (Dk cI cZ h a F nq no np sh nw) := hD
  refine lv_aload_n hx hb dX0_mayGo_10 rfl (lv_at hl 0 rfl) ?_
  refine lv_iload_n hx hb dX0_mayGo_11 rfl (lv_at hl 1 rfl) ?_
  refine lv_iload_n hx hb dX0_mayGo_12 rfl (lv_at hl 2 rfl) ?_
  refine lv_iconst (v := (-1)) hx hb dX0_mayGo_13 (by decide) ?_
  refine w_in_i (va_runV (As := [.int (nI j), .int y, .int (-1)]) (rest := []) ⟨hx, hb, hml, hown, hts⟩ (c_X0_missing l G cI cZ h a F nq no np sh nw H.size j y (-1) (by omega) (by omega)) (cwV 3 hts gX0_mayGo_X0_missing rfl rfl rfl (by decide +kernel) ⟨(Nat.le_of_ble_eq_true rfl), (Nat.le_of_ble_eq_true rfl)⟩) ⟨wPre_blind, va_recv hK hP (ci := 0) (q0 := 0) rfl rfl, w_pre hK hP hD⟩ rfl rfl hl.1 rfl (lv_room (Nat.le_of_ble_eq_true rfl)) dX0_mayGo_14 ⟨(Nat.le_of_ble_eq_true rfl), (Nat.le_of_ble_eq_true rfl)⟩) hD hS hA (fun r14 u14 H locs hw14 hP hD hS => ?_)
  have hP : va_P G vwCl (Dk cI cZ h a F nq no np sh nw) H := hP
  have hD : va_D A (Dk cI cZ h a F nq no np sh nw) := hD
  have hw14 : r14 = p_miss F sh no j y nw (-1) := hw14
  subst hw14
  refine w_selN (v1 := 1) (v2 := 0) hx hb dX0_mayGo_17 (by decide) dX0_mayGo_20 (by decide) dX0_mayGo_21 (by decide) dX0_mayGo_24 (by decide) ?_
  rw [b2i_nz]
  refine vx_ret ?_
  exact w_zret () hx hb hr hlocks hK hP hD hS (Nat.le_of_ble_eq_true rfl) (Nat.le_of_ble_eq_true rfl) dX0_mayGo_25 (b2i_n _) (show k1 (p_in (nI j) np && p_in y nq) = 0 ∧ (b2i (decide (p_miss F sh no j y nw (-1) = 0))) = b2i (decide (p_miss F sh no (nI j).toNatClampNeg y nw (-1) = 0)) from by exact ⟨by rw [hw2, hw7]; rfl, by simp only [nI_clamp (show j < 2 ^ 31 by omega)]⟩)
set_option maxHeartbeats 4000000 in
set_option maxRecDepth 100000 in
theorem cx_X0_stampsMissing (l : Launch) (hfl : l.flags = flags0) (G : va_G) (cI cZ : ClassId) (h : Nat) (a : Nat → Nat) (F : Nat → Nat → Int32) (nq no np : Nat) (sh nw : Int32) (sz : Nat) (x : Int32) (y : Int32) (hnq : nq ≤ 6) (hno : no ≤ 10) (hnp : np ≤ 20) : vx_Met l yX0_stampsMissing wsX0_stampsMissing ({ frames := 7, cells := 2, slots := 12, locals := 117 } : Room) (va_Pc [.ref h, .int x, .int y] (wPreX G (ty2 cI cZ) (Dk cI cZ h a F nq no np sh nw) sz)) (va_Qi (fun (r : Int32) (_ : Unit) => k1 (p_in x np && p_in y nq) = 0 ∧ r = p_miss F sh no x.toNatClampNeg y nw (-1)) (fun _ => wP G (ty2 cI cZ) (Dk cI cZ h a F nq no np sh nw) (va_A (Dk cI cZ h a F nq no np sh nw) sz)) (va_A (Dk cI cZ h a F nq no np sh nw) sz)) (wXC (fun E : String => E = "java/lang/IndexOutOfBoundsException" ∧ k1 (p_in x np && p_in y nq) = 1) G (ty2 cI cZ) (Dk cI cZ h a F nq no np sh nw) (va_A (Dk cI cZ h a F nq no np sh nw) sz)) 2 12 (va_A (Dk cI cZ h a F nq no np sh nw) sz) := by
  refine w_metX (cc := cX0_stampsMissing) (maxL := 3) (ret := (some .int)) (by decide) rfl (Nat.le_of_ble_eq_true rfl) ?_
  intro pg e s m below meth cd hx hb hml hr hts hown hlocks hnm hno9 hZ hK hsz hP hD hA hS ls hl
  have hown : s.vm.findClass RX0 = some m.cls := hown
  have hl : lv_has ls 3 [(0, .ref h), (1, .int x), (2, .int y)] := hl
  generalize hAe : va_A (Dk cI cZ h a F nq no np sh nw) sz = A at hD hA hS hZ ⊢
  refine lv_aload_n hx hb dX0_stampsMissing_0 rfl (lv_at hl 0 rfl) ?_
  refine lv_iload_n hx hb dX0_stampsMissing_1 rfl (lv_at hl 1 rfl) ?_
  refine w_prop_v (vx_runV (As := [.int x]) (rest := []) ⟨hx, hb, hml, hown, hts⟩ (cx_X0_requirePerson l hfl G cI cZ h a F nq no np sh nw s.heap.size x (by omega)) (cwV 1 hts gX0_stampsMissing_X0_requirePerson rfl rfl rfl (by decide +kernel) ⟨(Nat.le_of_ble_eq_true rfl), (Nat.le_of_ble_eq_true rfl)⟩) ⟨wPreX_blind, va_recv hK hP (ci := 0) (q0 := 0) rfl rfl, w_preX hK hP hD (w_free hD hS hA) hS hZ⟩ rfl rfl hl.1 rfl (lv_room (Nat.le_of_ble_eq_true rfl)) dX0_stampsMissing_2 ⟨(Nat.le_of_ble_eq_true rfl), (Nat.le_of_ble_eq_true rfl)⟩) hK hD hS hA hno9 hlocks (Nat.le_of_ble_eq_true rfl) (Nat.le_of_ble_eq_true rfl) (fun E h => ⟨h.1, by rw [h.2]; rfl⟩) (fun u H locs hw2 hP hD hS => ?_)
  have hw2 : p_in x np = true := hw2
  have hP : va_P G vwCl (Dk cI cZ h a F nq no np sh nw) H := hP
  have hD : va_D A (Dk cI cZ h a F nq no np sh nw) := hD
  obtain ⟨j, hj, rfl⟩ := pin_of hw2
  refine lv_aload_n hx hb dX0_stampsMissing_5 rfl (lv_at hl 0 rfl) ?_
  refine lv_iload_n hx hb dX0_stampsMissing_6 rfl (lv_at hl 2 rfl) ?_
  refine w_prop_v (vx_runV (As := [.int y]) (rest := []) ⟨hx, hb, hml, hown, hts⟩ (cx_X0_requireQuarter l hfl G cI cZ h a F nq no np sh nw H.size y (by omega)) (cwV 1 hts gX0_stampsMissing_X0_requireQuarter rfl rfl rfl (by decide +kernel) ⟨(Nat.le_of_ble_eq_true rfl), (Nat.le_of_ble_eq_true rfl)⟩) ⟨wPreX_blind, va_recv hK hP (ci := 0) (q0 := 0) rfl rfl, w_preX hK hP hD (w_free hD hS hA) hS hZ⟩ rfl rfl hl.1 rfl (lv_room (Nat.le_of_ble_eq_true rfl)) dX0_stampsMissing_7 ⟨(Nat.le_of_ble_eq_true rfl), (Nat.le_of_ble_eq_true rfl)⟩) hK hD hS hA hno9 hlocks (Nat.le_of_ble_eq_true rfl) (Nat.le_of_ble_eq_true rfl) (fun E h => ⟨h.1, by rw [hw2, h.2]; rfl⟩) (fun u H locs hw7 hP hD hS => ?_)
  have hw7 : p_in y nq = true := hw7
  have hP : va_P G vwCl (Dk cI cZ h a F nq no np sh nw) H := hP
  have hD : va_D A (Dk cI cZ h a F nq no np sh nw) := hD
  refine lv_aload_n hx hb dX0_stampsMissing_10 rfl (lv_at hl 0 rfl) ?_
  refine lv_iload_n hx hb dX0_stampsMissing_11 rfl (lv_at hl 1 rfl) ?_
  refine lv_iload_n hx hb dX0_stampsMissing_12 rfl (lv_at hl 2 rfl) ?_
  refine lv_iconst (v := (-1)) hx hb dX0_stampsMissing_13 (by decide) ?_
  refine w_in_i (va_runV (As := [.int (nI j), .int y, .int (-1)]) (rest := []) ⟨hx, hb, hml, hown, hts⟩ (c_X0_missing l G cI cZ h a F nq no np sh nw H.size j y (-1) (by omega) (by omega)) (cwV 3 hts gX0_stampsMissing_X0_missing rfl rfl rfl (by decide +kernel) ⟨(Nat.le_of_ble_eq_true rfl), (Nat.le_of_ble_eq_true rfl)⟩) ⟨wPre_blind, va_recv hK hP (ci := 0) (q0 := 0) rfl rfl, w_pre hK hP hD⟩ rfl rfl hl.1 rfl (lv_room (Nat.le_of_ble_eq_true rfl)) dX0_stampsMissing_14 ⟨(Nat.le_of_ble_eq_true rfl), (Nat.le_of_ble_eq_true rfl)⟩) hD hS hA (fun r14 u14 H locs hw14 hP hD hS => ?_)
  have hP : va_P G vwCl (Dk cI cZ h a F nq no np sh nw) H := hP
  have hD : va_D A (Dk cI cZ h a F nq no np sh nw) := hD
  have hw14 : r14 = p_miss F sh no j y nw (-1) := hw14
  subst hw14
  refine vx_ret ?_
  exact w_iret () hx hb hr hlocks hK hP hD hS (Nat.le_of_ble_eq_true rfl) (Nat.le_of_ble_eq_true rfl) dX0_stampsMissing_17 (show k1 (p_in (nI j) np && p_in y nq) = 0 ∧ (p_miss F sh no j y nw (-1)) = p_miss F sh no (nI j).toNatClampNeg y nw (-1) from by exact ⟨by rw [hw2, hw7]; rfl, by simp only [nI_clamp (show j < 2 ^ 31 by omega)]⟩)
set_option maxHeartbeats 4000000 in
set_option maxRecDepth 100000 in
theorem cx_X0_halfHoursOn (l : Launch) (hfl : l.flags = flags0) (G : va_G) (cI cZ : ClassId) (h : Nat) (a : Nat → Nat) (F : Nat → Nat → Int32) (nq no np : Nat) (sh nw : Int32) (sz : Nat) (x : Int32) (hno : no ≤ 10) : vx_Met l yX0_halfHoursOn wsX0_halfHoursOn ({ frames := 7, cells := 1, slots := 6, locals := 103 } : Room) (va_Pc [.ref h, .int x] (wPreX G (ty2 cI cZ) (Dk cI cZ h a F nq no np sh nw) sz)) (va_Qi (fun (r : Int32) (_ : Unit) => k1 (p_in x no) = 0 ∧ r = nI (p_ct (p_hB F sh nw x.toNatClampNeg) 48)) (fun _ => wP G (ty2 cI cZ) (Dk cI cZ h a F nq no np sh nw) (va_A (Dk cI cZ h a F nq no np sh nw) sz)) (va_A (Dk cI cZ h a F nq no np sh nw) sz)) (wXC (fun E : String => E = "java/lang/IndexOutOfBoundsException" ∧ k1 (p_in x no) = 1) G (ty2 cI cZ) (Dk cI cZ h a F nq no np sh nw) (va_A (Dk cI cZ h a F nq no np sh nw) sz)) 1 6 (va_A (Dk cI cZ h a F nq no np sh nw) sz) := by
  refine w_metX (cc := cX0_halfHoursOn) (maxL := 4) (ret := (some .int)) (by decide) rfl (Nat.le_of_ble_eq_true rfl) ?_
  intro pg e s m below meth cd hx hb hml hr hts hown hlocks hnm hno9 hZ hK hsz hP hD hA hS ls hl
  have hown : s.vm.findClass RX0 = some m.cls := hown
  have hin : ∀ w ∈ wsX00, w ∈ wsX0_halfHoursOn := by decide +kernel
  have hl : lv_has ls 4 [(0, .ref h), (1, .int x)] := hl
  generalize hAe : va_A (Dk cI cZ h a F nq no np sh nw) sz = A at hD hA hS hZ ⊢
  refine lv_aload_n hx hb dX0_halfHoursOn_0 rfl (lv_at hl 0 rfl) ?_
  refine lv_iload_n hx hb dX0_halfHoursOn_1 rfl (lv_at hl 1 rfl) ?_
  refine w_prop_v (vx_runV (As := [.int x]) (rest := []) ⟨hx, hb, hml, hown, hts⟩ (cx_X0_requireOrder l hfl G cI cZ h a F nq no np sh nw s.heap.size x (by omega)) (cwV 1 hts gX0_halfHoursOn_X0_requireOrder rfl rfl rfl (by decide +kernel) ⟨(Nat.le_of_ble_eq_true rfl), (Nat.le_of_ble_eq_true rfl)⟩) ⟨wPreX_blind, va_recv hK hP (ci := 0) (q0 := 0) rfl rfl, w_preX hK hP hD (w_free hD hS hA) hS hZ⟩ rfl rfl hl.1 rfl (lv_room (Nat.le_of_ble_eq_true rfl)) dX0_halfHoursOn_2 ⟨(Nat.le_of_ble_eq_true rfl), (Nat.le_of_ble_eq_true rfl)⟩) hK hD hS hA hno9 hlocks (Nat.le_of_ble_eq_true rfl) (Nat.le_of_ble_eq_true rfl) (fun E h => ⟨h.1, by rw [h.2]; rfl⟩) (fun u H locs hw2 hP hD hS => ?_)
  have hw2 : p_in x no = true := hw2
  have hP : va_P G vwCl (Dk cI cZ h a F nq no np sh nw) H := hP
  have hD : va_D A (Dk cI cZ h a F nq no np sh nw) := hD
  obtain ⟨j, hj, rfl⟩ := pin_of hw2
  refine lv_iconst (v := 0) hx hb dX0_halfHoursOn_5 (by decide) ?_
  refine lv_istore_n (lv' := [(2, .int 0), (0, .ref h), (1, .int (nI j))]) hx hb dX0_halfHoursOn_6 rfl hl (by decide) rfl (fun ls hl => ?_)
  refine lv_iconst (v := 0) hx hb dX0_halfHoursOn_7 (by decide) ?_
  refine lv_istore_n (lv' := [(3, .int 0), (2, .int 0), (0, .ref h), (1, .int (nI j))]) hx hb dX0_halfHoursOn_8 rfl hl (by decide) rfl (fun ls hl => ?_)
  have key9 : ∀ (n i9 : Nat), i9 ≤ 48 → 48 < i9 + n → ∀ (x2 : Int32) (x3 : Int32), x2 = nI (p_ct (p_hB F sh nw j) i9) → x3 = nI i9 → ∀ (H : Heap) (locs : List Loc), va_P G vwCl (Dk cI cZ h a F nq no np sh nw) H → va_D A (Dk cI cZ h a F nq no np sh nw) → va_S A s.heap H locs → ∀ ls : Array Slot, lv_has ls 4 [(0, .ref h), (1, .int (nI j)), (2, .int x2), (3, .int x3)] → W pg l e ({ frames := 7, cells := 1, slots := 6, locals := 103 } : Room) s m ([.ref h, .int (nI j)] : List Value).toArray below meth cd H locs (0 + 1) (0 + 6) (vx_MQ below (va_Qi (fun (r : Int32) (_ : Unit) => k1 (p_in (nI j) no) = 0 ∧ r = nI (p_ct (p_hB F sh nw (nI j).toNatClampNeg) 48)) (fun _ => wP G (ty2 cI cZ) (Dk cI cZ h a F nq no np sh nw) A) A) (wXC (fun E : String => E = "java/lang/IndexOutOfBoundsException" ∧ k1 (p_in (nI j) no) = 1) G (ty2 cI cZ) (Dk cI cZ h a F nq no np sh nw) A) ([.ref h, .int (nI j)] : List Value).toArray s 1 6 A) (F0 m 9 ls []) := by
    intro n
    induction n with
    | zero => intro i9 h1 h2; exact absurd h2 (by omega)
    | succ n ih9 =>
      intro i9 hi_i9 hn_i9 x2 x3 e2 e3 H locs hP hD hS ls hl
      subst e2 e3
      refine lv_iload_n hx hb dX0_halfHoursOn_9 rfl (lv_at hl 3 rfl) ?_
      refine lv_bipush (v := 48) hx hb dX0_halfHoursOn_10 (by decide) ?_
      refine lv_icmp_ge (tgt := 38) hx hb dX0_halfHoursOn_12 (by decide) (fun c12 => ?_) (fun c12 => ?_)
      · have c12 := (nI_leI (a := 48) (b := i9) (by omega) (by omega)).mp c12
        have ei : 48 = i9 := by omega
        subst ei
        refine lv_iload_n hx hb dX0_halfHoursOn_38 rfl (lv_at hl 2 rfl) ?_
        refine vx_ret ?_
        exact w_iret () hx hb hr hlocks hK hP hD hS (Nat.le_of_ble_eq_true rfl) (Nat.le_of_ble_eq_true rfl) dX0_halfHoursOn_39 (show k1 (p_in (nI j) no) = 0 ∧ (nI (p_ct (p_hB F sh nw j) 48)) = nI (p_ct (p_hB F sh nw (nI j).toNatClampNeg) 48) from by exact ⟨by rw [hw2]; rfl, by simp only [nI_clamp (show j < 2 ^ 31 by omega)]⟩)
      · have c12 := mt (nI_leI (a := 48) (b := i9) (by omega) (by omega)).mpr c12
        have hlt_i9 : i9 < 48 := by omega
        refine lv_aload_n hx hb dX0_halfHoursOn_15 rfl (lv_at hl 0 rfl) ?_
        refine lv_iload_n hx hb dX0_halfHoursOn_16 rfl (lv_at hl 1 rfl) ?_
        refine lv_aload_n hx hb dX0_halfHoursOn_17 rfl (lv_at hl 0 rfl) ?_
        refine va_get (ci := 0) (v := .int nw) (C := RX0) (T := TX0) (N := 16) hx hb hts hin hown hK hP 0 rfl rfl 15 (by decide) (hts (.fieldLink RX0 101 "CurfewDesk" "now" "I") (by decide +kernel)) (fun _ h9 => h9) rfl dX0_halfHoursOn_18 ?_
        refine lv_iload_n hx hb dX0_halfHoursOn_21 rfl (lv_at hl 3 rfl) ?_
        refine lv_iadd hx hb dX0_halfHoursOn_22 ?_
        refine w_in_i (va_runV (As := [.int (nI j), .int (nw + (nI i9))]) (rest := []) ⟨hx, hb, hml, hown, hts⟩ (c_X0_isInHours l G cI cZ h a F nq no np sh nw H.size j (nw + (nI i9)) (by omega)) (cwV 2 hts gX0_halfHoursOn_X0_isInHours rfl rfl rfl (by decide +kernel) ⟨(Nat.le_of_ble_eq_true rfl), (Nat.le_of_ble_eq_true rfl)⟩) ⟨wPre_blind, va_recv hK hP (ci := 0) (q0 := 0) rfl rfl, w_pre hK hP hD⟩ rfl rfl hl.1 rfl (lv_room (Nat.le_of_ble_eq_true rfl)) dX0_halfHoursOn_23 ⟨(Nat.le_of_ble_eq_true rfl), (Nat.le_of_ble_eq_true rfl)⟩) hD hS hA (fun r23 u23 H locs hw23 hP hD hS => ?_)
        have hP : va_P G vwCl (Dk cI cZ h a F nq no np sh nw) H := hP
        have hD : va_D A (Dk cI cZ h a F nq no np sh nw) := hD
        have hw23 : r23 = b2i (p_at F sh j (nw + (nI i9))) := hw23
        subst hw23
        refine lv_if_eq (tgt := 32) hx hb dX0_halfHoursOn_26 (by decide) (fun c26 => ?_) (fun c26 => ?_)
        · have c26 := b2i_0.mp c26
          refine lv_iinc (v := nI i9 + 1) (lv' := [(3, .int (nI i9 + 1)), (0, .ref h), (1, .int (nI j)), (2, .int (nI (p_ct (p_hB F sh nw j) i9)))]) hx hb dX0_halfHoursOn_32 hl (k := 3) rfl rfl (by decide) rfl (fun ls hl => ?_)
          refine lv_goto (tgt := 9) hx hb dX0_halfHoursOn_35 (by decide) ?_
          exact ih9 (i9 + 1) (by omega) (by omega) (nI (p_ct (p_hB F sh nw j) i9)) (nI i9 + 1) (by first | exact nI_1 _ | exact nct_t (by assumption) | exact nct_f (by assumption) | exact nct_b | rfl) (by first | exact nI_1 _ | exact nct_t (by assumption) | exact nct_f (by assumption) | exact nct_b | rfl) _ _ hP hD hS _ (lv_sub hl [1, 2, 3, 0] rfl)
        · have c26 := b2i_1.mp c26
          refine lv_iinc (v := nI (p_ct (p_hB F sh nw j) i9) + 1) (lv' := [(2, .int (nI (p_ct (p_hB F sh nw j) i9) + 1)), (0, .ref h), (1, .int (nI j)), (3, .int (nI i9))]) hx hb dX0_halfHoursOn_29 hl (k := 2) rfl rfl (by decide) rfl (fun ls hl => ?_)
          refine lv_iinc (v := nI i9 + 1) (lv' := [(3, .int (nI i9 + 1)), (2, .int (nI (p_ct (p_hB F sh nw j) i9) + 1)), (0, .ref h), (1, .int (nI j))]) hx hb dX0_halfHoursOn_32 hl (k := 3) rfl rfl (by decide) rfl (fun ls hl => ?_)
          refine lv_goto (tgt := 9) hx hb dX0_halfHoursOn_35 (by decide) ?_
          exact ih9 (i9 + 1) (by omega) (by omega) (nI (p_ct (p_hB F sh nw j) i9) + 1) (nI i9 + 1) (by first | exact nI_1 _ | exact nct_t (by assumption) | exact nct_f (by assumption) | exact nct_b | rfl) (by first | exact nI_1 _ | exact nct_t (by assumption) | exact nct_f (by assumption) | exact nct_b | rfl) _ _ hP hD hS _ (lv_sub hl [2, 3, 1, 0] rfl)
  exact key9 (48 + 1) 0 (by omega) (by omega) 0 0 (by first | rfl | simp [p_ct, p_sm, p_fl, p_fg, nI_0]) (by first | rfl | simp [p_ct, p_sm, p_fl, p_fg, nI_0]) _ _ hP hD hS _ (lv_sub hl [2, 3, 1, 0] rfl)
set_option maxHeartbeats 4000000 in
set_option maxRecDepth 100000 in
theorem cx_X0_halfHoursUntilFree (l : Launch) (hfl : l.flags = flags0) (G : va_G) (cI cZ : ClassId) (h : Nat) (a : Nat → Nat) (F : Nat → Nat → Int32) (nq no np : Nat) (sh nw : Int32) (sz : Nat) (x : Int32) (y : Int32) (hnq : nq ≤ 6) (hno : no ≤ 10) (hnp : np ≤ 20) : vx_Met l yX0_halfHoursUntilFree wsX0_halfHoursUntilFree ({ frames := 7, cells := 2, slots := 12, locals := 114 } : Room) (va_Pc [.ref h, .int x, .int y] (wPreX G (ty2 cI cZ) (Dk cI cZ h a F nq no np sh nw) sz)) (va_Qi (fun (r : Int32) (_ : Unit) => k1 (p_in x np && p_in y nq) = 0 ∧ r = a_hu F sh nw no x.toNatClampNeg y) (fun _ => wP G (ty2 cI cZ) (Dk cI cZ h a F nq no np sh nw) (va_A (Dk cI cZ h a F nq no np sh nw) sz)) (va_A (Dk cI cZ h a F nq no np sh nw) sz)) (wXC (fun E : String => E = "java/lang/IndexOutOfBoundsException" ∧ k1 (p_in x np && p_in y nq) = 1) G (ty2 cI cZ) (Dk cI cZ h a F nq no np sh nw) (va_A (Dk cI cZ h a F nq no np sh nw) sz)) 2 12 (va_A (Dk cI cZ h a F nq no np sh nw) sz) := by
  refine w_metX (cc := cX0_halfHoursUntilFree) (maxL := 4) (ret := (some .int)) (by decide) rfl (Nat.le_of_ble_eq_true rfl) ?_
  intro pg e s m below meth cd hx hb hml hr hts hown hlocks hnm hno9 hZ hK hsz hP hD hA hS ls hl
  have hown : s.vm.findClass RX0 = some m.cls := hown
  have hin : ∀ w ∈ wsX00, w ∈ wsX0_halfHoursUntilFree := by decide +kernel
  have hl : lv_has ls 4 [(0, .ref h), (1, .int x), (2, .int y)] := hl
  generalize hAe : va_A (Dk cI cZ h a F nq no np sh nw) sz = A at hD hA hS hZ ⊢
  refine lv_aload_n hx hb dX0_halfHoursUntilFree_0 rfl (lv_at hl 0 rfl) ?_
  refine lv_iload_n hx hb dX0_halfHoursUntilFree_1 rfl (lv_at hl 1 rfl) ?_
  refine w_prop_v (vx_runV (As := [.int x]) (rest := []) ⟨hx, hb, hml, hown, hts⟩ (cx_X0_requirePerson l hfl G cI cZ h a F nq no np sh nw s.heap.size x (by omega)) (cwV 1 hts gX0_halfHoursUntilFree_X0_requirePerson rfl rfl rfl (by decide +kernel) ⟨(Nat.le_of_ble_eq_true rfl), (Nat.le_of_ble_eq_true rfl)⟩) ⟨wPreX_blind, va_recv hK hP (ci := 0) (q0 := 0) rfl rfl, w_preX hK hP hD (w_free hD hS hA) hS hZ⟩ rfl rfl hl.1 rfl (lv_room (Nat.le_of_ble_eq_true rfl)) dX0_halfHoursUntilFree_2 ⟨(Nat.le_of_ble_eq_true rfl), (Nat.le_of_ble_eq_true rfl)⟩) hK hD hS hA hno9 hlocks (Nat.le_of_ble_eq_true rfl) (Nat.le_of_ble_eq_true rfl) (fun E h => ⟨h.1, by rw [h.2]; rfl⟩) (fun u H locs hw2 hP hD hS => ?_)
  have hw2 : p_in x np = true := hw2
  have hP : va_P G vwCl (Dk cI cZ h a F nq no np sh nw) H := hP
  have hD : va_D A (Dk cI cZ h a F nq no np sh nw) := hD
  obtain ⟨j, hj, rfl⟩ := pin_of hw2
  refine lv_aload_n hx hb dX0_halfHoursUntilFree_5 rfl (lv_at hl 0 rfl) ?_
  refine lv_iload_n hx hb dX0_halfHoursUntilFree_6 rfl (lv_at hl 2 rfl) ?_
  refine w_prop_v (vx_runV (As := [.int y]) (rest := []) ⟨hx, hb, hml, hown, hts⟩ (cx_X0_requireQuarter l hfl G cI cZ h a F nq no np sh nw H.size y (by omega)) (cwV 1 hts gX0_halfHoursUntilFree_X0_requireQuarter rfl rfl rfl (by decide +kernel) ⟨(Nat.le_of_ble_eq_true rfl), (Nat.le_of_ble_eq_true rfl)⟩) ⟨wPreX_blind, va_recv hK hP (ci := 0) (q0 := 0) rfl rfl, w_preX hK hP hD (w_free hD hS hA) hS hZ⟩ rfl rfl hl.1 rfl (lv_room (Nat.le_of_ble_eq_true rfl)) dX0_halfHoursUntilFree_7 ⟨(Nat.le_of_ble_eq_true rfl), (Nat.le_of_ble_eq_true rfl)⟩) hK hD hS hA hno9 hlocks (Nat.le_of_ble_eq_true rfl) (Nat.le_of_ble_eq_true rfl) (fun E h => ⟨h.1, by rw [hw2, h.2]; rfl⟩) (fun u H locs hw7 hP hD hS => ?_)
  have hw7 : p_in y nq = true := hw7
  have hP : va_P G vwCl (Dk cI cZ h a F nq no np sh nw) H := hP
  have hD : va_D A (Dk cI cZ h a F nq no np sh nw) := hD
  refine lv_iconst (v := 0) hx hb dX0_halfHoursUntilFree_10 (by decide) ?_
  refine lv_istore_n (lv' := [(3, .int 0), (0, .ref h), (1, .int (nI j)), (2, .int y)]) hx hb dX0_halfHoursUntilFree_11 rfl hl (by decide) rfl (fun ls hl => ?_)
  have key12 : ∀ (n i12 : Nat), i12 ≤ 49 → 49 < i12 + n → (p_ff (p_hP F sh nw no j y) 0 49 = p_ff (p_hP F sh nw no j y) i12 (49 - i12)) → ∀ (x3 : Int32), x3 = nI i12 → ∀ (H : Heap) (locs : List Loc), va_P G vwCl (Dk cI cZ h a F nq no np sh nw) H → va_D A (Dk cI cZ h a F nq no np sh nw) → va_S A s.heap H locs → ∀ ls : Array Slot, lv_has ls 4 [(0, .ref h), (1, .int (nI j)), (2, .int y), (3, .int x3)] → W pg l e ({ frames := 7, cells := 2, slots := 12, locals := 114 } : Room) s m ([.ref h, .int (nI j), .int y] : List Value).toArray below meth cd H locs (0 + 1 + 1) (0 + 6 + 6) (vx_MQ below (va_Qi (fun (r : Int32) (_ : Unit) => k1 (p_in (nI j) np && p_in y nq) = 0 ∧ r = a_hu F sh nw no (nI j).toNatClampNeg y) (fun _ => wP G (ty2 cI cZ) (Dk cI cZ h a F nq no np sh nw) A) A) (wXC (fun E : String => E = "java/lang/IndexOutOfBoundsException" ∧ k1 (p_in (nI j) np && p_in y nq) = 1) G (ty2 cI cZ) (Dk cI cZ h a F nq no np sh nw) A) ([.ref h, .int (nI j), .int y] : List Value).toArray s 2 12 A) (F0 m 12 ls []) := by
    intro n
    induction n with
    | zero => intro i12 h1 h2; exact absurd h2 (by omega)
    | succ n ih12 =>
      intro i12 hi_i12 hn_i12 hv x3 e3 H locs hP hD hS ls hl
      subst e3
      refine lv_iload_n hx hb dX0_halfHoursUntilFree_12 rfl (lv_at hl 3 rfl) ?_
      refine lv_bipush (v := 48) hx hb dX0_halfHoursUntilFree_13 (by decide) ?_
      refine lv_icmp_gt (tgt := 41) hx hb dX0_halfHoursUntilFree_15 (by decide) (fun c15 => ?_) (fun c15 => ?_)
      · have c15 := (nI_ltI (a := 48) (b := i12) (by omega) (by omega)).mp c15
        have ei : 49 = i12 := by omega
        subst ei
        refine lv_iconst (v := (-1)) hx hb dX0_halfHoursUntilFree_41 (by decide) ?_
        refine vx_ret ?_
        exact w_iret () hx hb hr hlocks hK hP hD hS (Nat.le_of_ble_eq_true rfl) (Nat.le_of_ble_eq_true rfl) dX0_halfHoursUntilFree_42 (show k1 (p_in (nI j) np && p_in y nq) = 0 ∧ (-1) = a_hu F sh nw no (nI j).toNatClampNeg y from by exact ⟨by rw [hw2, hw7]; rfl, by rw [a_hu, nI_clamp (show j < 2 ^ 31 by omega), hv]; rfl⟩)
      · have c15 := mt (nI_ltI (a := 48) (b := i12) (by omega) (by omega)).mpr c15
        have hlt_i12 : i12 < 49 := by omega
        refine lv_aload_n hx hb dX0_halfHoursUntilFree_18 rfl (lv_at hl 0 rfl) ?_
        refine lv_iload_n hx hb dX0_halfHoursUntilFree_19 rfl (lv_at hl 1 rfl) ?_
        refine lv_iload_n hx hb dX0_halfHoursUntilFree_20 rfl (lv_at hl 2 rfl) ?_
        refine lv_aload_n hx hb dX0_halfHoursUntilFree_21 rfl (lv_at hl 0 rfl) ?_
        refine va_get (ci := 0) (v := .int nw) (C := RX0) (T := TX0) (N := 16) hx hb hts hin hown hK hP 0 rfl rfl 15 (by decide) (hts (.fieldLink RX0 101 "CurfewDesk" "now" "I") (by decide +kernel)) (fun _ h9 => h9) rfl dX0_halfHoursUntilFree_22 ?_
        refine lv_iload_n hx hb dX0_halfHoursUntilFree_25 rfl (lv_at hl 3 rfl) ?_
        refine lv_iadd hx hb dX0_halfHoursUntilFree_26 ?_
        refine w_in_i (va_runV (As := [.int (nI j), .int y, .int (nw + (nI i12))]) (rest := []) ⟨hx, hb, hml, hown, hts⟩ (c_X0_isFreeAt l G cI cZ h a F nq no np sh nw H.size j y (nw + (nI i12)) (by omega) (by omega)) (cwV 3 hts gX0_halfHoursUntilFree_X0_isFreeAt rfl rfl rfl (by decide +kernel) ⟨(Nat.le_of_ble_eq_true rfl), (Nat.le_of_ble_eq_true rfl)⟩) ⟨wPre_blind, va_recv hK hP (ci := 0) (q0 := 0) rfl rfl, w_pre hK hP hD⟩ rfl rfl hl.1 rfl (lv_room (Nat.le_of_ble_eq_true rfl)) dX0_halfHoursUntilFree_27 ⟨(Nat.le_of_ble_eq_true rfl), (Nat.le_of_ble_eq_true rfl)⟩) hD hS hA (fun r27 u27 H locs hw27 hP hD hS => ?_)
        have hP : va_P G vwCl (Dk cI cZ h a F nq no np sh nw) H := hP
        have hD : va_D A (Dk cI cZ h a F nq no np sh nw) := hD
        have hw27 : r27 = b2i (decide (p_ag F sh no j y (nw + (nI i12)) = 0)) := hw27
        subst hw27
        refine lv_if_eq (tgt := 35) hx hb dX0_halfHoursUntilFree_30 (by decide) (fun c30 => ?_) (fun c30 => ?_)
        · have c30 := b2i_0.mp c30
          refine lv_iinc (v := nI i12 + 1) (lv' := [(3, .int (nI i12 + 1)), (0, .ref h), (1, .int (nI j)), (2, .int y)]) hx hb dX0_halfHoursUntilFree_35 hl (k := 3) rfl rfl (by decide) rfl (fun ls hl => ?_)
          refine lv_goto (tgt := 12) hx hb dX0_halfHoursUntilFree_38 (by decide) ?_
          exact ih12 (i12 + 1) (by omega) (by omega) (by rw [hv]; exact ff_f hlt_i12 c30) (nI i12 + 1) (by first | exact nI_1 _ | exact nct_t (by assumption) | exact nct_f (by assumption) | exact nct_b | rfl) _ _ hP hD hS _ (lv_sub hl [1, 2, 3, 0] rfl)
        · have c30 := b2i_1.mp c30
          refine lv_iload_n hx hb dX0_halfHoursUntilFree_33 rfl (lv_at hl 3 rfl) ?_
          refine vx_ret ?_
          exact w_iret () hx hb hr hlocks hK hP hD hS (Nat.le_of_ble_eq_true rfl) (Nat.le_of_ble_eq_true rfl) dX0_halfHoursUntilFree_34 (show k1 (p_in (nI j) np && p_in y nq) = 0 ∧ (nI i12) = a_hu F sh nw no (nI j).toNatClampNeg y from by exact ⟨by rw [hw2, hw7]; rfl, by rw [a_hu, nI_clamp (show j < 2 ^ 31 by omega), hv]; exact (ff_t hlt_i12 c30).symm⟩)
  exact key12 (49 + 1) 0 (by omega) (by omega) (by rfl) 0 (by first | rfl | simp [p_ct, p_sm, p_fl, p_fg, nI_0]) _ _ hP hD hS _ (lv_sub hl [1, 2, 3, 0] rfl)
set_option maxHeartbeats 4000000 in
set_option maxRecDepth 100000 in
theorem cx_X0_pass (l : Launch) (hfl : l.flags = flags0) (G : va_G) (cI cZ : ClassId) (h : Nat) (a : Nat → Nat) (F : Nat → Nat → Int32) (nq no np : Nat) (sh nw : Int32) (sz : Nat) (x : Int32) (hno : no ≤ 10) : vx_Met l yX0_pass wsX0_pass ({ frames := 7, cells := 1, slots := 6, locals := 114 } : Room) (va_Pc [.ref h, .int x] (wPreX G (ty2 cI cZ) (Dk cI cZ h a F nq no np sh nw) sz)) (va_Qi (fun (r : Int32) (_ : Unit) => k1 (p_wi x 1 200) = 0 ∧ r = a_pa F sh nw no x.toNatClampNeg) (fun _ => wP G (ty2 cI cZ) (Dk cI cZ h a F nq no np sh (nw + x)) (va_A (Dk cI cZ h a F nq no np sh nw) sz)) (va_A (Dk cI cZ h a F nq no np sh nw) sz)) (wXC (fun E : String => E = "java/lang/IllegalArgumentException" ∧ k1 (p_wi x 1 200) = 1) G (ty2 cI cZ) (Dk cI cZ h a F nq no np sh nw) (va_A (Dk cI cZ h a F nq no np sh nw) sz)) 1 6 (va_A (Dk cI cZ h a F nq no np sh nw) sz) := by
  refine w_metX (cc := cX0_pass) (maxL := 4) (ret := (some .int)) (by decide) rfl (Nat.le_of_ble_eq_true rfl) ?_
  intro pg e s m below meth cd hx hb hml hr hts hown hlocks hnm hno9 hZ hK hsz hP hD hA hS ls hl
  have hown : s.vm.findClass RX0 = some m.cls := hown
  have hin : ∀ w ∈ wsX00, w ∈ wsX0_pass := by decide +kernel
  have hl : lv_has ls 4 [(0, .ref h), (1, .int x)] := hl
  generalize hAe : va_A (Dk cI cZ h a F nq no np sh nw) sz = A at hD hA hS hZ ⊢
  refine lv_iload_n hx hb dX0_pass_0 rfl (lv_at hl 1 rfl) ?_
  refine lv_iconst (v := 1) hx hb dX0_pass_1 (by decide) ?_
  refine lv_sipush (v := 200) hx hb dX0_pass_2 (by decide) ?_
  refine w_prop0_v (vx_runS (As := [.int x, .int 1, .int 200]) (rest := []) ⟨hx, hb, hml, hown, hts⟩ (cx_X0_requireWithin l hfl G s.heap.size x 1 200 ) (va_cwS 3 hts gX0_pass_X0_requireWithin rfl rfl rfl (by decide +kernel) ⟨(Nat.le_of_ble_eq_true rfl), (Nat.le_of_ble_eq_true rfl)⟩) ⟨wPreX_blind, w_preX (hK.sub [] rfl) w_P0 w_D0 (w_free0 hS hA) hS hZ⟩ rfl rfl hl.1 rfl (lv_room (Nat.le_of_ble_eq_true rfl)) dX0_pass_5 ⟨(Nat.le_of_ble_eq_true rfl), (Nat.le_of_ble_eq_true rfl)⟩) hK hP hD hS hA hno9 hlocks (Nat.le_of_ble_eq_true rfl) (Nat.le_of_ble_eq_true rfl) (fun E h => ⟨h.1, by rw [h.2]; rfl⟩) (fun u H locs hw5 hP hS => ?_)
  have hw5 : p_wi x 1 200 = true := hw5
  obtain ⟨j, hj, rfl⟩ := pwi_ofn (b := 200) (by decide) (by decide) hw5
  refine lv_iconst (v := 0) hx hb dX0_pass_8 (by decide) ?_
  refine lv_istore_n (lv' := [(2, .int 0), (0, .ref h), (1, .int (nI j))]) hx hb dX0_pass_9 rfl hl (by decide) rfl (fun ls hl => ?_)
  refine lv_iconst (v := 0) hx hb dX0_pass_10 (by decide) ?_
  refine lv_istore_n (lv' := [(3, .int 0), (2, .int 0), (0, .ref h), (1, .int (nI j))]) hx hb dX0_pass_11 rfl hl (by decide) rfl (fun ls hl => ?_)
  have key12 : ∀ (n i12 : Nat), i12 ≤ no → no < i12 + n → ∀ (x2 : Int32) (x3 : Int32), x2 = p_sm (fun o => nI (p_ct (p_tb F sh nw o) j)) i12 → x3 = nI i12 → ∀ (H : Heap) (locs : List Loc), va_P G vwCl (Dk cI cZ h a F nq no np sh nw) H → va_D A (Dk cI cZ h a F nq no np sh nw) → va_S A s.heap H locs → ∀ ls : Array Slot, lv_has ls 4 [(0, .ref h), (1, .int (nI j)), (2, .int x2), (3, .int x3)] → W pg l e ({ frames := 7, cells := 1, slots := 6, locals := 114 } : Room) s m ([.ref h, .int (nI j)] : List Value).toArray below meth cd H locs (0 + 1) (0 + 6) (vx_MQ below (va_Qi (fun (r : Int32) (_ : Unit) => k1 (p_wi (nI j) 1 200) = 0 ∧ r = a_pa F sh nw no (nI j).toNatClampNeg) (fun _ => wP G (ty2 cI cZ) (Dk cI cZ h a F nq no np sh (nw + (nI j))) A) A) (wXC (fun E : String => E = "java/lang/IllegalArgumentException" ∧ k1 (p_wi (nI j) 1 200) = 1) G (ty2 cI cZ) (Dk cI cZ h a F nq no np sh nw) A) ([.ref h, .int (nI j)] : List Value).toArray s 1 6 A) (F0 m 12 ls []) := by
    intro n
    induction n with
    | zero => intro i12 h1 h2; exact absurd h2 (by omega)
    | succ n ih12 =>
      intro i12 hi_i12 hn_i12 x2 x3 e2 e3 H locs hP hD hS ls hl
      subst e2 e3
      refine lv_iload_n hx hb dX0_pass_12 rfl (lv_at hl 3 rfl) ?_
      refine lv_aload_n hx hb dX0_pass_13 rfl (lv_at hl 0 rfl) ?_
      refine va_get (ci := 0) (v := .int (nI no)) (C := RX0) (T := TX0) (N := 16) hx hb hts hin hown hK hP 0 rfl rfl 12 (by decide) (hts (.fieldLink RX0 74 "CurfewDesk" "orderCount" "I") (by decide +kernel)) (fun _ h9 => h9) rfl dX0_pass_14 ?_
      refine lv_icmp_ge (tgt := 35) hx hb dX0_pass_17 (by decide) (fun c17 => ?_) (fun c17 => ?_)
      · have c17 := (nI_leI (a := no) (b := i12) (by omega) (by omega)).mp c17
        have ei : no = i12 := by omega
        subst ei
        refine lv_aload_n hx hb dX0_pass_35 rfl (lv_at hl 0 rfl) ?_
        refine lv_dup hx hb dX0_pass_36 rfl ?_
        refine va_get (ci := 0) (v := .int nw) (C := RX0) (T := TX0) (N := 16) hx hb hts hin hown hK hP 0 rfl rfl 15 (by decide) (hts (.fieldLink RX0 101 "CurfewDesk" "now" "I") (by decide +kernel)) (fun _ h9 => h9) rfl dX0_pass_37 ?_
        refine lv_iload_n hx hb dX0_pass_40 rfl (lv_at hl 1 rfl) ?_
        refine lv_iadd hx hb dX0_pass_41 ?_
        refine va_put (ci := 0) (v := .int (nw + (nI j))) (ty := .int) (C := RX0) (T := TX0) (N := 16) hx hb hts hin tyX0 tyX0_ok nmX0 hown hK hP hD hS 0 rfl rfl 15 (by decide) (hts (.fieldLink RX0 101 "CurfewDesk" "now" "I") (by decide +kernel)) (fun _ h9 => h9) rfl (by decide +kernel) rfl rfl (Nat.le_of_ble_eq_true rfl) dX0_pass_42 (fun H locs hP hD hS => ?_)
        have hP : va_P G vwCl (Dk cI cZ h a F nq no np sh (nw + (nI j))) H := hP
        have hD : va_D A (Dk cI cZ h a F nq no np sh (nw + (nI j))) := hD
        refine lv_iload_n hx hb dX0_pass_45 rfl (lv_at hl 2 rfl) ?_
        refine vx_ret ?_
        exact w_iret () hx hb hr hlocks hK hP hD hS (Nat.le_of_ble_eq_true rfl) (Nat.le_of_ble_eq_true rfl) dX0_pass_46 (show k1 (p_wi (nI j) 1 200) = 0 ∧ (p_sm (fun o => nI (p_ct (p_tb F sh nw o) j)) no) = a_pa F sh nw no (nI j).toNatClampNeg from by exact ⟨by rw [hw5]; rfl, by rw [a_pa, nI_clamp (show j < 2 ^ 31 by omega)]⟩)
      · have c17 := mt (nI_leI (a := no) (b := i12) (by omega) (by omega)).mpr c17
        have hlt_i12 : i12 < no := by omega
        refine lv_iload_n hx hb dX0_pass_20 rfl (lv_at hl 2 rfl) ?_
        refine lv_aload_n hx hb dX0_pass_21 rfl (lv_at hl 0 rfl) ?_
        refine lv_iload_n hx hb dX0_pass_22 rfl (lv_at hl 3 rfl) ?_
        refine lv_iload_n hx hb dX0_pass_23 rfl (lv_at hl 1 rfl) ?_
        refine w_in_i (va_runV (As := [.int (nI i12), .int (nI j)]) (rest := [.int (p_sm (fun o => nI (p_ct (p_tb F sh nw o) j)) i12)]) ⟨hx, hb, hml, hown, hts⟩ (c_X0_timesBegun l G cI cZ h a F nq no np sh nw H.size i12 j (by omega) (by omega)) (cwV 2 hts gX0_pass_X0_timesBegun rfl rfl rfl (by decide +kernel) ⟨(Nat.le_of_ble_eq_true rfl), (Nat.le_of_ble_eq_true rfl)⟩) ⟨wPre_blind, va_recv hK hP (ci := 0) (q0 := 0) rfl rfl, w_pre hK hP hD⟩ rfl rfl hl.1 rfl (lv_room (Nat.le_of_ble_eq_true rfl)) dX0_pass_24 ⟨(Nat.le_of_ble_eq_true rfl), (Nat.le_of_ble_eq_true rfl)⟩) hD hS hA (fun r24 u24 H locs hw24 hP hD hS => ?_)
        have hP : va_P G vwCl (Dk cI cZ h a F nq no np sh nw) H := hP
        have hD : va_D A (Dk cI cZ h a F nq no np sh nw) := hD
        have hw24 : r24 = nI (p_ct (p_tb F sh nw i12) j) := hw24
        subst hw24
        refine lv_iadd hx hb dX0_pass_27 ?_
        refine lv_istore_n (lv' := [(2, .int ((p_sm (fun o => nI (p_ct (p_tb F sh nw o) j)) i12) + (nI (p_ct (p_tb F sh nw i12) j)))), (0, .ref h), (1, .int (nI j)), (3, .int (nI i12))]) hx hb dX0_pass_28 rfl hl (by decide) rfl (fun ls hl => ?_)
        refine lv_iinc (v := nI i12 + 1) (lv' := [(3, .int (nI i12 + 1)), (2, .int ((p_sm (fun o => nI (p_ct (p_tb F sh nw o) j)) i12) + (nI (p_ct (p_tb F sh nw i12) j)))), (0, .ref h), (1, .int (nI j))]) hx hb dX0_pass_29 hl (k := 3) rfl rfl (by decide) rfl (fun ls hl => ?_)
        refine lv_goto (tgt := 12) hx hb dX0_pass_32 (by decide) ?_
        exact ih12 (i12 + 1) (by omega) (by omega) ((p_sm (fun o => nI (p_ct (p_tb F sh nw o) j)) i12) + (nI (p_ct (p_tb F sh nw i12) j))) (nI i12 + 1) (by rfl) (by first | exact nI_1 _ | exact nct_t (by assumption) | exact nct_f (by assumption) | exact nct_b | rfl) _ _ hP hD hS _ (lv_sub hl [2, 3, 1, 0] rfl)
  exact key12 (no + 1) 0 (by omega) (by omega) 0 0 (by first | rfl | simp [p_ct, p_sm, p_fl, p_fg, nI_0]) (by first | rfl | simp [p_ct, p_sm, p_fl, p_fg, nI_0]) _ _ hP hD hS _ (lv_sub hl [2, 3, 1, 0] rfl)
set_option maxHeartbeats 4000000 in
set_option maxRecDepth 100000 in
theorem cx_X0_goOut (l : Launch) (hfl : l.flags = flags0) (G : va_G) (cI cZ : ClassId) (h : Nat) (a : Nat → Nat) (F : Nat → Nat → Int32) (nq no np : Nat) (sh nw : Int32) (sz : Nat) (x : Int32) (y : Int32) (hnq : nq ≤ 6) (hno : no ≤ 10) (hnp : np ≤ 20) (H3 : ∀ o, o < no → ∃ c, c < 4 ∧ F 3 o = nI c) : vx_Met l yX0_goOut wsX0_goOut ({ frames := 7, cells := 2, slots := 12, locals := 103 } : Room) (va_Pc [.ref h, .int x, .int y] (wPreX G (ty2 cI cZ) (Dk cI cZ h a F nq no np sh nw) sz)) (va_Qi (fun (r : Int32) (_ : Unit) => k1 (p_in x np && p_in y nq) = 0 ∧ r = a_go F sh no x.toNatClampNeg y nw) (fun _ => wP G (ty2 cI cZ) (Dk cI cZ h a (n_go F sh no x.toNatClampNeg y nw) nq no np sh nw) (va_A (Dk cI cZ h a F nq no np sh nw) sz)) (va_A (Dk cI cZ h a F nq no np sh nw) sz)) (wXC (fun E : String => E = "java/lang/IndexOutOfBoundsException" ∧ k1 (p_in x np && p_in y nq) = 1) G (ty2 cI cZ) (Dk cI cZ h a F nq no np sh nw) (va_A (Dk cI cZ h a F nq no np sh nw) sz)) 2 12 (va_A (Dk cI cZ h a F nq no np sh nw) sz) := by
  refine w_metX (cc := cX0_goOut) (maxL := 5) (ret := (some .int)) (by decide) rfl (Nat.le_of_ble_eq_true rfl) ?_
  intro pg e s m below meth cd hx hb hml hr hts hown hlocks hnm hno9 hZ hK hsz hP hD hA hS ls hl
  have hown : s.vm.findClass RX0 = some m.cls := hown
  have hin : ∀ w ∈ wsX00, w ∈ wsX0_goOut := by decide +kernel
  have hl : lv_has ls 5 [(0, .ref h), (1, .int x), (2, .int y)] := hl
  generalize hAe : va_A (Dk cI cZ h a F nq no np sh nw) sz = A at hD hA hS hZ ⊢
  refine lv_aload_n hx hb dX0_goOut_0 rfl (lv_at hl 0 rfl) ?_
  refine lv_iload_n hx hb dX0_goOut_1 rfl (lv_at hl 1 rfl) ?_
  refine w_prop_v (vx_runV (As := [.int x]) (rest := []) ⟨hx, hb, hml, hown, hts⟩ (cx_X0_requirePerson l hfl G cI cZ h a F nq no np sh nw s.heap.size x (by omega)) (cwV 1 hts gX0_goOut_X0_requirePerson rfl rfl rfl (by decide +kernel) ⟨(Nat.le_of_ble_eq_true rfl), (Nat.le_of_ble_eq_true rfl)⟩) ⟨wPreX_blind, va_recv hK hP (ci := 0) (q0 := 0) rfl rfl, w_preX hK hP hD (w_free hD hS hA) hS hZ⟩ rfl rfl hl.1 rfl (lv_room (Nat.le_of_ble_eq_true rfl)) dX0_goOut_2 ⟨(Nat.le_of_ble_eq_true rfl), (Nat.le_of_ble_eq_true rfl)⟩) hK hD hS hA hno9 hlocks (Nat.le_of_ble_eq_true rfl) (Nat.le_of_ble_eq_true rfl) (fun E h => ⟨h.1, by rw [h.2]; rfl⟩) (fun u H locs hw2 hP hD hS => ?_)
  have hw2 : p_in x np = true := hw2
  have hP : va_P G vwCl (Dk cI cZ h a F nq no np sh nw) H := hP
  have hD : va_D A (Dk cI cZ h a F nq no np sh nw) := hD
  obtain ⟨j, hj, rfl⟩ := pin_of hw2
  refine lv_aload_n hx hb dX0_goOut_5 rfl (lv_at hl 0 rfl) ?_
  refine lv_iload_n hx hb dX0_goOut_6 rfl (lv_at hl 2 rfl) ?_
  refine w_prop_v (vx_runV (As := [.int y]) (rest := []) ⟨hx, hb, hml, hown, hts⟩ (cx_X0_requireQuarter l hfl G cI cZ h a F nq no np sh nw H.size y (by omega)) (cwV 1 hts gX0_goOut_X0_requireQuarter rfl rfl rfl (by decide +kernel) ⟨(Nat.le_of_ble_eq_true rfl), (Nat.le_of_ble_eq_true rfl)⟩) ⟨wPreX_blind, va_recv hK hP (ci := 0) (q0 := 0) rfl rfl, w_preX hK hP hD (w_free hD hS hA) hS hZ⟩ rfl rfl hl.1 rfl (lv_room (Nat.le_of_ble_eq_true rfl)) dX0_goOut_7 ⟨(Nat.le_of_ble_eq_true rfl), (Nat.le_of_ble_eq_true rfl)⟩) hK hD hS hA hno9 hlocks (Nat.le_of_ble_eq_true rfl) (Nat.le_of_ble_eq_true rfl) (fun E h => ⟨h.1, by rw [hw2, h.2]; rfl⟩) (fun u H locs hw7 hP hD hS => ?_)
  have hw7 : p_in y nq = true := hw7
  have hP : va_P G vwCl (Dk cI cZ h a F nq no np sh nw) H := hP
  have hD : va_D A (Dk cI cZ h a F nq no np sh nw) := hD
  refine lv_iconst (v := 0) hx hb dX0_goOut_10 (by decide) ?_
  refine lv_istore_n (lv' := [(3, .int 0), (0, .ref h), (1, .int (nI j)), (2, .int y)]) hx hb dX0_goOut_11 rfl hl (by decide) rfl (fun ls hl => ?_)
  refine lv_iconst (v := 0) hx hb dX0_goOut_12 (by decide) ?_
  refine lv_istore (lv' := [(4, .int 0), (3, .int 0), (0, .ref h), (1, .int (nI j)), (2, .int y)]) hx hb dX0_goOut_13 hl (by decide) rfl (fun ls hl => ?_)
  have key15 : ∀ (n i15 : Nat), i15 ≤ no → no < i15 + n → ∀ (x3 : Int32) (x4 : Int32), x3 = b2i ((p_go F sh j y nw i15).2) → x4 = nI i15 → ∀ (H : Heap) (locs : List Loc), va_P G vwCl (Dk cI cZ h a ((p_go F sh j y nw i15).1) nq no np sh nw) H → va_D A (Dk cI cZ h a ((p_go F sh j y nw i15).1) nq no np sh nw) → va_S A s.heap H locs → ∀ ls : Array Slot, lv_has ls 5 [(0, .ref h), (1, .int (nI j)), (2, .int y), (3, .int x3), (4, .int x4)] → W pg l e ({ frames := 7, cells := 2, slots := 12, locals := 103 } : Room) s m ([.ref h, .int (nI j), .int y] : List Value).toArray below meth cd H locs (0 + 1 + 1) (0 + 6 + 6) (vx_MQ below (va_Qi (fun (r : Int32) (_ : Unit) => k1 (p_in (nI j) np && p_in y nq) = 0 ∧ r = a_go F sh no (nI j).toNatClampNeg y nw) (fun _ => wP G (ty2 cI cZ) (Dk cI cZ h a (n_go F sh no (nI j).toNatClampNeg y nw) nq no np sh nw) A) A) (wXC (fun E : String => E = "java/lang/IndexOutOfBoundsException" ∧ k1 (p_in (nI j) np && p_in y nq) = 1) G (ty2 cI cZ) (Dk cI cZ h a F nq no np sh nw) A) ([.ref h, .int (nI j), .int y] : List Value).toArray s 2 12 A) (F0 m 15 ls []) := by
    intro n
    induction n with
    | zero => intro i15 h1 h2; exact absurd h2 (by omega)
    | succ n ih15 =>
      intro i15 hi_i15 hn_i15 x3 x4 e3 e4 H locs hP hD hS ls hl
      subst e3 e4
      refine lv_iload hx hb dX0_goOut_15 (lv_at hl 4 rfl) ?_
      refine lv_aload_n hx hb dX0_goOut_17 rfl (lv_at hl 0 rfl) ?_
      refine va_get (ci := 0) (v := .int (nI no)) (C := RX0) (T := TX0) (N := 16) hx hb hts hin hown hK hP 0 rfl rfl 12 (by decide) (hts (.fieldLink RX0 74 "CurfewDesk" "orderCount" "I") (by decide +kernel)) (fun _ h9 => h9) rfl dX0_goOut_18 ?_
      refine lv_icmp_ge (tgt := 62) hx hb dX0_goOut_21 (by decide) (fun c21 => ?_) (fun c21 => ?_)
      · have c21 := (nI_leI (a := no) (b := i15) (by omega) (by omega)).mp c21
        have ei : no = i15 := by omega
        subst ei
        refine lv_iload_n hx hb dX0_goOut_62 rfl (lv_at hl 3 rfl) ?_
        refine lv_if_eq (tgt := 74) hx hb dX0_goOut_63 (by decide) (fun c63 => ?_) (fun c63 => ?_)
        · have c63 := b2i_0.mp c63
          refine lv_iconst (v := 0) hx hb dX0_goOut_74 (by decide) ?_
          have hP : va_P G vwCl (Dk cI cZ h a (n_go F sh no (nI j).toNatClampNeg y nw) nq no np sh nw) H := by (first | rw [nI_clamp (show j < 2 ^ 31 by omega), n_go, if_pos c63] | rw [nI_clamp (show j < 2 ^ 31 by omega), n_go, if_neg (by rw [c63]; decide)]); exact hP
          have hD : va_D A (Dk cI cZ h a (n_go F sh no (nI j).toNatClampNeg y nw) nq no np sh nw) := by (first | rw [nI_clamp (show j < 2 ^ 31 by omega), n_go, if_pos c63] | rw [nI_clamp (show j < 2 ^ 31 by omega), n_go, if_neg (by rw [c63]; decide)]); exact hD
          refine vx_ret ?_
          exact w_iret () hx hb hr hlocks hK hP hD hS (Nat.le_of_ble_eq_true rfl) (Nat.le_of_ble_eq_true rfl) dX0_goOut_75 (show k1 (p_in (nI j) np && p_in y nq) = 0 ∧ 0 = a_go F sh no (nI j).toNatClampNeg y nw from by first | exact ⟨by rw [hw2, hw7]; rfl, by rw [nI_clamp (show j < 2 ^ 31 by omega), a_go, if_pos c63, go_keep F sh j y nw 7 (by decide) (by decide) no]⟩ | exact ⟨by rw [hw2, hw7]; rfl, by rw [nI_clamp (show j < 2 ^ 31 by omega), a_go, if_neg (by rw [c63]; decide)]⟩)
        · have c63 := b2i_1.mp c63
          refine lv_aload_n hx hb dX0_goOut_66 rfl (lv_at hl 0 rfl) ?_
          refine lv_iload_n hx hb dX0_goOut_67 rfl (lv_at hl 1 rfl) ?_
          refine w_in_i (va_runV (As := [.int (nI j)]) (rest := []) ⟨hx, hb, hml, hown, hts⟩ (c_X0_fineOnce l G cI cZ h a ((p_go F sh j y nw no).1) nq no np sh nw H.size j (by omega)) (cwV 1 hts gX0_goOut_X0_fineOnce rfl rfl rfl (by decide +kernel) ⟨(Nat.le_of_ble_eq_true rfl), (Nat.le_of_ble_eq_true rfl)⟩) ⟨wPre_blind, va_recv hK hP (ci := 0) (q0 := 0) rfl rfl, w_pre hK hP hD⟩ rfl rfl hl.1 rfl (lv_room (Nat.le_of_ble_eq_true rfl)) dX0_goOut_68 ⟨(Nat.le_of_ble_eq_true rfl), (Nat.le_of_ble_eq_true rfl)⟩) hD hS hA (fun r68 u68 H locs hw68 hP hD hS => ?_)
          have hP : va_P G vwCl (Dk cI cZ h a (p_fine ((p_go F sh j y nw no).1) j) nq no np sh nw) H := hP
          have hD : va_D A (Dk cI cZ h a (p_fine ((p_go F sh j y nw no).1) j) nq no np sh nw) := hD
          have hw68 : r68 = 10 * (((p_go F sh j y nw no).1) 7 j + 1) := hw68
          subst hw68
          refine lv_goto (tgt := 75) hx hb dX0_goOut_71 (by decide) ?_
          have hP : va_P G vwCl (Dk cI cZ h a (n_go F sh no (nI j).toNatClampNeg y nw) nq no np sh nw) H := by (first | rw [nI_clamp (show j < 2 ^ 31 by omega), n_go, if_pos c63] | rw [nI_clamp (show j < 2 ^ 31 by omega), n_go, if_neg (by rw [c63]; decide)]); exact hP
          have hD : va_D A (Dk cI cZ h a (n_go F sh no (nI j).toNatClampNeg y nw) nq no np sh nw) := by (first | rw [nI_clamp (show j < 2 ^ 31 by omega), n_go, if_pos c63] | rw [nI_clamp (show j < 2 ^ 31 by omega), n_go, if_neg (by rw [c63]; decide)]); exact hD
          refine vx_ret ?_
          exact w_iret () hx hb hr hlocks hK hP hD hS (Nat.le_of_ble_eq_true rfl) (Nat.le_of_ble_eq_true rfl) dX0_goOut_75 (show k1 (p_in (nI j) np && p_in y nq) = 0 ∧ (10 * (((p_go F sh j y nw no).1) 7 j + 1)) = a_go F sh no (nI j).toNatClampNeg y nw from by first | exact ⟨by rw [hw2, hw7]; rfl, by rw [nI_clamp (show j < 2 ^ 31 by omega), a_go, if_pos c63, go_keep F sh j y nw 7 (by decide) (by decide) no]⟩ | exact ⟨by rw [hw2, hw7]; rfl, by rw [nI_clamp (show j < 2 ^ 31 by omega), a_go, if_neg (by rw [c63]; decide)]⟩)
      · have c21 := mt (nI_leI (a := no) (b := i15) (by omega) (by omega)).mpr c21
        have hlt_i15 : i15 < no := by omega
        refine lv_aload_n hx hb dX0_goOut_24 rfl (lv_at hl 0 rfl) ?_
        refine lv_iload hx hb dX0_goOut_25 (lv_at hl 4 rfl) ?_
        refine lv_iload_n hx hb dX0_goOut_27 rfl (lv_at hl 1 rfl) ?_
        refine lv_iload_n hx hb dX0_goOut_28 rfl (lv_at hl 2 rfl) ?_
        refine lv_aload_n hx hb dX0_goOut_29 rfl (lv_at hl 0 rfl) ?_
        refine va_get (ci := 0) (v := .int nw) (C := RX0) (T := TX0) (N := 16) hx hb hts hin hown hK hP 0 rfl rfl 15 (by decide) (hts (.fieldLink RX0 101 "CurfewDesk" "now" "I") (by decide +kernel)) (fun _ h9 => h9) rfl dX0_goOut_30 ?_
        refine w_in_i (va_runV (As := [.int (nI i15), .int (nI j), .int y, .int nw]) (rest := []) ⟨hx, hb, hml, hown, hts⟩ (c_X0_bars l G cI cZ h a ((p_go F sh j y nw i15).1) nq no np sh nw H.size i15 j y nw (by omega) (by omega)) (cwV 4 hts gX0_goOut_X0_bars rfl rfl rfl (by decide +kernel) ⟨(Nat.le_of_ble_eq_true rfl), (Nat.le_of_ble_eq_true rfl)⟩) ⟨wPre_blind, va_recv hK hP (ci := 0) (q0 := 0) rfl rfl, w_pre hK hP hD⟩ rfl rfl hl.1 rfl (lv_room (Nat.le_of_ble_eq_true rfl)) dX0_goOut_33 ⟨(Nat.le_of_ble_eq_true rfl), (Nat.le_of_ble_eq_true rfl)⟩) hD hS hA (fun r33 u33 H locs hw33 hP hD hS => ?_)
        have hP : va_P G vwCl (Dk cI cZ h a ((p_go F sh j y nw i15).1) nq no np sh nw) H := hP
        have hD : va_D A (Dk cI cZ h a ((p_go F sh j y nw i15).1) nq no np sh nw) := hD
        have hw33 : r33 = b2i (p_bars ((p_go F sh j y nw i15).1) sh i15 j y nw) := hw33
        subst hw33
        rw [bars_cong (fun k h9 h10 => go_keep F sh j y nw k h9 h10 i15)]
        refine lv_if_eq (tgt := 56) hx hb dX0_goOut_36 (by decide) (fun c36 => ?_) (fun c36 => ?_)
        · have c36 := b2i_0.mp c36
          refine lv_iinc (v := nI i15 + 1) (lv' := [(4, .int (nI i15 + 1)), (0, .ref h), (1, .int (nI j)), (2, .int y), (3, .int (b2i ((p_go F sh j y nw i15).2)))]) hx hb dX0_goOut_56 hl (k := 4) rfl rfl (by decide) rfl (fun ls hl => ?_)
          refine lv_goto (tgt := 15) hx hb dX0_goOut_59 (by decide) ?_
          have eG : p_go F sh j y nw (i15 + 1) = p_go F sh j y nw i15 := by rw [p_go, if_neg (by rw [c36]; decide)]
          have hP : va_P G vwCl (Dk cI cZ h a (p_go F sh j y nw (i15 + 1)).1 nq no np sh nw) H := by rw [eG]; exact hP
          have hD : va_D A (Dk cI cZ h a (p_go F sh j y nw (i15 + 1)).1 nq no np sh nw) := by rw [eG]; exact hD
          exact ih15 (i15 + 1) (by omega) (by omega) (b2i ((p_go F sh j y nw i15).2)) (nI i15 + 1) (by rw [eG]) (by first | exact nI_1 _ | exact nct_t (by assumption) | exact nct_f (by assumption) | exact nct_b | rfl) _ _ hP hD hS _ (lv_sub hl [1, 2, 3, 4, 0] rfl)
        · have c36 := b2i_1.mp c36
          refine lv_aload_n hx hb dX0_goOut_39 rfl (lv_at hl 0 rfl) ?_
          refine lv_iload_n hx hb dX0_goOut_40 rfl (lv_at hl 1 rfl) ?_
          refine lv_aload_n hx hb dX0_goOut_41 rfl (lv_at hl 0 rfl) ?_
          refine va_get (ci := 0) (v := .ref (a 3)) (C := RX0) (T := TX0) (N := 16) hx hb hts hin hown hK hP 0 rfl rfl 3 (by decide) (hts (.fieldLink RX0 19 "CurfewDesk" "orderColour" "[I") (by decide +kernel)) (fun _ h9 => h9) rfl dX0_goOut_42 ?_
          refine lv_iload hx hb dX0_goOut_45 (lv_at hl 4 rfl) ?_
          refine w_iald hx hb hK hP 4 0 rfl rfl (f := (((p_go F sh j y nw i15).1) 3)) (j := i15) (by omega) (by omega) dX0_goOut_47 ?_
          rw [go_keep F sh j y nw 3 (by decide) (by decide) i15]
          obtain ⟨k, hk, ek⟩ := H3 i15 hlt_i15
          rw [ek]
          refine w_in_i (va_runV (As := [.int (nI j), .int (nI k)]) (rest := []) ⟨hx, hb, hml, hown, hts⟩ (c_X0_useStamp l G cI cZ h a ((p_go F sh j y nw i15).1) nq no np sh nw H.size j k (by omega) (by omega)) (cwV 2 hts gX0_goOut_X0_useStamp rfl rfl rfl (by decide +kernel) ⟨(Nat.le_of_ble_eq_true rfl), (Nat.le_of_ble_eq_true rfl)⟩) ⟨wPre_blind, va_recv hK hP (ci := 0) (q0 := 0) rfl rfl, w_pre hK hP hD⟩ rfl rfl hl.1 rfl (lv_room (Nat.le_of_ble_eq_true rfl)) dX0_goOut_48 ⟨(Nat.le_of_ble_eq_true rfl), (Nat.le_of_ble_eq_true rfl)⟩) hD hS hA (fun r48 u48 H locs hw48 hP hD hS => ?_)
          have hP : va_P G vwCl (Dk cI cZ h a (p_us ((p_go F sh j y nw i15).1) j k) nq no np sh nw) H := hP
          have hD : va_D A (Dk cI cZ h a (p_us ((p_go F sh j y nw i15).1) j k) nq no np sh nw) := hD
          have hw48 : r48 = b2i (!decide (((p_go F sh j y nw i15).1) 9 (j * 4 + k) = 0)) := hw48
          subst hw48
          refine lv_if_ne (tgt := 56) hx hb dX0_goOut_51 (by decide) (fun c51 => ?_) (fun c51 => ?_)
          · have c51 := b2i_1.mp c51
            refine lv_iinc (v := nI i15 + 1) (lv' := [(4, .int (nI i15 + 1)), (0, .ref h), (1, .int (nI j)), (2, .int y), (3, .int (b2i ((p_go F sh j y nw i15).2)))]) hx hb dX0_goOut_56 hl (k := 4) rfl rfl (by decide) rfl (fun ls hl => ?_)
            refine lv_goto (tgt := 15) hx hb dX0_goOut_59 (by decide) ?_
            have eG : p_go F sh j y nw (i15 + 1) = (p_us (p_go F sh j y nw i15).1 j k, (p_go F sh j y nw i15).2 || decide ((p_go F sh j y nw i15).1 9 (j * 4 + k) = 0)) := by rw [p_go, if_pos c36, ek, nI_clamp (show k < 2 ^ 31 by omega)]
            have hP : va_P G vwCl (Dk cI cZ h a (p_go F sh j y nw (i15 + 1)).1 nq no np sh nw) H := by rw [eG]; exact hP
            have hD : va_D A (Dk cI cZ h a (p_go F sh j y nw (i15 + 1)).1 nq no np sh nw) := by rw [eG]; exact hD
            exact ih15 (i15 + 1) (by omega) (by omega) (b2i ((p_go F sh j y nw i15).2)) (nI i15 + 1) (by rw [eG]; simp only [Bool.not_eq_true', decide_eq_false_iff_not] at c51; rw [decide_eq_false c51, Bool.or_false]) (by first | exact nI_1 _ | exact nct_t (by assumption) | exact nct_f (by assumption) | exact nct_b | rfl) _ _ hP hD hS _ (lv_sub hl [1, 2, 3, 4, 0] rfl)
          · have c51 := b2i_0.mp c51
            refine lv_iconst (v := 1) hx hb dX0_goOut_54 (by decide) ?_
            refine lv_istore_n (lv' := [(3, .int 1), (0, .ref h), (1, .int (nI j)), (2, .int y), (4, .int (nI i15))]) hx hb dX0_goOut_55 rfl hl (by decide) rfl (fun ls hl => ?_)
            refine lv_iinc (v := nI i15 + 1) (lv' := [(4, .int (nI i15 + 1)), (3, .int 1), (0, .ref h), (1, .int (nI j)), (2, .int y)]) hx hb dX0_goOut_56 hl (k := 4) rfl rfl (by decide) rfl (fun ls hl => ?_)
            refine lv_goto (tgt := 15) hx hb dX0_goOut_59 (by decide) ?_
            have eG : p_go F sh j y nw (i15 + 1) = (p_us (p_go F sh j y nw i15).1 j k, (p_go F sh j y nw i15).2 || decide ((p_go F sh j y nw i15).1 9 (j * 4 + k) = 0)) := by rw [p_go, if_pos c36, ek, nI_clamp (show k < 2 ^ 31 by omega)]
            have hP : va_P G vwCl (Dk cI cZ h a (p_go F sh j y nw (i15 + 1)).1 nq no np sh nw) H := by rw [eG]; exact hP
            have hD : va_D A (Dk cI cZ h a (p_go F sh j y nw (i15 + 1)).1 nq no np sh nw) := by rw [eG]; exact hD
            exact ih15 (i15 + 1) (by omega) (by omega) 1 (nI i15 + 1) (by rw [eG]; simp only [Bool.not_eq_false', decide_eq_true_eq] at c51; rw [decide_eq_true c51, Bool.or_true]; rfl) (by first | exact nI_1 _ | exact nct_t (by assumption) | exact nct_f (by assumption) | exact nct_b | rfl) _ _ hP hD hS _ (lv_sub hl [2, 3, 4, 1, 0] rfl)
  exact key15 (no + 1) 0 (by omega) (by omega) 0 0 (by first | rfl | simp [p_ct, p_sm, p_fl, p_fg, nI_0]) (by first | rfl | simp [p_ct, p_sm, p_fl, p_fg, nI_0]) _ _ hP hD hS _ (lv_sub hl [2, 3, 4, 1, 0] rfl)
