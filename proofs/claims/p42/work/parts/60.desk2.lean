set_option maxHeartbeats 4000000 in
set_option maxRecDepth 100000 in
theorem c_X0_stampPlace (l : Launch) (G : va_G) (sz : Nat) (p : Nat) (c : Nat) : Met l yX0_stampPlace wsX0_stampPlace ({ frames := 0, cells := 0, slots := 0, locals := 0 } : Room) (va_Pc [.int (nI p), .int (nI c)] (wPre G [] [] sz)) (va_Qi (fun (r : Int32) (_ : Unit) => r = nI (p * 4 + c)) (fun _ => wP G [] [] (va_A [] sz)) (va_A [] sz)) 0 0 (va_A [] sz) := by
  refine w_met (cc := cX0_stampPlace) (maxL := 2) (ret := (some .int)) (by decide) rfl (Nat.le_of_ble_eq_true rfl) ?_
  intro pg e s m below meth cd hx hb hml hr hts hown hlocks hnm hK hsz hP hD hA hS ls hl
  have hown : s.vm.findClass RX0 = some m.cls := hown
  have hl : lv_has ls 2 [(0, .int (nI p)), (1, .int (nI c))] := hl
  generalize hAe : va_A [] sz = A at hD hA hS ⊢
  refine lv_iload_n hx hb dX0_stampPlace_0 rfl (lv_at hl 0 rfl) ?_
  refine lv_iconst (v := 4) hx hb dX0_stampPlace_1 (by decide) ?_
  refine lv_imul hx hb dX0_stampPlace_2 ?_
  refine lv_iload_n hx hb dX0_stampPlace_3 rfl (lv_at hl 1 rfl) ?_
  refine lv_iadd hx hb dX0_stampPlace_4 ?_
  exact w_iret () hx hb hr hlocks hK hP hD hS (Nat.le_of_ble_eq_true rfl) (Nat.le_of_ble_eq_true rfl) dX0_stampPlace_5 (show (((nI p) * 4) + (nI c)) = nI (p * 4 + c) from by rw [show (4 : Int32) = nI 4 from rfl, pk_mul, nI_add])
set_option maxHeartbeats 4000000 in
set_option maxRecDepth 100000 in
theorem c_X0_exempts (l : Launch) (G : va_G) (cI cZ : ClassId) (h : Nat) (a : Nat → Nat) (F : Nat → Nat → Int32) (nq no np : Nat) (sh nw : Int32) (sz : Nat) (o : Nat) (tr : Int32) (ho : o < 10) : Met l yX0_exempts wsX0_exempts ({ frames := 0, cells := 0, slots := 0, locals := 0 } : Room) (va_Pc [.ref h, .int (nI o), .int tr] (wPre G (ty2 cI cZ) (Dk cI cZ h a F nq no np sh nw) sz)) (va_Qi (fun (r : Int32) (_ : Unit) => r = b2i (p_ex F o tr)) (fun _ => wP G (ty2 cI cZ) (Dk cI cZ h a F nq no np sh nw) (va_A (Dk cI cZ h a F nq no np sh nw) sz)) (va_A (Dk cI cZ h a F nq no np sh nw) sz)) 0 0 (va_A (Dk cI cZ h a F nq no np sh nw) sz) := by
  refine w_met (cc := cX0_exempts) (maxL := 3) (ret := (some .boolean)) (by decide) rfl (Nat.le_of_ble_eq_true rfl) ?_
  intro pg e s m below meth cd hx hb hml hr hts hown hlocks hnm hK hsz hP hD hA hS ls hl
  have hown : s.vm.findClass RX0 = some m.cls := hown
  have hin : ∀ w ∈ wsX00, w ∈ wsX0_exempts := by decide +kernel
  have hl : lv_has ls 3 [(0, .ref h), (1, .int (nI o)), (2, .int tr)] := hl
  generalize hAe : va_A (Dk cI cZ h a F nq no np sh nw) sz = A at hD hA hS ⊢
  refine lv_aload_n hx hb dX0_exempts_0 rfl (lv_at hl 0 rfl) ?_
  refine va_get (ci := 0) (v := .ref (a 5)) (C := RX0) (T := TX0) (N := 16) hx hb hts hin hown hK hP 0 rfl rfl 5 (by decide) (hts (.fieldLink RX0 26 "CurfewDesk" "orderExempt" "[I") (by decide +kernel)) (fun _ h9 => h9) rfl dX0_exempts_1 ?_
  refine lv_iload_n hx hb dX0_exempts_4 rfl (lv_at hl 1 rfl) ?_
  refine w_iald hx hb hK hP 6 0 rfl rfl (f := (F 5)) (j := o) (by omega) (by omega) dX0_exempts_5 ?_
  refine lv_iload_n hx hb dX0_exempts_6 rfl (lv_at hl 2 rfl) ?_
  refine lv_ishr hx hb dX0_exempts_7 ?_
  refine lv_iconst (v := 1) hx hb dX0_exempts_8 (by decide) ?_
  refine lv_iand hx hb dX0_exempts_9 ?_
  refine w_selE (v1 := 1) (v2 := 0) hx hb dX0_exempts_10 (by decide) dX0_exempts_13 (by decide) dX0_exempts_14 (by decide) dX0_exempts_17 (by decide) ?_
  rw [b2i_z]
  exact w_zret () hx hb hr hlocks hK hP hD hS (Nat.le_of_ble_eq_true rfl) (Nat.le_of_ble_eq_true rfl) dX0_exempts_18 (b2i_n _) (show (b2i (!decide ((((F 5) o) >>> (tr &&& 31)) &&& 1 = 0))) = b2i (p_ex F o tr) from by rfl)
set_option maxHeartbeats 4000000 in
set_option maxRecDepth 100000 in
theorem c_X0_bars (l : Launch) (G : va_G) (cI cZ : ClassId) (h : Nat) (a : Nat → Nat) (F : Nat → Nat → Int32) (nq no np : Nat) (sh nw : Int32) (sz : Nat) (o : Nat) (p : Nat) (q : Int32) (t : Int32) (ho : o < 10) (hp : p < 20) : Met l yX0_bars wsX0_bars ({ frames := 3, cells := 0, slots := 0, locals := 66 } : Room) (va_Pc [.ref h, .int (nI o), .int (nI p), .int q, .int t] (wPre G (ty2 cI cZ) (Dk cI cZ h a F nq no np sh nw) sz)) (va_Qi (fun (r : Int32) (_ : Unit) => r = b2i (p_bars F sh o p q t)) (fun _ => wP G (ty2 cI cZ) (Dk cI cZ h a F nq no np sh nw) (va_A (Dk cI cZ h a F nq no np sh nw) sz)) (va_A (Dk cI cZ h a F nq no np sh nw) sz)) 0 0 (va_A (Dk cI cZ h a F nq no np sh nw) sz) := by
  refine w_met (cc := cX0_bars) (maxL := 5) (ret := (some .boolean)) (by decide) rfl (Nat.le_of_ble_eq_true rfl) ?_
  intro pg e s m below meth cd hx hb hml hr hts hown hlocks hnm hK hsz hP hD hA hS ls hl
  have hown : s.vm.findClass RX0 = some m.cls := hown
  have hin : ∀ w ∈ wsX00, w ∈ wsX0_bars := by decide +kernel
  have hl : lv_has ls 5 [(0, .ref h), (1, .int (nI o)), (2, .int (nI p)), (3, .int q), (4, .int t)] := hl
  generalize hAe : va_A (Dk cI cZ h a F nq no np sh nw) sz = A at hD hA hS ⊢
  refine lv_aload_n hx hb dX0_bars_0 rfl (lv_at hl 0 rfl) ?_
  refine va_get (ci := 0) (v := .ref (a 0)) (C := RX0) (T := TX0) (N := 16) hx hb hts hin hown hK hP 0 rfl rfl 0 (by decide) (hts (.fieldLink RX0 9 "CurfewDesk" "orderQuarter" "[I") (by decide +kernel)) (fun _ h9 => h9) rfl dX0_bars_1 ?_
  refine lv_iload_n hx hb dX0_bars_4 rfl (lv_at hl 1 rfl) ?_
  refine w_iald hx hb hK hP 1 0 rfl rfl (f := (F 0)) (j := o) (by omega) (by omega) dX0_bars_5 ?_
  refine lv_iload_n hx hb dX0_bars_6 rfl (lv_at hl 3 rfl) ?_
  refine lv_icmp_ne (tgt := 47) hx hb dX0_bars_7 (by decide) (fun c7 => ?_) (fun c7 => ?_)
  · refine lv_iconst (v := 0) hx hb dX0_bars_47 (by decide) ?_
    exact w_zret () hx hb hr hlocks hK hP hD hS (Nat.le_of_ble_eq_true rfl) (Nat.le_of_ble_eq_true rfl) dX0_bars_48 rfl (show 0 = b2i (p_bars F sh o p q t) from by simp only [p_bars, p_on, decide_eq_false c7, Bool.not_true, Bool.not_false, Bool.true_or, Bool.false_or, Bool.or_true, Bool.or_false, Bool.true_and, Bool.false_and, Bool.and_true, Bool.and_false, b2i_T, b2i_F])
  · refine lv_aload_n hx hb dX0_bars_10 rfl (lv_at hl 0 rfl) ?_
    refine lv_iload_n hx hb dX0_bars_11 rfl (lv_at hl 1 rfl) ?_
    refine lv_aload_n hx hb dX0_bars_12 rfl (lv_at hl 0 rfl) ?_
    refine va_get (ci := 0) (v := .ref (a 6)) (C := RX0) (T := TX0) (N := 16) hx hb hts hin hown hK hP 0 rfl rfl 6 (by decide) (hts (.fieldLink RX0 29 "CurfewDesk" "personTrade" "[I") (by decide +kernel)) (fun _ h9 => h9) rfl dX0_bars_13 ?_
    refine lv_iload_n hx hb dX0_bars_16 rfl (lv_at hl 2 rfl) ?_
    refine w_iald hx hb hK hP 7 0 rfl rfl (f := (F 6)) (j := p) (by omega) (by omega) dX0_bars_17 ?_
    refine w_in_i (va_runV (As := [.int (nI o), .int ((F 6) p)]) (rest := []) ⟨hx, hb, hml, hown, hts⟩ (c_X0_exempts l G cI cZ h a F nq no np sh nw s.heap.size o ((F 6) p) (by omega)) (cwV 2 hts gX0_bars_X0_exempts rfl rfl rfl (by decide +kernel) ⟨(Nat.le_of_ble_eq_true rfl), (Nat.le_of_ble_eq_true rfl)⟩) ⟨wPre_blind, va_recv hK hP (ci := 0) (q0 := 0) rfl rfl, w_pre hK hP hD⟩ rfl rfl hl.1 rfl (lv_room (Nat.le_of_ble_eq_true rfl)) dX0_bars_18 ⟨(Nat.le_of_ble_eq_true rfl), (Nat.le_of_ble_eq_true rfl)⟩) hD hS hA (fun r18 u18 H locs hw18 hP hD hS => ?_)
    have hP : va_P G vwCl (Dk cI cZ h a F nq no np sh nw) H := hP
    have hD : va_D A (Dk cI cZ h a F nq no np sh nw) := hD
    have hw18 : r18 = b2i (p_ex F o ((F 6) p)) := hw18
    subst hw18
    refine lv_if_ne (tgt := 47) hx hb dX0_bars_21 (by decide) (fun c21 => ?_) (fun c21 => ?_)
    · have c21 := b2i_1.mp c21
      refine lv_iconst (v := 0) hx hb dX0_bars_47 (by decide) ?_
      exact w_zret () hx hb hr hlocks hK hP hD hS (Nat.le_of_ble_eq_true rfl) (Nat.le_of_ble_eq_true rfl) dX0_bars_48 rfl (show 0 = b2i (p_bars F sh o p q t) from by simp only [p_bars, p_on, decide_eq_true c7, c21, Bool.not_true, Bool.not_false, Bool.true_or, Bool.false_or, Bool.or_true, Bool.or_false, Bool.true_and, Bool.false_and, Bool.and_true, Bool.and_false, b2i_T, b2i_F])
    · have c21 := b2i_0.mp c21
      refine lv_aload_n hx hb dX0_bars_24 rfl (lv_at hl 0 rfl) ?_
      refine va_get (ci := 0) (v := .ref (a 4)) (C := RX0) (T := TX0) (N := 16) hx hb hts hin hown hK hP 0 rfl rfl 4 (by decide) (hts (.fieldLink RX0 22 "CurfewDesk" "orderInForce" "[Z") (by decide +kernel)) (fun _ h9 => h9) rfl dX0_bars_25 ?_
      refine lv_iload_n hx hb dX0_bars_28 rfl (lv_at hl 1 rfl) ?_
      refine w_zald hx hb hK hP 5 1 rfl rfl (f := (F 4)) (j := o) (by omega) (by omega) dX0_bars_29 ?_
      refine lv_if_eq (tgt := 47) hx hb dX0_bars_30 (by decide) (fun c30 => ?_) (fun c30 => ?_)
      · refine lv_iconst (v := 0) hx hb dX0_bars_47 (by decide) ?_
        exact w_zret () hx hb hr hlocks hK hP hD hS (Nat.le_of_ble_eq_true rfl) (Nat.le_of_ble_eq_true rfl) dX0_bars_48 rfl (show 0 = b2i (p_bars F sh o p q t) from by simp only [p_bars, p_on, decide_eq_true c7, c21, decide_eq_true c30, Bool.not_true, Bool.not_false, Bool.true_or, Bool.false_or, Bool.or_true, Bool.or_false, Bool.true_and, Bool.false_and, Bool.and_true, Bool.and_false, b2i_T, b2i_F])
      · refine lv_aload_n hx hb dX0_bars_33 rfl (lv_at hl 0 rfl) ?_
        refine lv_iload_n hx hb dX0_bars_34 rfl (lv_at hl 1 rfl) ?_
        refine lv_iload hx hb dX0_bars_35 (lv_at hl 4 rfl) ?_
        refine w_in_i (va_runV (As := [.int (nI o), .int t]) (rest := []) ⟨hx, hb, hml, hown, hts⟩ (c_X0_isInHours l G cI cZ h a F nq no np sh nw H.size o t (by omega)) (cwV 2 hts gX0_bars_X0_isInHours rfl rfl rfl (by decide +kernel) ⟨(Nat.le_of_ble_eq_true rfl), (Nat.le_of_ble_eq_true rfl)⟩) ⟨wPre_blind, va_recv hK hP (ci := 0) (q0 := 0) rfl rfl, w_pre hK hP hD⟩ rfl rfl hl.1 rfl (lv_room (Nat.le_of_ble_eq_true rfl)) dX0_bars_37 ⟨(Nat.le_of_ble_eq_true rfl), (Nat.le_of_ble_eq_true rfl)⟩) hD hS hA (fun r37 u37 H locs hw37 hP hD hS => ?_)
        have hP : va_P G vwCl (Dk cI cZ h a F nq no np sh nw) H := hP
        have hD : va_D A (Dk cI cZ h a F nq no np sh nw) := hD
        have hw37 : r37 = b2i (p_at F sh o t) := hw37
        subst hw37
        refine w_selE (v1 := 1) (v2 := 0) hx hb dX0_bars_40 (by decide) dX0_bars_43 (by decide) dX0_bars_44 (by decide) dX0_bars_47 (by decide) ?_
        rw [b2i_sel]
        exact w_zret () hx hb hr hlocks hK hP hD hS (Nat.le_of_ble_eq_true rfl) (Nat.le_of_ble_eq_true rfl) dX0_bars_48 (b2i_n _) (show (b2i (p_at F sh o t)) = b2i (p_bars F sh o p q t) from by simp only [p_bars, p_on, decide_eq_true c7, c21, decide_eq_false c30, Bool.not_true, Bool.not_false, Bool.true_or, Bool.false_or, Bool.or_true, Bool.or_false, Bool.true_and, Bool.false_and, Bool.and_true, Bool.and_false, b2i_T, b2i_F])
set_option maxHeartbeats 4000000 in
set_option maxRecDepth 100000 in
theorem c_X0_isFreeAt (l : Launch) (G : va_G) (cI cZ : ClassId) (h : Nat) (a : Nat → Nat) (F : Nat → Nat → Int32) (nq no np : Nat) (sh nw : Int32) (sz : Nat) (p : Nat) (q : Int32) (t : Int32) (hp : p < 20) (hno : no ≤ 10) : Met l yX0_isFreeAt wsX0_isFreeAt ({ frames := 4, cells := 0, slots := 0, locals := 90 } : Room) (va_Pc [.ref h, .int (nI p), .int q, .int t] (wPre G (ty2 cI cZ) (Dk cI cZ h a F nq no np sh nw) sz)) (va_Qi (fun (r : Int32) (_ : Unit) => r = b2i (decide (p_ag F sh no p q t = 0))) (fun _ => wP G (ty2 cI cZ) (Dk cI cZ h a F nq no np sh nw) (va_A (Dk cI cZ h a F nq no np sh nw) sz)) (va_A (Dk cI cZ h a F nq no np sh nw) sz)) 0 0 (va_A (Dk cI cZ h a F nq no np sh nw) sz) := by
  refine w_met (cc := cX0_isFreeAt) (maxL := 5) (ret := (some .boolean)) (by decide) rfl (Nat.le_of_ble_eq_true rfl) ?_
  intro pg e s m below meth cd hx hb hml hr hts hown hlocks hnm hK hsz hP hD hA hS ls hl
  have hown : s.vm.findClass RX0 = some m.cls := hown
  have hin : ∀ w ∈ wsX00, w ∈ wsX0_isFreeAt := by decide +kernel
  have hl : lv_has ls 5 [(0, .ref h), (1, .int (nI p)), (2, .int q), (3, .int t)] := hl
  generalize hAe : va_A (Dk cI cZ h a F nq no np sh nw) sz = A at hD hA hS ⊢
  refine lv_iconst (v := 0) hx hb dX0_isFreeAt_0 (by decide) ?_
  refine lv_istore (lv' := [(4, .int 0), (0, .ref h), (1, .int (nI p)), (2, .int q), (3, .int t)]) hx hb dX0_isFreeAt_1 hl (by decide) rfl (fun ls hl => ?_)
  have key3 : ∀ (n i3 : Nat), i3 ≤ no → no < i3 + n → (p_ct (fun o => p_bars F sh o p q t) i3 = 0) → ∀ (x4 : Int32), x4 = nI i3 → ∀ (H : Heap) (locs : List Loc), va_P G vwCl (Dk cI cZ h a F nq no np sh nw) H → va_D A (Dk cI cZ h a F nq no np sh nw) → va_S A s.heap H locs → ∀ ls : Array Slot, lv_has ls 5 [(0, .ref h), (1, .int (nI p)), (2, .int q), (3, .int t), (4, .int x4)] → W pg l e ({ frames := 4, cells := 0, slots := 0, locals := 90 } : Room) s m ([.ref h, .int (nI p), .int q, .int t] : List Value).toArray below meth cd H locs (0) (0) (MQ below (va_Qi (fun (r : Int32) (_ : Unit) => r = b2i (decide (p_ag F sh no p q t = 0))) (fun _ => wP G (ty2 cI cZ) (Dk cI cZ h a F nq no np sh nw) A) A) ([.ref h, .int (nI p), .int q, .int t] : List Value).toArray s 0 0 A) (F0 m 3 ls []) := by
    intro n
    induction n with
    | zero => intro i3 h1 h2; exact absurd h2 (by omega)
    | succ n ih3 =>
      intro i3 hi_i3 hn_i3 hv x4 e4 H locs hP hD hS ls hl
      subst e4
      refine lv_iload hx hb dX0_isFreeAt_3 (lv_at hl 4 rfl) ?_
      refine lv_aload_n hx hb dX0_isFreeAt_5 rfl (lv_at hl 0 rfl) ?_
      refine va_get (ci := 0) (v := .int (nI no)) (C := RX0) (T := TX0) (N := 16) hx hb hts hin hown hK hP 0 rfl rfl 12 (by decide) (hts (.fieldLink RX0 74 "CurfewDesk" "orderCount" "I") (by decide +kernel)) (fun _ h9 => h9) rfl dX0_isFreeAt_6 ?_
      refine lv_icmp_ge (tgt := 32) hx hb dX0_isFreeAt_9 (by decide) (fun c9 => ?_) (fun c9 => ?_)
      · have c9 := (nI_leI (a := no) (b := i3) (by omega) (by omega)).mp c9
        have ei : no = i3 := by omega
        subst ei
        refine lv_iconst (v := 1) hx hb dX0_isFreeAt_32 (by decide) ?_
        exact w_zret () hx hb hr hlocks hK hP hD hS (Nat.le_of_ble_eq_true rfl) (Nat.le_of_ble_eq_true rfl) dX0_isFreeAt_33 rfl (show 1 = b2i (decide (p_ag F sh no p q t = 0)) from by rw [p_ag, decide_eq_true hv]; rfl)
      · have c9 := mt (nI_leI (a := no) (b := i3) (by omega) (by omega)).mpr c9
        have hlt_i3 : i3 < no := by omega
        refine lv_aload_n hx hb dX0_isFreeAt_12 rfl (lv_at hl 0 rfl) ?_
        refine lv_iload hx hb dX0_isFreeAt_13 (lv_at hl 4 rfl) ?_
        refine lv_iload_n hx hb dX0_isFreeAt_15 rfl (lv_at hl 1 rfl) ?_
        refine lv_iload_n hx hb dX0_isFreeAt_16 rfl (lv_at hl 2 rfl) ?_
        refine lv_iload_n hx hb dX0_isFreeAt_17 rfl (lv_at hl 3 rfl) ?_
        refine w_in_i (va_runV (As := [.int (nI i3), .int (nI p), .int q, .int t]) (rest := []) ⟨hx, hb, hml, hown, hts⟩ (c_X0_bars l G cI cZ h a F nq no np sh nw H.size i3 p q t (by omega) (by omega)) (cwV 4 hts gX0_isFreeAt_X0_bars rfl rfl rfl (by decide +kernel) ⟨(Nat.le_of_ble_eq_true rfl), (Nat.le_of_ble_eq_true rfl)⟩) ⟨wPre_blind, va_recv hK hP (ci := 0) (q0 := 0) rfl rfl, w_pre hK hP hD⟩ rfl rfl hl.1 rfl (lv_room (Nat.le_of_ble_eq_true rfl)) dX0_isFreeAt_18 ⟨(Nat.le_of_ble_eq_true rfl), (Nat.le_of_ble_eq_true rfl)⟩) hD hS hA (fun r18 u18 H locs hw18 hP hD hS => ?_)
        have hP : va_P G vwCl (Dk cI cZ h a F nq no np sh nw) H := hP
        have hD : va_D A (Dk cI cZ h a F nq no np sh nw) := hD
        have hw18 : r18 = b2i (p_bars F sh i3 p q t) := hw18
        subst hw18
        refine lv_if_eq (tgt := 26) hx hb dX0_isFreeAt_21 (by decide) (fun c21 => ?_) (fun c21 => ?_)
        · have c21 := b2i_0.mp c21
          refine lv_iinc (v := nI i3 + 1) (lv' := [(4, .int (nI i3 + 1)), (0, .ref h), (1, .int (nI p)), (2, .int q), (3, .int t)]) hx hb dX0_isFreeAt_26 hl (k := 4) rfl rfl (by decide) rfl (fun ls hl => ?_)
          refine lv_goto (tgt := 3) hx hb dX0_isFreeAt_29 (by decide) ?_
          exact ih3 (i3 + 1) (by omega) (by omega) (by rw [ct_f c21]; exact hv) (nI i3 + 1) (by first | exact nI_1 _ | exact nct_t (by assumption) | exact nct_f (by assumption) | exact nct_b | rfl) _ _ hP hD hS _ (lv_sub hl [1, 2, 3, 4, 0] rfl)
        · have c21 := b2i_1.mp c21
          refine lv_iconst (v := 0) hx hb dX0_isFreeAt_24 (by decide) ?_
          exact w_zret () hx hb hr hlocks hK hP hD hS (Nat.le_of_ble_eq_true rfl) (Nat.le_of_ble_eq_true rfl) dX0_isFreeAt_25 rfl (show 0 = b2i (decide (p_ag F sh no p q t = 0)) from by rw [p_ag, decide_eq_false (ct_pos hlt_i3 c21)]; rfl)
  exact key3 (no + 1) 0 (by omega) (by omega) (by rfl) 0 (by first | rfl | simp [p_ct, p_sm, p_fl, p_fg, nI_0]) _ _ hP hD hS _ (lv_sub hl [1, 2, 3, 4, 0] rfl)
set_option maxHeartbeats 4000000 in
set_option maxRecDepth 100000 in
theorem c_X0_missing (l : Launch) (G : va_G) (cI cZ : ClassId) (h : Nat) (a : Nat → Nat) (F : Nat → Nat → Int32) (nq no np : Nat) (sh nw : Int32) (sz : Nat) (p : Nat) (q : Int32) (sp : Int32) (hp : p < 20) (hno : no ≤ 10) : Met l yX0_missing wsX0_missing ({ frames := 4, cells := 0, slots := 0, locals := 90 } : Room) (va_Pc [.ref h, .int (nI p), .int q, .int sp] (wPre G (ty2 cI cZ) (Dk cI cZ h a F nq no np sh nw) sz)) (va_Qi (fun (r : Int32) (_ : Unit) => r = p_miss F sh no p q nw sp) (fun _ => wP G (ty2 cI cZ) (Dk cI cZ h a F nq no np sh nw) (va_A (Dk cI cZ h a F nq no np sh nw) sz)) (va_A (Dk cI cZ h a F nq no np sh nw) sz)) 0 0 (va_A (Dk cI cZ h a F nq no np sh nw) sz) := by
  refine w_met (cc := cX0_missing) (maxL := 8) (ret := (some .int)) (by decide) rfl (Nat.le_of_ble_eq_true rfl) ?_
  intro pg e s m below meth cd hx hb hml hr hts hown hlocks hnm hK hsz hP hD hA hS ls hl
  have hown : s.vm.findClass RX0 = some m.cls := hown
  have hin : ∀ w ∈ wsX00, w ∈ wsX0_missing := by decide +kernel
  have hl : lv_has ls 8 [(0, .ref h), (1, .int (nI p)), (2, .int q), (3, .int sp)] := hl
  generalize hAe : va_A (Dk cI cZ h a F nq no np sh nw) sz = A at hD hA hS ⊢
  refine lv_iconst (v := 0) hx hb dX0_missing_0 (by decide) ?_
  refine lv_istore (lv' := [(4, .int 0), (0, .ref h), (1, .int (nI p)), (2, .int q), (3, .int sp)]) hx hb dX0_missing_1 hl (by decide) rfl (fun ls hl => ?_)
  refine lv_iconst (v := 0) hx hb dX0_missing_3 (by decide) ?_
  refine lv_istore (lv' := [(5, .int 0), (4, .int 0), (0, .ref h), (1, .int (nI p)), (2, .int q), (3, .int sp)]) hx hb dX0_missing_4 hl (by decide) rfl (fun ls hl => ?_)
  have key6 : ∀ (n i6 : Nat), i6 ≤ 4 → 4 < i6 + n → ∀ (x4 : Int32) (x5 : Int32), x4 = p_sm (p_lack F sh no p q nw sp) i6 → x5 = nI i6 → ∀ (H : Heap) (locs : List Loc), va_P G vwCl (Dk cI cZ h a F nq no np sh nw) H → va_D A (Dk cI cZ h a F nq no np sh nw) → va_S A s.heap H locs → ∀ ls : Array Slot, lv_has ls 8 [(0, .ref h), (1, .int (nI p)), (2, .int q), (3, .int sp), (4, .int x4), (5, .int x5)] → W pg l e ({ frames := 4, cells := 0, slots := 0, locals := 90 } : Room) s m ([.ref h, .int (nI p), .int q, .int sp] : List Value).toArray below meth cd H locs (0) (0) (MQ below (va_Qi (fun (r : Int32) (_ : Unit) => r = p_miss F sh no p q nw sp) (fun _ => wP G (ty2 cI cZ) (Dk cI cZ h a F nq no np sh nw) A) A) ([.ref h, .int (nI p), .int q, .int sp] : List Value).toArray s 0 0 A) (F0 m 6 ls []) := by
    intro n
    induction n with
    | zero => intro i6 h1 h2; exact absurd h2 (by omega)
    | succ n ih6 =>
      intro i6 hi_i6 hn_i6 x4 x5 e4 e5 H locs hP hD hS ls hl
      subst e4 e5
      refine lv_iload hx hb dX0_missing_6 (lv_at hl 5 rfl) ?_
      refine lv_iconst (v := 4) hx hb dX0_missing_8 (by decide) ?_
      refine lv_icmp_ge (tgt := 98) hx hb dX0_missing_9 (by decide) (fun c9 => ?_) (fun c9 => ?_)
      · have c9 := (nI_leI (a := 4) (b := i6) (by omega) (by omega)).mp c9
        have ei : 4 = i6 := by omega
        subst ei
        refine lv_iload hx hb dX0_missing_98 (lv_at hl 4 rfl) ?_
        exact w_iret () hx hb hr hlocks hK hP hD hS (Nat.le_of_ble_eq_true rfl) (Nat.le_of_ble_eq_true rfl) dX0_missing_100 (show (p_sm (p_lack F sh no p q nw sp) 4) = p_miss F sh no p q nw sp from by rfl)
      · have c9 := mt (nI_leI (a := 4) (b := i6) (by omega) (by omega)).mpr c9
        have hlt_i6 : i6 < 4 := by omega
        refine lv_iconst (v := 0) hx hb dX0_missing_12 (by decide) ?_
        refine lv_istore (lv' := [(6, .int 0), (0, .ref h), (1, .int (nI p)), (2, .int q), (3, .int sp), (4, .int (p_sm (p_lack F sh no p q nw sp) i6)), (5, .int (nI i6))]) hx hb dX0_missing_13 hl (by decide) rfl (fun ls hl => ?_)
        refine lv_iconst (v := 0) hx hb dX0_missing_15 (by decide) ?_
        refine lv_istore (lv' := [(7, .int 0), (6, .int 0), (0, .ref h), (1, .int (nI p)), (2, .int q), (3, .int sp), (4, .int (p_sm (p_lack F sh no p q nw sp) i6)), (5, .int (nI i6))]) hx hb dX0_missing_16 hl (by decide) rfl (fun ls hl => ?_)
        have key18 : ∀ (n i18 : Nat), i18 ≤ no → no < i18 + n → ∀ (x6 : Int32) (x7 : Int32), x6 = nI (p_ct (p_need F sh p q nw sp i6) i18) → x7 = nI i18 → ∀ (H : Heap) (locs : List Loc), va_P G vwCl (Dk cI cZ h a F nq no np sh nw) H → va_D A (Dk cI cZ h a F nq no np sh nw) → va_S A s.heap H locs → ∀ ls : Array Slot, lv_has ls 8 [(0, .ref h), (1, .int (nI p)), (2, .int q), (3, .int sp), (4, .int (p_sm (p_lack F sh no p q nw sp) i6)), (5, .int (nI i6)), (6, .int x6), (7, .int x7)] → W pg l e ({ frames := 4, cells := 0, slots := 0, locals := 90 } : Room) s m ([.ref h, .int (nI p), .int q, .int sp] : List Value).toArray below meth cd H locs (0) (0) (MQ below (va_Qi (fun (r : Int32) (_ : Unit) => r = p_miss F sh no p q nw sp) (fun _ => wP G (ty2 cI cZ) (Dk cI cZ h a F nq no np sh nw) A) A) ([.ref h, .int (nI p), .int q, .int sp] : List Value).toArray s 0 0 A) (F0 m 18 ls []) := by
          intro n
          induction n with
          | zero => intro i18 h1 h2; exact absurd h2 (by omega)
          | succ n ih18 =>
            intro i18 hi_i18 hn_i18 x6 x7 e6 e7 H locs hP hD hS ls hl
            subst e6 e7
            refine lv_iload hx hb dX0_missing_18 (lv_at hl 7 rfl) ?_
            refine lv_aload_n hx hb dX0_missing_20 rfl (lv_at hl 0 rfl) ?_
            refine va_get (ci := 0) (v := .int (nI no)) (C := RX0) (T := TX0) (N := 16) hx hb hts hin hown hK hP 0 rfl rfl 12 (by decide) (hts (.fieldLink RX0 74 "CurfewDesk" "orderCount" "I") (by decide +kernel)) (fun _ h9 => h9) rfl dX0_missing_21 ?_
            refine lv_icmp_ge (tgt := 69) hx hb dX0_missing_24 (by decide) (fun c24 => ?_) (fun c24 => ?_)
            · have c24 := (nI_leI (a := no) (b := i18) (by omega) (by omega)).mp c24
              have ei : no = i18 := by omega
              subst ei
              refine lv_iload hx hb dX0_missing_69 (lv_at hl 4 rfl) ?_
              refine lv_iconst (v := 0) hx hb dX0_missing_71 (by decide) ?_
              refine lv_iload hx hb dX0_missing_72 (lv_at hl 6 rfl) ?_
              refine lv_aload_n hx hb dX0_missing_74 rfl (lv_at hl 0 rfl) ?_
              refine va_get (ci := 0) (v := .ref (a 9)) (C := RX0) (T := TX0) (N := 16) hx hb hts hin hown hK hP 0 rfl rfl 9 (by decide) (hts (.fieldLink RX0 38 "CurfewDesk" "personStamps" "[I") (by decide +kernel)) (fun _ h9 => h9) rfl dX0_missing_75 ?_
              refine lv_iload_n hx hb dX0_missing_78 rfl (lv_at hl 1 rfl) ?_
              refine lv_iload hx hb dX0_missing_79 (lv_at hl 5 rfl) ?_
              refine w_st_i (va_runS (As := [.int (nI p), .int (nI i6)]) (rest := [.ref (a 9), .int (nI (p_ct (p_need F sh p q nw sp i6) no)), .int 0, .int (p_sm (p_lack F sh no p q nw sp) i6)]) ⟨hx, hb, hml, hown, hts⟩ (c_X0_stampPlace l G H.size p i6 ) (va_cwS 2 hts gX0_missing_X0_stampPlace rfl rfl rfl (by decide +kernel) ⟨(Nat.le_of_ble_eq_true rfl), (Nat.le_of_ble_eq_true rfl)⟩) ⟨wPre_blind, w_pre (hK.sub [] rfl) w_P0 (w_D0 (A := A))⟩ rfl rfl hl.1 rfl (lv_room (Nat.le_of_ble_eq_true rfl)) dX0_missing_81 ⟨(Nat.le_of_ble_eq_true rfl), (Nat.le_of_ble_eq_true rfl)⟩) hP hS hA (fun r81 u81 H locs hw81 hP hS => ?_)
              have hw81 : r81 = nI (p * 4 + i6) := hw81
              subst hw81
              refine w_iald hx hb hK hP 10 0 rfl rfl (f := (F 9)) (j := (p * 4 + i6)) (by omega) (by omega) dX0_missing_84 ?_
              refine lv_isub hx hb dX0_missing_85 ?_
              refine va_mmax hx hb (hml.trans hl.1.symm) hown (hts (.methodLink RX0 187 Lib.Math.max.name) (by decide +kernel)) (hts (.static Lib.Math.max.name) (by decide +kernel)) (hts (.initialized "java/lang/Math") (by decide +kernel)) (hts (.code Lib.Math.max.name Lib.Math.max.code 2 (some .int)) (by decide +kernel)) (Nat.le_of_ble_eq_true rfl) (Nat.le_of_ble_eq_true rfl) (Nat.le_of_ble_eq_true rfl) (Nat.le_of_ble_eq_true rfl) dX0_missing_86 ?_
              rw [← p_max0]
              refine lv_iadd hx hb dX0_missing_89 ?_
              refine lv_istore (lv' := [(4, .int ((p_sm (p_lack F sh no p q nw sp) i6) + (p_max0 ((nI (p_ct (p_need F sh p q nw sp i6) no)) - ((F 9) (p * 4 + i6)))))), (0, .ref h), (1, .int (nI p)), (2, .int q), (3, .int sp), (5, .int (nI i6)), (6, .int (nI (p_ct (p_need F sh p q nw sp i6) no))), (7, .int (nI no))]) hx hb dX0_missing_90 hl (by decide) rfl (fun ls hl => ?_)
              refine lv_iinc (v := nI i6 + 1) (lv' := [(5, .int (nI i6 + 1)), (4, .int ((p_sm (p_lack F sh no p q nw sp) i6) + (p_max0 ((nI (p_ct (p_need F sh p q nw sp i6) no)) - ((F 9) (p * 4 + i6)))))), (0, .ref h), (1, .int (nI p)), (2, .int q), (3, .int sp), (6, .int (nI (p_ct (p_need F sh p q nw sp i6) no))), (7, .int (nI no))]) hx hb dX0_missing_92 hl (k := 5) rfl rfl (by decide) rfl (fun ls hl => ?_)
              refine lv_goto (tgt := 6) hx hb dX0_missing_95 (by decide) ?_
              exact ih6 (i6 + 1) (by omega) (by omega) ((p_sm (p_lack F sh no p q nw sp) i6) + (p_max0 ((nI (p_ct (p_need F sh p q nw sp i6) no)) - ((F 9) (p * 4 + i6))))) (nI i6 + 1) (by rfl) (by first | exact nI_1 _ | exact nct_t (by assumption) | exact nct_f (by assumption) | exact nct_b | rfl) _ _ hP hD hS _ (lv_sub hl [2, 3, 4, 5, 1, 0] rfl)
            · have c24 := mt (nI_leI (a := no) (b := i18) (by omega) (by omega)).mpr c24
              have hlt_i18 : i18 < no := by omega
              refine lv_iload hx hb dX0_missing_27 (lv_at hl 7 rfl) ?_
              refine lv_iload_n hx hb dX0_missing_29 rfl (lv_at hl 3 rfl) ?_
              refine lv_icmp_eq (tgt := 63) hx hb dX0_missing_30 (by decide) (fun c30 => ?_) (fun c30 => ?_)
              · refine lv_iinc (v := nI i18 + 1) (lv' := [(7, .int (nI i18 + 1)), (0, .ref h), (1, .int (nI p)), (2, .int q), (3, .int sp), (4, .int (p_sm (p_lack F sh no p q nw sp) i6)), (5, .int (nI i6)), (6, .int (nI (p_ct (p_need F sh p q nw sp i6) i18)))]) hx hb dX0_missing_63 hl (k := 7) rfl rfl (by decide) rfl (fun ls hl => ?_)
                refine lv_goto (tgt := 18) hx hb dX0_missing_66 (by decide) ?_
                exact ih18 (i18 + 1) (by omega) (by omega) (nI (p_ct (p_need F sh p q nw sp i6) i18)) (nI i18 + 1) (by first | exact nct_t (by simp only [p_need, decide_eq_true c30, Bool.not_true, Bool.not_false, Bool.true_or, Bool.false_or, Bool.or_true, Bool.or_false, Bool.true_and, Bool.false_and, Bool.and_true, Bool.and_false, b2i_T, b2i_F]) | exact nct_f (by simp only [p_need, decide_eq_true c30, Bool.not_true, Bool.not_false, Bool.true_or, Bool.false_or, Bool.or_true, Bool.or_false, Bool.true_and, Bool.false_and, Bool.and_true, Bool.and_false, b2i_T, b2i_F])) (by first | exact nI_1 _ | exact nct_t (by assumption) | exact nct_f (by assumption) | exact nct_b | rfl) _ _ hP hD hS _ (lv_sub hl [1, 2, 3, 4, 5, 6, 7, 0] rfl)
              · refine lv_aload_n hx hb dX0_missing_33 rfl (lv_at hl 0 rfl) ?_
                refine va_get (ci := 0) (v := .ref (a 3)) (C := RX0) (T := TX0) (N := 16) hx hb hts hin hown hK hP 0 rfl rfl 3 (by decide) (hts (.fieldLink RX0 19 "CurfewDesk" "orderColour" "[I") (by decide +kernel)) (fun _ h9 => h9) rfl dX0_missing_34 ?_
                refine lv_iload hx hb dX0_missing_37 (lv_at hl 7 rfl) ?_
                refine w_iald hx hb hK hP 4 0 rfl rfl (f := (F 3)) (j := i18) (by omega) (by omega) dX0_missing_39 ?_
                refine lv_iload hx hb dX0_missing_40 (lv_at hl 5 rfl) ?_
                refine lv_icmp_ne (tgt := 63) hx hb dX0_missing_42 (by decide) (fun c42 => ?_) (fun c42 => ?_)
                · refine lv_iinc (v := nI i18 + 1) (lv' := [(7, .int (nI i18 + 1)), (0, .ref h), (1, .int (nI p)), (2, .int q), (3, .int sp), (4, .int (p_sm (p_lack F sh no p q nw sp) i6)), (5, .int (nI i6)), (6, .int (nI (p_ct (p_need F sh p q nw sp i6) i18)))]) hx hb dX0_missing_63 hl (k := 7) rfl rfl (by decide) rfl (fun ls hl => ?_)
                  refine lv_goto (tgt := 18) hx hb dX0_missing_66 (by decide) ?_
                  exact ih18 (i18 + 1) (by omega) (by omega) (nI (p_ct (p_need F sh p q nw sp i6) i18)) (nI i18 + 1) (by first | exact nct_t (by simp only [p_need, decide_eq_false c30, decide_eq_false c42, Bool.not_true, Bool.not_false, Bool.true_or, Bool.false_or, Bool.or_true, Bool.or_false, Bool.true_and, Bool.false_and, Bool.and_true, Bool.and_false, b2i_T, b2i_F]) | exact nct_f (by simp only [p_need, decide_eq_false c30, decide_eq_false c42, Bool.not_true, Bool.not_false, Bool.true_or, Bool.false_or, Bool.or_true, Bool.or_false, Bool.true_and, Bool.false_and, Bool.and_true, Bool.and_false, b2i_T, b2i_F])) (by first | exact nI_1 _ | exact nct_t (by assumption) | exact nct_f (by assumption) | exact nct_b | rfl) _ _ hP hD hS _ (lv_sub hl [1, 2, 3, 4, 5, 6, 7, 0] rfl)
                · refine lv_aload_n hx hb dX0_missing_45 rfl (lv_at hl 0 rfl) ?_
                  refine lv_iload hx hb dX0_missing_46 (lv_at hl 7 rfl) ?_
                  refine lv_iload_n hx hb dX0_missing_48 rfl (lv_at hl 1 rfl) ?_
                  refine lv_iload_n hx hb dX0_missing_49 rfl (lv_at hl 2 rfl) ?_
                  refine lv_aload_n hx hb dX0_missing_50 rfl (lv_at hl 0 rfl) ?_
                  refine va_get (ci := 0) (v := .int nw) (C := RX0) (T := TX0) (N := 16) hx hb hts hin hown hK hP 0 rfl rfl 15 (by decide) (hts (.fieldLink RX0 101 "CurfewDesk" "now" "I") (by decide +kernel)) (fun _ h9 => h9) rfl dX0_missing_51 ?_
                  refine w_in_i (va_runV (As := [.int (nI i18), .int (nI p), .int q, .int nw]) (rest := []) ⟨hx, hb, hml, hown, hts⟩ (c_X0_bars l G cI cZ h a F nq no np sh nw H.size i18 p q nw (by omega) (by omega)) (cwV 4 hts gX0_missing_X0_bars rfl rfl rfl (by decide +kernel) ⟨(Nat.le_of_ble_eq_true rfl), (Nat.le_of_ble_eq_true rfl)⟩) ⟨wPre_blind, va_recv hK hP (ci := 0) (q0 := 0) rfl rfl, w_pre hK hP hD⟩ rfl rfl hl.1 rfl (lv_room (Nat.le_of_ble_eq_true rfl)) dX0_missing_54 ⟨(Nat.le_of_ble_eq_true rfl), (Nat.le_of_ble_eq_true rfl)⟩) hD hS hA (fun r54 u54 H locs hw54 hP hD hS => ?_)
                  have hP : va_P G vwCl (Dk cI cZ h a F nq no np sh nw) H := hP
                  have hD : va_D A (Dk cI cZ h a F nq no np sh nw) := hD
                  have hw54 : r54 = b2i (p_bars F sh i18 p q nw) := hw54
                  subst hw54
                  refine lv_if_eq (tgt := 63) hx hb dX0_missing_57 (by decide) (fun c57 => ?_) (fun c57 => ?_)
                  · have c57 := b2i_0.mp c57
                    refine lv_iinc (v := nI i18 + 1) (lv' := [(7, .int (nI i18 + 1)), (0, .ref h), (1, .int (nI p)), (2, .int q), (3, .int sp), (4, .int (p_sm (p_lack F sh no p q nw sp) i6)), (5, .int (nI i6)), (6, .int (nI (p_ct (p_need F sh p q nw sp i6) i18)))]) hx hb dX0_missing_63 hl (k := 7) rfl rfl (by decide) rfl (fun ls hl => ?_)
                    refine lv_goto (tgt := 18) hx hb dX0_missing_66 (by decide) ?_
                    exact ih18 (i18 + 1) (by omega) (by omega) (nI (p_ct (p_need F sh p q nw sp i6) i18)) (nI i18 + 1) (by first | exact nct_t (by simp only [p_need, decide_eq_false c30, decide_eq_true c42, c57, Bool.not_true, Bool.not_false, Bool.true_or, Bool.false_or, Bool.or_true, Bool.or_false, Bool.true_and, Bool.false_and, Bool.and_true, Bool.and_false, b2i_T, b2i_F]) | exact nct_f (by simp only [p_need, decide_eq_false c30, decide_eq_true c42, c57, Bool.not_true, Bool.not_false, Bool.true_or, Bool.false_or, Bool.or_true, Bool.or_false, Bool.true_and, Bool.false_and, Bool.and_true, Bool.and_false, b2i_T, b2i_F])) (by first | exact nI_1 _ | exact nct_t (by assumption) | exact nct_f (by assumption) | exact nct_b | rfl) _ _ hP hD hS _ (lv_sub hl [1, 2, 3, 4, 5, 6, 7, 0] rfl)
                  · have c57 := b2i_1.mp c57
                    refine lv_iinc (v := nI (p_ct (p_need F sh p q nw sp i6) i18) + 1) (lv' := [(6, .int (nI (p_ct (p_need F sh p q nw sp i6) i18) + 1)), (0, .ref h), (1, .int (nI p)), (2, .int q), (3, .int sp), (4, .int (p_sm (p_lack F sh no p q nw sp) i6)), (5, .int (nI i6)), (7, .int (nI i18))]) hx hb dX0_missing_60 hl (k := 6) rfl rfl (by decide) rfl (fun ls hl => ?_)
                    refine lv_iinc (v := nI i18 + 1) (lv' := [(7, .int (nI i18 + 1)), (6, .int (nI (p_ct (p_need F sh p q nw sp i6) i18) + 1)), (0, .ref h), (1, .int (nI p)), (2, .int q), (3, .int sp), (4, .int (p_sm (p_lack F sh no p q nw sp) i6)), (5, .int (nI i6))]) hx hb dX0_missing_63 hl (k := 7) rfl rfl (by decide) rfl (fun ls hl => ?_)
                    refine lv_goto (tgt := 18) hx hb dX0_missing_66 (by decide) ?_
                    exact ih18 (i18 + 1) (by omega) (by omega) (nI (p_ct (p_need F sh p q nw sp i6) i18) + 1) (nI i18 + 1) (by first | exact nct_t (by simp only [p_need, decide_eq_false c30, decide_eq_true c42, c57, Bool.not_true, Bool.not_false, Bool.true_or, Bool.false_or, Bool.or_true, Bool.or_false, Bool.true_and, Bool.false_and, Bool.and_true, Bool.and_false, b2i_T, b2i_F]) | exact nct_f (by simp only [p_need, decide_eq_false c30, decide_eq_true c42, c57, Bool.not_true, Bool.not_false, Bool.true_or, Bool.false_or, Bool.or_true, Bool.or_false, Bool.true_and, Bool.false_and, Bool.and_true, Bool.and_false, b2i_T, b2i_F])) (by first | exact nI_1 _ | exact nct_t (by assumption) | exact nct_f (by assumption) | exact nct_b | rfl) _ _ hP hD hS _ (lv_sub hl [2, 3, 4, 5, 6, 7, 1, 0] rfl)
        exact key18 (no + 1) 0 (by omega) (by omega) 0 0 (by first | rfl | simp [p_ct, p_sm, p_fl, p_fg, nI_0]) (by first | rfl | simp [p_ct, p_sm, p_fl, p_fg, nI_0]) _ _ hP hD hS _ (lv_sub hl [2, 3, 4, 5, 6, 7, 1, 0] rfl)
  exact key6 (4 + 1) 0 (by omega) (by omega) 0 0 (by first | rfl | simp [p_ct, p_sm, p_fl, p_fg, nI_0]) (by first | rfl | simp [p_ct, p_sm, p_fl, p_fg, nI_0]) _ _ hP hD hS _ (lv_sub hl [2, 3, 4, 5, 1, 0] rfl)
set_option maxHeartbeats 4000000 in
set_option maxRecDepth 100000 in
theorem c_X0_requireOrder (l : Launch) (G : va_G) (cI cZ : ClassId) (h : Nat) (a : Nat → Nat) (F : Nat → Nat → Int32) (nq no np : Nat) (sh nw : Int32) (sz : Nat) (x : Int32) (hno : no ≤ 10) (hx9 : p_in x no = true) : Met l yX0_requireOrder wsX0_requireOrder ({ frames := 0, cells := 0, slots := 0, locals := 0 } : Room) (va_Pc [.ref h, .int x] (wPre G (ty2 cI cZ) (Dk cI cZ h a F nq no np sh nw) sz)) (va_Qv (fun (_ : Unit) => True) (fun _ => wP G (ty2 cI cZ) (Dk cI cZ h a F nq no np sh nw) (va_A (Dk cI cZ h a F nq no np sh nw) sz)) (va_A (Dk cI cZ h a F nq no np sh nw) sz)) 0 0 (va_A (Dk cI cZ h a F nq no np sh nw) sz) := by
  refine w_met (cc := cX0_requireOrder) (maxL := 2) (ret := none) (by decide) rfl (Nat.le_of_ble_eq_true rfl) ?_
  intro pg e s m below meth cd hx hb hml hr hts hown hlocks hnm hK hsz hP hD hA hS ls hl
  have hown : s.vm.findClass RX0 = some m.cls := hown
  have hin : ∀ w ∈ wsX00, w ∈ wsX0_requireOrder := by decide +kernel
  have hl : lv_has ls 2 [(0, .ref h), (1, .int x)] := hl
  generalize hAe : va_A (Dk cI cZ h a F nq no np sh nw) sz = A at hD hA hS ⊢
  refine lv_iload_n hx hb dX0_requireOrder_0 rfl (lv_at hl 1 rfl) ?_
  refine lv_if_lt (tgt := 12) hx hb dX0_requireOrder_1 (by decide) (fun c1 => ?_) (fun c1 => ?_)
  · first | exact absurd hx9 (by rw [pin_ge (n := no) (by omega) c9]; decide) | exact absurd hx9 (by rw [pin_neg c1]; decide)
  · refine lv_iload_n hx hb dX0_requireOrder_4 rfl (lv_at hl 1 rfl) ?_
    refine lv_aload_n hx hb dX0_requireOrder_5 rfl (lv_at hl 0 rfl) ?_
    refine va_get (ci := 0) (v := .int (nI no)) (C := RX0) (T := TX0) (N := 16) hx hb hts hin hown hK hP 0 rfl rfl 12 (by decide) (hts (.fieldLink RX0 74 "CurfewDesk" "orderCount" "I") (by decide +kernel)) (fun _ h9 => h9) rfl dX0_requireOrder_6 ?_
    refine lv_icmp_lt (tgt := 22) hx hb dX0_requireOrder_9 (by decide) (fun c9 => ?_) (fun c9 => ?_)
    · exact w_vret () hx hb hr hlocks hK hP hD hS (Nat.le_of_ble_eq_true rfl) (Nat.le_of_ble_eq_true rfl) dX0_requireOrder_22 trivial
    · first | exact absurd hx9 (by rw [pin_ge (n := no) (by omega) c9]; decide) | exact absurd hx9 (by rw [pin_neg c1]; decide)
set_option maxHeartbeats 4000000 in
set_option maxRecDepth 100000 in
theorem c_X0_requirePerson (l : Launch) (G : va_G) (cI cZ : ClassId) (h : Nat) (a : Nat → Nat) (F : Nat → Nat → Int32) (nq no np : Nat) (sh nw : Int32) (sz : Nat) (x : Int32) (hnp : np ≤ 20) (hx9 : p_in x np = true) : Met l yX0_requirePerson wsX0_requirePerson ({ frames := 0, cells := 0, slots := 0, locals := 0 } : Room) (va_Pc [.ref h, .int x] (wPre G (ty2 cI cZ) (Dk cI cZ h a F nq no np sh nw) sz)) (va_Qv (fun (_ : Unit) => True) (fun _ => wP G (ty2 cI cZ) (Dk cI cZ h a F nq no np sh nw) (va_A (Dk cI cZ h a F nq no np sh nw) sz)) (va_A (Dk cI cZ h a F nq no np sh nw) sz)) 0 0 (va_A (Dk cI cZ h a F nq no np sh nw) sz) := by
  refine w_met (cc := cX0_requirePerson) (maxL := 2) (ret := none) (by decide) rfl (Nat.le_of_ble_eq_true rfl) ?_
  intro pg e s m below meth cd hx hb hml hr hts hown hlocks hnm hK hsz hP hD hA hS ls hl
  have hown : s.vm.findClass RX0 = some m.cls := hown
  have hin : ∀ w ∈ wsX00, w ∈ wsX0_requirePerson := by decide +kernel
  have hl : lv_has ls 2 [(0, .ref h), (1, .int x)] := hl
  generalize hAe : va_A (Dk cI cZ h a F nq no np sh nw) sz = A at hD hA hS ⊢
  refine lv_iload_n hx hb dX0_requirePerson_0 rfl (lv_at hl 1 rfl) ?_
  refine lv_if_lt (tgt := 12) hx hb dX0_requirePerson_1 (by decide) (fun c1 => ?_) (fun c1 => ?_)
  · first | exact absurd hx9 (by rw [pin_ge (n := np) (by omega) c9]; decide) | exact absurd hx9 (by rw [pin_neg c1]; decide)
  · refine lv_iload_n hx hb dX0_requirePerson_4 rfl (lv_at hl 1 rfl) ?_
    refine lv_aload_n hx hb dX0_requirePerson_5 rfl (lv_at hl 0 rfl) ?_
    refine va_get (ci := 0) (v := .int (nI np)) (C := RX0) (T := TX0) (N := 16) hx hb hts hin hown hK hP 0 rfl rfl 13 (by decide) (hts (.fieldLink RX0 59 "CurfewDesk" "personCount" "I") (by decide +kernel)) (fun _ h9 => h9) rfl dX0_requirePerson_6 ?_
    refine lv_icmp_lt (tgt := 22) hx hb dX0_requirePerson_9 (by decide) (fun c9 => ?_) (fun c9 => ?_)
    · exact w_vret () hx hb hr hlocks hK hP hD hS (Nat.le_of_ble_eq_true rfl) (Nat.le_of_ble_eq_true rfl) dX0_requirePerson_22 trivial
    · first | exact absurd hx9 (by rw [pin_ge (n := np) (by omega) c9]; decide) | exact absurd hx9 (by rw [pin_neg c1]; decide)
set_option maxHeartbeats 4000000 in
set_option maxRecDepth 100000 in
theorem c_X0_day (l : Launch) (G : va_G) (cI cZ : ClassId) (h : Nat) (a : Nat → Nat) (F : Nat → Nat → Int32) (nq no np : Nat) (sh nw : Int32) (sz : Nat) : Met l yX0_day wsX0_day ({ frames := 0, cells := 0, slots := 0, locals := 0 } : Room) (va_Pc [.ref h] (wPre G (ty2 cI cZ) (Dk cI cZ h a F nq no np sh nw) sz)) (va_Qi (fun (r : Int32) (_ : Unit) => r = nw / 48) (fun _ => wP G (ty2 cI cZ) (Dk cI cZ h a F nq no np sh nw) (va_A (Dk cI cZ h a F nq no np sh nw) sz)) (va_A (Dk cI cZ h a F nq no np sh nw) sz)) 0 0 (va_A (Dk cI cZ h a F nq no np sh nw) sz) := by
  refine w_met (cc := cX0_day) (maxL := 1) (ret := (some .int)) (by decide) rfl (Nat.le_of_ble_eq_true rfl) ?_
  intro pg e s m below meth cd hx hb hml hr hts hown hlocks hnm hK hsz hP hD hA hS ls hl
  have hown : s.vm.findClass RX0 = some m.cls := hown
  have hin : ∀ w ∈ wsX00, w ∈ wsX0_day := by decide +kernel
  have hl : lv_has ls 1 [(0, .ref h)] := hl
  generalize hAe : va_A (Dk cI cZ h a F nq no np sh nw) sz = A at hD hA hS ⊢
  refine lv_aload_n hx hb dX0_day_0 rfl (lv_at hl 0 rfl) ?_
  refine va_get (ci := 0) (v := .int nw) (C := RX0) (T := TX0) (N := 16) hx hb hts hin hown hK hP 0 rfl rfl 15 (by decide) (hts (.fieldLink RX0 101 "CurfewDesk" "now" "I") (by decide +kernel)) (fun _ h9 => h9) rfl dX0_day_1 ?_
  refine lv_bipush (v := 48) hx hb dX0_day_4 (by decide) ?_
  refine lv_idiv hx hb dX0_day_6 (by decide) ?_
  exact w_iret () hx hb hr hlocks hK hP hD hS (Nat.le_of_ble_eq_true rfl) (Nat.le_of_ble_eq_true rfl) dX0_day_7 (show (nw / 48) = nw / 48 from by rfl)
set_option maxHeartbeats 4000000 in
set_option maxRecDepth 100000 in
theorem c_X0_halfHour (l : Launch) (G : va_G) (cI cZ : ClassId) (h : Nat) (a : Nat → Nat) (F : Nat → Nat → Int32) (nq no np : Nat) (sh nw : Int32) (sz : Nat) : Met l yX0_halfHour wsX0_halfHour ({ frames := 0, cells := 0, slots := 0, locals := 0 } : Room) (va_Pc [.ref h] (wPre G (ty2 cI cZ) (Dk cI cZ h a F nq no np sh nw) sz)) (va_Qi (fun (r : Int32) (_ : Unit) => r = nw - nw / 48 * 48) (fun _ => wP G (ty2 cI cZ) (Dk cI cZ h a F nq no np sh nw) (va_A (Dk cI cZ h a F nq no np sh nw) sz)) (va_A (Dk cI cZ h a F nq no np sh nw) sz)) 0 0 (va_A (Dk cI cZ h a F nq no np sh nw) sz) := by
  refine w_met (cc := cX0_halfHour) (maxL := 1) (ret := (some .int)) (by decide) rfl (Nat.le_of_ble_eq_true rfl) ?_
  intro pg e s m below meth cd hx hb hml hr hts hown hlocks hnm hK hsz hP hD hA hS ls hl
  have hown : s.vm.findClass RX0 = some m.cls := hown
  have hin : ∀ w ∈ wsX00, w ∈ wsX0_halfHour := by decide +kernel
  have hl : lv_has ls 1 [(0, .ref h)] := hl
  generalize hAe : va_A (Dk cI cZ h a F nq no np sh nw) sz = A at hD hA hS ⊢
  refine lv_aload_n hx hb dX0_halfHour_0 rfl (lv_at hl 0 rfl) ?_
  refine va_get (ci := 0) (v := .int nw) (C := RX0) (T := TX0) (N := 16) hx hb hts hin hown hK hP 0 rfl rfl 15 (by decide) (hts (.fieldLink RX0 101 "CurfewDesk" "now" "I") (by decide +kernel)) (fun _ h9 => h9) rfl dX0_halfHour_1 ?_
  refine lv_bipush (v := 48) hx hb dX0_halfHour_4 (by decide) ?_
  refine lv_irem hx hb dX0_halfHour_6 (by decide) ?_
  exact w_iret () hx hb hr hlocks hK hP hD hS (Nat.le_of_ble_eq_true rfl) (Nat.le_of_ble_eq_true rfl) dX0_halfHour_7 (show (nw - nw / 48 * 48) = nw - nw / 48 * 48 from by rfl)
set_option maxHeartbeats 4000000 in
set_option maxRecDepth 100000 in
theorem c_X0_duskIn (l : Launch) (G : va_G) (cI cZ : ClassId) (h : Nat) (a : Nat → Nat) (F : Nat → Nat → Int32) (nq no np : Nat) (sh nw : Int32) (sz : Nat) (x : Int32) (hx9 : p_wi x 0 99 = true) : Met l yX0_duskIn wsX0_duskIn ({ frames := 2, cells := 0, slots := 0, locals := 42 } : Room) (va_Pc [.ref h, .int x] (wPre G (ty2 cI cZ) (Dk cI cZ h a F nq no np sh nw) sz)) (va_Qi (fun (r : Int32) (_ : Unit) => r = p_dusk (nw / 48 + x) sh) (fun _ => wP G (ty2 cI cZ) (Dk cI cZ h a F nq no np sh nw) (va_A (Dk cI cZ h a F nq no np sh nw) sz)) (va_A (Dk cI cZ h a F nq no np sh nw) sz)) 0 0 (va_A (Dk cI cZ h a F nq no np sh nw) sz) := by
  refine w_met (cc := cX0_duskIn) (maxL := 2) (ret := (some .int)) (by decide) rfl (Nat.le_of_ble_eq_true rfl) ?_
  intro pg e s m below meth cd hx hb hml hr hts hown hlocks hnm hK hsz hP hD hA hS ls hl
  have hown : s.vm.findClass RX0 = some m.cls := hown
  have hl : lv_has ls 2 [(0, .ref h), (1, .int x)] := hl
  generalize hAe : va_A (Dk cI cZ h a F nq no np sh nw) sz = A at hD hA hS ⊢
  refine lv_iload_n hx hb dX0_duskIn_0 rfl (lv_at hl 1 rfl) ?_
  refine lv_iconst (v := 0) hx hb dX0_duskIn_1 (by decide) ?_
  refine lv_bipush (v := 99) hx hb dX0_duskIn_2 (by decide) ?_
  refine w_st_v (va_runS (As := [.int x, .int 0, .int 99]) (rest := []) ⟨hx, hb, hml, hown, hts⟩ (c_X0_requireWithin l G s.heap.size x 0 99 (hx9)) (va_cwS 3 hts gX0_duskIn_X0_requireWithin rfl rfl rfl (by decide +kernel) ⟨(Nat.le_of_ble_eq_true rfl), (Nat.le_of_ble_eq_true rfl)⟩) ⟨wPre_blind, w_pre (hK.sub [] rfl) w_P0 (w_D0 (A := A))⟩ rfl rfl hl.1 rfl (lv_room (Nat.le_of_ble_eq_true rfl)) dX0_duskIn_4 ⟨(Nat.le_of_ble_eq_true rfl), (Nat.le_of_ble_eq_true rfl)⟩) hP hS hA (fun u4 H locs hw4 hP hS => ?_)
  refine lv_aload_n hx hb dX0_duskIn_7 rfl (lv_at hl 0 rfl) ?_
  refine lv_aload_n hx hb dX0_duskIn_8 rfl (lv_at hl 0 rfl) ?_
  refine w_in_i (va_runV (As := []) (rest := [.ref h]) ⟨hx, hb, hml, hown, hts⟩ (c_X0_day l G cI cZ h a F nq no np sh nw H.size ) (cwV 0 hts gX0_duskIn_X0_day rfl rfl rfl (by decide +kernel) ⟨(Nat.le_of_ble_eq_true rfl), (Nat.le_of_ble_eq_true rfl)⟩) ⟨wPre_blind, va_recv hK hP (ci := 0) (q0 := 0) rfl rfl, w_pre hK hP hD⟩ rfl rfl hl.1 rfl (lv_room (Nat.le_of_ble_eq_true rfl)) dX0_duskIn_9 ⟨(Nat.le_of_ble_eq_true rfl), (Nat.le_of_ble_eq_true rfl)⟩) hD hS hA (fun r9 u9 H locs hw9 hP hD hS => ?_)
  have hP : va_P G vwCl (Dk cI cZ h a F nq no np sh nw) H := hP
  have hD : va_D A (Dk cI cZ h a F nq no np sh nw) := hD
  have hw9 : r9 = nw / 48 := hw9
  subst hw9
  refine lv_iload_n hx hb dX0_duskIn_12 rfl (lv_at hl 1 rfl) ?_
  refine lv_iadd hx hb dX0_duskIn_13 ?_
  refine w_in_i (va_runV (As := [.int ((nw / 48) + x)]) (rest := []) ⟨hx, hb, hml, hown, hts⟩ (c_X0_duskOf l G cI cZ h a F nq no np sh nw H.size ((nw / 48) + x) ) (cwV 1 hts gX0_duskIn_X0_duskOf rfl rfl rfl (by decide +kernel) ⟨(Nat.le_of_ble_eq_true rfl), (Nat.le_of_ble_eq_true rfl)⟩) ⟨wPre_blind, va_recv hK hP (ci := 0) (q0 := 0) rfl rfl, w_pre hK hP hD⟩ rfl rfl hl.1 rfl (lv_room (Nat.le_of_ble_eq_true rfl)) dX0_duskIn_14 ⟨(Nat.le_of_ble_eq_true rfl), (Nat.le_of_ble_eq_true rfl)⟩) hD hS hA (fun r14 u14 H locs hw14 hP hD hS => ?_)
  have hP : va_P G vwCl (Dk cI cZ h a F nq no np sh nw) H := hP
  have hD : va_D A (Dk cI cZ h a F nq no np sh nw) := hD
  have hw14 : r14 = p_dusk ((nw / 48) + x) sh := hw14
  subst hw14
  exact w_iret () hx hb hr hlocks hK hP hD hS (Nat.le_of_ble_eq_true rfl) (Nat.le_of_ble_eq_true rfl) dX0_duskIn_17 (show (p_dusk ((nw / 48) + x) sh) = p_dusk (nw / 48 + x) sh from by first | exact ⟨by rw [hw4]; rfl, rfl⟩ | rfl)
set_option maxHeartbeats 4000000 in
set_option maxRecDepth 100000 in
theorem c_X0_dawnIn (l : Launch) (G : va_G) (cI cZ : ClassId) (h : Nat) (a : Nat → Nat) (F : Nat → Nat → Int32) (nq no np : Nat) (sh nw : Int32) (sz : Nat) (x : Int32) (hx9 : p_wi x 0 99 = true) : Met l yX0_dawnIn wsX0_dawnIn ({ frames := 2, cells := 0, slots := 0, locals := 41 } : Room) (va_Pc [.ref h, .int x] (wPre G (ty2 cI cZ) (Dk cI cZ h a F nq no np sh nw) sz)) (va_Qi (fun (r : Int32) (_ : Unit) => r = p_dawn (nw / 48 + x)) (fun _ => wP G (ty2 cI cZ) (Dk cI cZ h a F nq no np sh nw) (va_A (Dk cI cZ h a F nq no np sh nw) sz)) (va_A (Dk cI cZ h a F nq no np sh nw) sz)) 0 0 (va_A (Dk cI cZ h a F nq no np sh nw) sz) := by
  refine w_met (cc := cX0_dawnIn) (maxL := 2) (ret := (some .int)) (by decide) rfl (Nat.le_of_ble_eq_true rfl) ?_
  intro pg e s m below meth cd hx hb hml hr hts hown hlocks hnm hK hsz hP hD hA hS ls hl
  have hown : s.vm.findClass RX0 = some m.cls := hown
  have hl : lv_has ls 2 [(0, .ref h), (1, .int x)] := hl
  generalize hAe : va_A (Dk cI cZ h a F nq no np sh nw) sz = A at hD hA hS ⊢
  refine lv_iload_n hx hb dX0_dawnIn_0 rfl (lv_at hl 1 rfl) ?_
  refine lv_iconst (v := 0) hx hb dX0_dawnIn_1 (by decide) ?_
  refine lv_bipush (v := 99) hx hb dX0_dawnIn_2 (by decide) ?_
  refine w_st_v (va_runS (As := [.int x, .int 0, .int 99]) (rest := []) ⟨hx, hb, hml, hown, hts⟩ (c_X0_requireWithin l G s.heap.size x 0 99 (hx9)) (va_cwS 3 hts gX0_dawnIn_X0_requireWithin rfl rfl rfl (by decide +kernel) ⟨(Nat.le_of_ble_eq_true rfl), (Nat.le_of_ble_eq_true rfl)⟩) ⟨wPre_blind, w_pre (hK.sub [] rfl) w_P0 (w_D0 (A := A))⟩ rfl rfl hl.1 rfl (lv_room (Nat.le_of_ble_eq_true rfl)) dX0_dawnIn_4 ⟨(Nat.le_of_ble_eq_true rfl), (Nat.le_of_ble_eq_true rfl)⟩) hP hS hA (fun u4 H locs hw4 hP hS => ?_)
  refine lv_aload_n hx hb dX0_dawnIn_7 rfl (lv_at hl 0 rfl) ?_
  refine w_in_i (va_runV (As := []) (rest := []) ⟨hx, hb, hml, hown, hts⟩ (c_X0_day l G cI cZ h a F nq no np sh nw H.size ) (cwV 0 hts gX0_dawnIn_X0_day rfl rfl rfl (by decide +kernel) ⟨(Nat.le_of_ble_eq_true rfl), (Nat.le_of_ble_eq_true rfl)⟩) ⟨wPre_blind, va_recv hK hP (ci := 0) (q0 := 0) rfl rfl, w_pre hK hP hD⟩ rfl rfl hl.1 rfl (lv_room (Nat.le_of_ble_eq_true rfl)) dX0_dawnIn_8 ⟨(Nat.le_of_ble_eq_true rfl), (Nat.le_of_ble_eq_true rfl)⟩) hD hS hA (fun r8 u8 H locs hw8 hP hD hS => ?_)
  have hP : va_P G vwCl (Dk cI cZ h a F nq no np sh nw) H := hP
  have hD : va_D A (Dk cI cZ h a F nq no np sh nw) := hD
  have hw8 : r8 = nw / 48 := hw8
  subst hw8
  refine lv_iload_n hx hb dX0_dawnIn_11 rfl (lv_at hl 1 rfl) ?_
  refine lv_iadd hx hb dX0_dawnIn_12 ?_
  refine w_st_i (va_runS (As := [.int ((nw / 48) + x)]) (rest := []) ⟨hx, hb, hml, hown, hts⟩ (c_X0_dawnOf l G H.size ((nw / 48) + x) ) (va_cwS 1 hts gX0_dawnIn_X0_dawnOf rfl rfl rfl (by decide +kernel) ⟨(Nat.le_of_ble_eq_true rfl), (Nat.le_of_ble_eq_true rfl)⟩) ⟨wPre_blind, w_pre (hK.sub [] rfl) w_P0 (w_D0 (A := A))⟩ rfl rfl hl.1 rfl (lv_room (Nat.le_of_ble_eq_true rfl)) dX0_dawnIn_13 ⟨(Nat.le_of_ble_eq_true rfl), (Nat.le_of_ble_eq_true rfl)⟩) hP hS hA (fun r13 u13 H locs hw13 hP hS => ?_)
  have hw13 : r13 = p_dawn ((nw / 48) + x) := hw13
  subst hw13
  exact w_iret () hx hb hr hlocks hK hP hD hS (Nat.le_of_ble_eq_true rfl) (Nat.le_of_ble_eq_true rfl) dX0_dawnIn_16 (show (p_dawn ((nw / 48) + x)) = p_dawn (nw / 48 + x) from by first | exact ⟨by rw [hw4]; rfl, rfl⟩ | rfl)
set_option maxHeartbeats 4000000 in
set_option maxRecDepth 100000 in
theorem c_X0_quarters (l : Launch) (G : va_G) (cI cZ : ClassId) (h : Nat) (a : Nat → Nat) (F : Nat → Nat → Int32) (nq no np : Nat) (sh nw : Int32) (sz : Nat) : Met l yX0_quarters wsX0_quarters ({ frames := 0, cells := 0, slots := 0, locals := 0 } : Room) (va_Pc [.ref h] (wPre G (ty2 cI cZ) (Dk cI cZ h a F nq no np sh nw) sz)) (va_Qi (fun (r : Int32) (_ : Unit) => r = nI nq) (fun _ => wP G (ty2 cI cZ) (Dk cI cZ h a F nq no np sh nw) (va_A (Dk cI cZ h a F nq no np sh nw) sz)) (va_A (Dk cI cZ h a F nq no np sh nw) sz)) 0 0 (va_A (Dk cI cZ h a F nq no np sh nw) sz) := by
  refine w_met (cc := cX0_quarters) (maxL := 1) (ret := (some .int)) (by decide) rfl (Nat.le_of_ble_eq_true rfl) ?_
  intro pg e s m below meth cd hx hb hml hr hts hown hlocks hnm hK hsz hP hD hA hS ls hl
  have hown : s.vm.findClass RX0 = some m.cls := hown
  have hin : ∀ w ∈ wsX00, w ∈ wsX0_quarters := by decide +kernel
  have hl : lv_has ls 1 [(0, .ref h)] := hl
  generalize hAe : va_A (Dk cI cZ h a F nq no np sh nw) sz = A at hD hA hS ⊢
  refine lv_aload_n hx hb dX0_quarters_0 rfl (lv_at hl 0 rfl) ?_
  refine va_get (ci := 0) (v := .int (nI nq)) (C := RX0) (T := TX0) (N := 16) hx hb hts hin hown hK hP 0 rfl rfl 11 (by decide) (hts (.fieldLink RX0 44 "CurfewDesk" "quarterCount" "I") (by decide +kernel)) (fun _ h9 => h9) rfl dX0_quarters_1 ?_
  exact w_iret () hx hb hr hlocks hK hP hD hS (Nat.le_of_ble_eq_true rfl) (Nat.le_of_ble_eq_true rfl) dX0_quarters_4 (show (nI nq) = nI nq from by rfl)
set_option maxHeartbeats 4000000 in
set_option maxRecDepth 100000 in
theorem c_X0_orders (l : Launch) (G : va_G) (cI cZ : ClassId) (h : Nat) (a : Nat → Nat) (F : Nat → Nat → Int32) (nq no np : Nat) (sh nw : Int32) (sz : Nat) : Met l yX0_orders wsX0_orders ({ frames := 0, cells := 0, slots := 0, locals := 0 } : Room) (va_Pc [.ref h] (wPre G (ty2 cI cZ) (Dk cI cZ h a F nq no np sh nw) sz)) (va_Qi (fun (r : Int32) (_ : Unit) => r = nI no) (fun _ => wP G (ty2 cI cZ) (Dk cI cZ h a F nq no np sh nw) (va_A (Dk cI cZ h a F nq no np sh nw) sz)) (va_A (Dk cI cZ h a F nq no np sh nw) sz)) 0 0 (va_A (Dk cI cZ h a F nq no np sh nw) sz) := by
  refine w_met (cc := cX0_orders) (maxL := 1) (ret := (some .int)) (by decide) rfl (Nat.le_of_ble_eq_true rfl) ?_
  intro pg e s m below meth cd hx hb hml hr hts hown hlocks hnm hK hsz hP hD hA hS ls hl
  have hown : s.vm.findClass RX0 = some m.cls := hown
  have hin : ∀ w ∈ wsX00, w ∈ wsX0_orders := by decide +kernel
  have hl : lv_has ls 1 [(0, .ref h)] := hl
  generalize hAe : va_A (Dk cI cZ h a F nq no np sh nw) sz = A at hD hA hS ⊢
  refine lv_aload_n hx hb dX0_orders_0 rfl (lv_at hl 0 rfl) ?_
  refine va_get (ci := 0) (v := .int (nI no)) (C := RX0) (T := TX0) (N := 16) hx hb hts hin hown hK hP 0 rfl rfl 12 (by decide) (hts (.fieldLink RX0 74 "CurfewDesk" "orderCount" "I") (by decide +kernel)) (fun _ h9 => h9) rfl dX0_orders_1 ?_
  exact w_iret () hx hb hr hlocks hK hP hD hS (Nat.le_of_ble_eq_true rfl) (Nat.le_of_ble_eq_true rfl) dX0_orders_4 (show (nI no) = nI no from by rfl)
set_option maxHeartbeats 4000000 in
set_option maxRecDepth 100000 in
theorem c_X0_people (l : Launch) (G : va_G) (cI cZ : ClassId) (h : Nat) (a : Nat → Nat) (F : Nat → Nat → Int32) (nq no np : Nat) (sh nw : Int32) (sz : Nat) : Met l yX0_people wsX0_people ({ frames := 0, cells := 0, slots := 0, locals := 0 } : Room) (va_Pc [.ref h] (wPre G (ty2 cI cZ) (Dk cI cZ h a F nq no np sh nw) sz)) (va_Qi (fun (r : Int32) (_ : Unit) => r = nI np) (fun _ => wP G (ty2 cI cZ) (Dk cI cZ h a F nq no np sh nw) (va_A (Dk cI cZ h a F nq no np sh nw) sz)) (va_A (Dk cI cZ h a F nq no np sh nw) sz)) 0 0 (va_A (Dk cI cZ h a F nq no np sh nw) sz) := by
  refine w_met (cc := cX0_people) (maxL := 1) (ret := (some .int)) (by decide) rfl (Nat.le_of_ble_eq_true rfl) ?_
  intro pg e s m below meth cd hx hb hml hr hts hown hlocks hnm hK hsz hP hD hA hS ls hl
  have hown : s.vm.findClass RX0 = some m.cls := hown
  have hin : ∀ w ∈ wsX00, w ∈ wsX0_people := by decide +kernel
  have hl : lv_has ls 1 [(0, .ref h)] := hl
  generalize hAe : va_A (Dk cI cZ h a F nq no np sh nw) sz = A at hD hA hS ⊢
  refine lv_aload_n hx hb dX0_people_0 rfl (lv_at hl 0 rfl) ?_
  refine va_get (ci := 0) (v := .int (nI np)) (C := RX0) (T := TX0) (N := 16) hx hb hts hin hown hK hP 0 rfl rfl 13 (by decide) (hts (.fieldLink RX0 59 "CurfewDesk" "personCount" "I") (by decide +kernel)) (fun _ h9 => h9) rfl dX0_people_1 ?_
  exact w_iret () hx hb hr hlocks hK hP hD hS (Nat.le_of_ble_eq_true rfl) (Nat.le_of_ble_eq_true rfl) dX0_people_4 (show (nI np) = nI np from by rfl)
set_option maxHeartbeats 4000000 in
set_option maxRecDepth 100000 in
theorem c_X0_shift (l : Launch) (G : va_G) (cI cZ : ClassId) (h : Nat) (a : Nat → Nat) (F : Nat → Nat → Int32) (nq no np : Nat) (sh nw : Int32) (sz : Nat) : Met l yX0_shift wsX0_shift ({ frames := 0, cells := 0, slots := 0, locals := 0 } : Room) (va_Pc [.ref h] (wPre G (ty2 cI cZ) (Dk cI cZ h a F nq no np sh nw) sz)) (va_Qi (fun (r : Int32) (_ : Unit) => r = sh) (fun _ => wP G (ty2 cI cZ) (Dk cI cZ h a F nq no np sh nw) (va_A (Dk cI cZ h a F nq no np sh nw) sz)) (va_A (Dk cI cZ h a F nq no np sh nw) sz)) 0 0 (va_A (Dk cI cZ h a F nq no np sh nw) sz) := by
  refine w_met (cc := cX0_shift) (maxL := 1) (ret := (some .int)) (by decide) rfl (Nat.le_of_ble_eq_true rfl) ?_
  intro pg e s m below meth cd hx hb hml hr hts hown hlocks hnm hK hsz hP hD hA hS ls hl
  have hown : s.vm.findClass RX0 = some m.cls := hown
  have hin : ∀ w ∈ wsX00, w ∈ wsX0_shift := by decide +kernel
  have hl : lv_has ls 1 [(0, .ref h)] := hl
  generalize hAe : va_A (Dk cI cZ h a F nq no np sh nw) sz = A at hD hA hS ⊢
  refine lv_aload_n hx hb dX0_shift_0 rfl (lv_at hl 0 rfl) ?_
  refine va_get (ci := 0) (v := .int sh) (C := RX0) (T := TX0) (N := 16) hx hb hts hin hown hK hP 0 rfl rfl 14 (by decide) (hts (.fieldLink RX0 86 "CurfewDesk" "duskShift" "I") (by decide +kernel)) (fun _ h9 => h9) rfl dX0_shift_1 ?_
  exact w_iret () hx hb hr hlocks hK hP hD hS (Nat.le_of_ble_eq_true rfl) (Nat.le_of_ble_eq_true rfl) dX0_shift_4 (show sh = sh from by rfl)
set_option maxHeartbeats 4000000 in
set_option maxRecDepth 100000 in
theorem c_X0_ordersOn (l : Launch) (G : va_G) (cI cZ : ClassId) (h : Nat) (a : Nat → Nat) (F : Nat → Nat → Int32) (nq no np : Nat) (sh nw : Int32) (sz : Nat) (hno : no ≤ 10) : Met l yX0_ordersOn wsX0_ordersOn ({ frames := 4, cells := 0, slots := 0, locals := 88 } : Room) (va_Pc [.ref h] (wPre G (ty2 cI cZ) (Dk cI cZ h a F nq no np sh nw) sz)) (va_Qi (fun (r : Int32) (_ : Unit) => r = nI (p_mo F sh no nw)) (fun _ => wP G (ty2 cI cZ) (Dk cI cZ h a F nq no np sh nw) (va_A (Dk cI cZ h a F nq no np sh nw) sz)) (va_A (Dk cI cZ h a F nq no np sh nw) sz)) 0 0 (va_A (Dk cI cZ h a F nq no np sh nw) sz) := by
  refine w_met (cc := cX0_ordersOn) (maxL := 3) (ret := (some .int)) (by decide) rfl (Nat.le_of_ble_eq_true rfl) ?_
  intro pg e s m below meth cd hx hb hml hr hts hown hlocks hnm hK hsz hP hD hA hS ls hl
  have hown : s.vm.findClass RX0 = some m.cls := hown
  have hin : ∀ w ∈ wsX00, w ∈ wsX0_ordersOn := by decide +kernel
  have hl : lv_has ls 3 [(0, .ref h)] := hl
  generalize hAe : va_A (Dk cI cZ h a F nq no np sh nw) sz = A at hD hA hS ⊢
  refine lv_iconst (v := 0) hx hb dX0_ordersOn_0 (by decide) ?_
  refine lv_istore_n (lv' := [(1, .int 0), (0, .ref h)]) hx hb dX0_ordersOn_1 rfl hl (by decide) rfl (fun ls hl => ?_)
  refine lv_iconst (v := 0) hx hb dX0_ordersOn_2 (by decide) ?_
  refine lv_istore_n (lv' := [(2, .int 0), (1, .int 0), (0, .ref h)]) hx hb dX0_ordersOn_3 rfl hl (by decide) rfl (fun ls hl => ?_)
  have key4 : ∀ (n i4 : Nat), i4 ≤ no → no < i4 + n → ∀ (x1 : Int32) (x2 : Int32), x1 = nI (p_ct (fun o => p_on F sh o nw) i4) → x2 = nI i4 → ∀ (H : Heap) (locs : List Loc), va_P G vwCl (Dk cI cZ h a F nq no np sh nw) H → va_D A (Dk cI cZ h a F nq no np sh nw) → va_S A s.heap H locs → ∀ ls : Array Slot, lv_has ls 3 [(0, .ref h), (1, .int x1), (2, .int x2)] → W pg l e ({ frames := 4, cells := 0, slots := 0, locals := 88 } : Room) s m ([.ref h] : List Value).toArray below meth cd H locs (0) (0) (MQ below (va_Qi (fun (r : Int32) (_ : Unit) => r = nI (p_mo F sh no nw)) (fun _ => wP G (ty2 cI cZ) (Dk cI cZ h a F nq no np sh nw) A) A) ([.ref h] : List Value).toArray s 0 0 A) (F0 m 4 ls []) := by
    intro n
    induction n with
    | zero => intro i4 h1 h2; exact absurd h2 (by omega)
    | succ n ih4 =>
      intro i4 hi_i4 hn_i4 x1 x2 e1 e2 H locs hP hD hS ls hl
      subst e1 e2
      refine lv_iload_n hx hb dX0_ordersOn_4 rfl (lv_at hl 2 rfl) ?_
      refine lv_aload_n hx hb dX0_ordersOn_5 rfl (lv_at hl 0 rfl) ?_
      refine va_get (ci := 0) (v := .int (nI no)) (C := RX0) (T := TX0) (N := 16) hx hb hts hin hown hK hP 0 rfl rfl 12 (by decide) (hts (.fieldLink RX0 74 "CurfewDesk" "orderCount" "I") (by decide +kernel)) (fun _ h9 => h9) rfl dX0_ordersOn_6 ?_
      refine lv_icmp_ge (tgt := 33) hx hb dX0_ordersOn_9 (by decide) (fun c9 => ?_) (fun c9 => ?_)
      · have c9 := (nI_leI (a := no) (b := i4) (by omega) (by omega)).mp c9
        have ei : no = i4 := by omega
        subst ei
        refine lv_iload_n hx hb dX0_ordersOn_33 rfl (lv_at hl 1 rfl) ?_
        exact w_iret () hx hb hr hlocks hK hP hD hS (Nat.le_of_ble_eq_true rfl) (Nat.le_of_ble_eq_true rfl) dX0_ordersOn_34 (show (nI (p_ct (fun o => p_on F sh o nw) no)) = nI (p_mo F sh no nw) from by rfl)
      · have c9 := mt (nI_leI (a := no) (b := i4) (by omega) (by omega)).mpr c9
        have hlt_i4 : i4 < no := by omega
        refine lv_aload_n hx hb dX0_ordersOn_12 rfl (lv_at hl 0 rfl) ?_
        refine lv_iload_n hx hb dX0_ordersOn_13 rfl (lv_at hl 2 rfl) ?_
        refine lv_aload_n hx hb dX0_ordersOn_14 rfl (lv_at hl 0 rfl) ?_
        refine va_get (ci := 0) (v := .int nw) (C := RX0) (T := TX0) (N := 16) hx hb hts hin hown hK hP 0 rfl rfl 15 (by decide) (hts (.fieldLink RX0 101 "CurfewDesk" "now" "I") (by decide +kernel)) (fun _ h9 => h9) rfl dX0_ordersOn_15 ?_
        refine w_in_i (va_runV (As := [.int (nI i4), .int nw]) (rest := []) ⟨hx, hb, hml, hown, hts⟩ (c_X0_isOnAt l G cI cZ h a F nq no np sh nw H.size i4 nw (by omega)) (cwV 2 hts gX0_ordersOn_X0_isOnAt rfl rfl rfl (by decide +kernel) ⟨(Nat.le_of_ble_eq_true rfl), (Nat.le_of_ble_eq_true rfl)⟩) ⟨wPre_blind, va_recv hK hP (ci := 0) (q0 := 0) rfl rfl, w_pre hK hP hD⟩ rfl rfl hl.1 rfl (lv_room (Nat.le_of_ble_eq_true rfl)) dX0_ordersOn_18 ⟨(Nat.le_of_ble_eq_true rfl), (Nat.le_of_ble_eq_true rfl)⟩) hD hS hA (fun r18 u18 H locs hw18 hP hD hS => ?_)
        have hP : va_P G vwCl (Dk cI cZ h a F nq no np sh nw) H := hP
        have hD : va_D A (Dk cI cZ h a F nq no np sh nw) := hD
        have hw18 : r18 = b2i (p_on F sh i4 nw) := hw18
        subst hw18
        refine lv_if_eq (tgt := 27) hx hb dX0_ordersOn_21 (by decide) (fun c21 => ?_) (fun c21 => ?_)
        · have c21 := b2i_0.mp c21
          refine lv_iinc (v := nI i4 + 1) (lv' := [(2, .int (nI i4 + 1)), (0, .ref h), (1, .int (nI (p_ct (fun o => p_on F sh o nw) i4)))]) hx hb dX0_ordersOn_27 hl (k := 2) rfl rfl (by decide) rfl (fun ls hl => ?_)
          refine lv_goto (tgt := 4) hx hb dX0_ordersOn_30 (by decide) ?_
          exact ih4 (i4 + 1) (by omega) (by omega) (nI (p_ct (fun o => p_on F sh o nw) i4)) (nI i4 + 1) (by first | exact nI_1 _ | exact nct_t (by assumption) | exact nct_f (by assumption) | exact nct_b | rfl) (by first | exact nI_1 _ | exact nct_t (by assumption) | exact nct_f (by assumption) | exact nct_b | rfl) _ _ hP hD hS _ (lv_sub hl [1, 2, 0] rfl)
        · have c21 := b2i_1.mp c21
          refine lv_iinc (v := nI (p_ct (fun o => p_on F sh o nw) i4) + 1) (lv' := [(1, .int (nI (p_ct (fun o => p_on F sh o nw) i4) + 1)), (0, .ref h), (2, .int (nI i4))]) hx hb dX0_ordersOn_24 hl (k := 1) rfl rfl (by decide) rfl (fun ls hl => ?_)
          refine lv_iinc (v := nI i4 + 1) (lv' := [(2, .int (nI i4 + 1)), (1, .int (nI (p_ct (fun o => p_on F sh o nw) i4) + 1)), (0, .ref h)]) hx hb dX0_ordersOn_27 hl (k := 2) rfl rfl (by decide) rfl (fun ls hl => ?_)
          refine lv_goto (tgt := 4) hx hb dX0_ordersOn_30 (by decide) ?_
          exact ih4 (i4 + 1) (by omega) (by omega) (nI (p_ct (fun o => p_on F sh o nw) i4) + 1) (nI i4 + 1) (by first | exact nI_1 _ | exact nct_t (by assumption) | exact nct_f (by assumption) | exact nct_b | rfl) (by first | exact nI_1 _ | exact nct_t (by assumption) | exact nct_f (by assumption) | exact nct_b | rfl) _ _ hP hD hS _ (lv_sub hl [2, 1, 0] rfl)
  exact key4 (no + 1) 0 (by omega) (by omega) 0 0 (by first | rfl | simp [p_ct, p_sm, p_fl, p_fg, nI_0]) (by first | rfl | simp [p_ct, p_sm, p_fl, p_fg, nI_0]) _ _ hP hD hS _ (lv_sub hl [2, 1, 0] rfl)
set_option maxHeartbeats 4000000 in
set_option maxRecDepth 100000 in
theorem c_X0_allOwe (l : Launch) (G : va_G) (cI cZ : ClassId) (h : Nat) (a : Nat → Nat) (F : Nat → Nat → Int32) (nq no np : Nat) (sh nw : Int32) (sz : Nat) (hnp : np ≤ 20) : Met l yX0_allOwe wsX0_allOwe ({ frames := 0, cells := 0, slots := 0, locals := 0 } : Room) (va_Pc [.ref h] (wPre G (ty2 cI cZ) (Dk cI cZ h a F nq no np sh nw) sz)) (va_Qi (fun (r : Int32) (_ : Unit) => r = p_sm (F 8) np) (fun _ => wP G (ty2 cI cZ) (Dk cI cZ h a F nq no np sh nw) (va_A (Dk cI cZ h a F nq no np sh nw) sz)) (va_A (Dk cI cZ h a F nq no np sh nw) sz)) 0 0 (va_A (Dk cI cZ h a F nq no np sh nw) sz) := by
  refine w_met (cc := cX0_allOwe) (maxL := 3) (ret := (some .int)) (by decide) rfl (Nat.le_of_ble_eq_true rfl) ?_
  intro pg e s m below meth cd hx hb hml hr hts hown hlocks hnm hK hsz hP hD hA hS ls hl
  have hown : s.vm.findClass RX0 = some m.cls := hown
  have hin : ∀ w ∈ wsX00, w ∈ wsX0_allOwe := by decide +kernel
  have hl : lv_has ls 3 [(0, .ref h)] := hl
  generalize hAe : va_A (Dk cI cZ h a F nq no np sh nw) sz = A at hD hA hS ⊢
  refine lv_iconst (v := 0) hx hb dX0_allOwe_0 (by decide) ?_
  refine lv_istore_n (lv' := [(1, .int 0), (0, .ref h)]) hx hb dX0_allOwe_1 rfl hl (by decide) rfl (fun ls hl => ?_)
  refine lv_iconst (v := 0) hx hb dX0_allOwe_2 (by decide) ?_
  refine lv_istore_n (lv' := [(2, .int 0), (1, .int 0), (0, .ref h)]) hx hb dX0_allOwe_3 rfl hl (by decide) rfl (fun ls hl => ?_)
  have key4 : ∀ (n i4 : Nat), i4 ≤ np → np < i4 + n → ∀ (x1 : Int32) (x2 : Int32), x1 = p_sm (F 8) i4 → x2 = nI i4 → ∀ (H : Heap) (locs : List Loc), va_P G vwCl (Dk cI cZ h a F nq no np sh nw) H → va_D A (Dk cI cZ h a F nq no np sh nw) → va_S A s.heap H locs → ∀ ls : Array Slot, lv_has ls 3 [(0, .ref h), (1, .int x1), (2, .int x2)] → W pg l e ({ frames := 0, cells := 0, slots := 0, locals := 0 } : Room) s m ([.ref h] : List Value).toArray below meth cd H locs (0) (0) (MQ below (va_Qi (fun (r : Int32) (_ : Unit) => r = p_sm (F 8) np) (fun _ => wP G (ty2 cI cZ) (Dk cI cZ h a F nq no np sh nw) A) A) ([.ref h] : List Value).toArray s 0 0 A) (F0 m 4 ls []) := by
    intro n
    induction n with
    | zero => intro i4 h1 h2; exact absurd h2 (by omega)
    | succ n ih4 =>
      intro i4 hi_i4 hn_i4 x1 x2 e1 e2 H locs hP hD hS ls hl
      subst e1 e2
      refine lv_iload_n hx hb dX0_allOwe_4 rfl (lv_at hl 2 rfl) ?_
      refine lv_aload_n hx hb dX0_allOwe_5 rfl (lv_at hl 0 rfl) ?_
      refine va_get (ci := 0) (v := .int (nI np)) (C := RX0) (T := TX0) (N := 16) hx hb hts hin hown hK hP 0 rfl rfl 13 (by decide) (hts (.fieldLink RX0 59 "CurfewDesk" "personCount" "I") (by decide +kernel)) (fun _ h9 => h9) rfl dX0_allOwe_6 ?_
      refine lv_icmp_ge (tgt := 27) hx hb dX0_allOwe_9 (by decide) (fun c9 => ?_) (fun c9 => ?_)
      · have c9 := (nI_leI (a := np) (b := i4) (by omega) (by omega)).mp c9
        have ei : np = i4 := by omega
        subst ei
        refine lv_iload_n hx hb dX0_allOwe_27 rfl (lv_at hl 1 rfl) ?_
        exact w_iret () hx hb hr hlocks hK hP hD hS (Nat.le_of_ble_eq_true rfl) (Nat.le_of_ble_eq_true rfl) dX0_allOwe_28 (show (p_sm (F 8) np) = p_sm (F 8) np from by rfl)
      · have c9 := mt (nI_leI (a := np) (b := i4) (by omega) (by omega)).mpr c9
        have hlt_i4 : i4 < np := by omega
        refine lv_iload_n hx hb dX0_allOwe_12 rfl (lv_at hl 1 rfl) ?_
        refine lv_aload_n hx hb dX0_allOwe_13 rfl (lv_at hl 0 rfl) ?_
        refine va_get (ci := 0) (v := .ref (a 8)) (C := RX0) (T := TX0) (N := 16) hx hb hts hin hown hK hP 0 rfl rfl 8 (by decide) (hts (.fieldLink RX0 35 "CurfewDesk" "personOwes" "[I") (by decide +kernel)) (fun _ h9 => h9) rfl dX0_allOwe_14 ?_
        refine lv_iload_n hx hb dX0_allOwe_17 rfl (lv_at hl 2 rfl) ?_
        refine w_iald hx hb hK hP 9 0 rfl rfl (f := (F 8)) (j := i4) (by omega) (by omega) dX0_allOwe_18 ?_
        refine lv_iadd hx hb dX0_allOwe_19 ?_
        refine lv_istore_n (lv' := [(1, .int ((p_sm (F 8) i4) + ((F 8) i4))), (0, .ref h), (2, .int (nI i4))]) hx hb dX0_allOwe_20 rfl hl (by decide) rfl (fun ls hl => ?_)
        refine lv_iinc (v := nI i4 + 1) (lv' := [(2, .int (nI i4 + 1)), (1, .int ((p_sm (F 8) i4) + ((F 8) i4))), (0, .ref h)]) hx hb dX0_allOwe_21 hl (k := 2) rfl rfl (by decide) rfl (fun ls hl => ?_)
        refine lv_goto (tgt := 4) hx hb dX0_allOwe_24 (by decide) ?_
        exact ih4 (i4 + 1) (by omega) (by omega) ((p_sm (F 8) i4) + ((F 8) i4)) (nI i4 + 1) (by rfl) (by first | exact nI_1 _ | exact nct_t (by assumption) | exact nct_f (by assumption) | exact nct_b | rfl) _ _ hP hD hS _ (lv_sub hl [2, 1, 0] rfl)
  exact key4 (np + 1) 0 (by omega) (by omega) 0 0 (by first | rfl | simp [p_ct, p_sm, p_fl, p_fg, nI_0]) (by first | rfl | simp [p_ct, p_sm, p_fl, p_fg, nI_0]) _ _ hP hD hS _ (lv_sub hl [2, 1, 0] rfl)
set_option maxHeartbeats 4000000 in
set_option maxRecDepth 100000 in
theorem c_X0_barredBy (l : Launch) (G : va_G) (cI cZ : ClassId) (h : Nat) (a : Nat → Nat) (F : Nat → Nat → Int32) (nq no np : Nat) (sh nw : Int32) (sz : Nat) (x : Int32) (hno : no ≤ 10) (hnp : np ≤ 20) (hx9 : p_in x no = true) : Met l yX0_barredBy wsX0_barredBy ({ frames := 4, cells := 0, slots := 0, locals := 90 } : Room) (va_Pc [.ref h, .int x] (wPre G (ty2 cI cZ) (Dk cI cZ h a F nq no np sh nw) sz)) (va_Qi (fun (r : Int32) (_ : Unit) => r = nI (p_bd F sh np x.toNatClampNeg nw)) (fun _ => wP G (ty2 cI cZ) (Dk cI cZ h a F nq no np sh nw) (va_A (Dk cI cZ h a F nq no np sh nw) sz)) (va_A (Dk cI cZ h a F nq no np sh nw) sz)) 0 0 (va_A (Dk cI cZ h a F nq no np sh nw) sz) := by
  refine w_met (cc := cX0_barredBy) (maxL := 4) (ret := (some .int)) (by decide) rfl (Nat.le_of_ble_eq_true rfl) ?_
  intro pg e s m below meth cd hx hb hml hr hts hown hlocks hnm hK hsz hP hD hA hS ls hl
  have hown : s.vm.findClass RX0 = some m.cls := hown
  have hin : ∀ w ∈ wsX00, w ∈ wsX0_barredBy := by decide +kernel
  have hl : lv_has ls 4 [(0, .ref h), (1, .int x)] := hl
  generalize hAe : va_A (Dk cI cZ h a F nq no np sh nw) sz = A at hD hA hS ⊢
  refine lv_aload_n hx hb dX0_barredBy_0 rfl (lv_at hl 0 rfl) ?_
  refine lv_iload_n hx hb dX0_barredBy_1 rfl (lv_at hl 1 rfl) ?_
  refine w_in_v (va_runV (As := [.int x]) (rest := []) ⟨hx, hb, hml, hown, hts⟩ (c_X0_requireOrder l G cI cZ h a F nq no np sh nw s.heap.size x (by omega) (hx9)) (cwV 1 hts gX0_barredBy_X0_requireOrder rfl rfl rfl (by decide +kernel) ⟨(Nat.le_of_ble_eq_true rfl), (Nat.le_of_ble_eq_true rfl)⟩) ⟨wPre_blind, va_recv hK hP (ci := 0) (q0 := 0) rfl rfl, w_pre hK hP hD⟩ rfl rfl hl.1 rfl (lv_room (Nat.le_of_ble_eq_true rfl)) dX0_barredBy_2 ⟨(Nat.le_of_ble_eq_true rfl), (Nat.le_of_ble_eq_true rfl)⟩) hD hS hA (fun u2 H locs hw2 hP hD hS => ?_)
  have hP : va_P G vwCl (Dk cI cZ h a F nq no np sh nw) H := hP
  have hD : va_D A (Dk cI cZ h a F nq no np sh nw) := hD
  obtain ⟨j, hj, rfl⟩ := pin_of hx9
  refine lv_iconst (v := 0) hx hb dX0_barredBy_5 (by decide) ?_
  refine lv_istore_n (lv' := [(2, .int 0), (0, .ref h), (1, .int (nI j))]) hx hb dX0_barredBy_6 rfl hl (by decide) rfl (fun ls hl => ?_)
  refine lv_iconst (v := 0) hx hb dX0_barredBy_7 (by decide) ?_
  refine lv_istore_n (lv' := [(3, .int 0), (2, .int 0), (0, .ref h), (1, .int (nI j))]) hx hb dX0_barredBy_8 rfl hl (by decide) rfl (fun ls hl => ?_)
  have key9 : ∀ (n i9 : Nat), i9 ≤ np → np < i9 + n → ∀ (x2 : Int32) (x3 : Int32), x2 = nI (p_ct (fun p => p_bars F sh j p (F 0 j) nw) i9) → x3 = nI i9 → ∀ (H : Heap) (locs : List Loc), va_P G vwCl (Dk cI cZ h a F nq no np sh nw) H → va_D A (Dk cI cZ h a F nq no np sh nw) → va_S A s.heap H locs → ∀ ls : Array Slot, lv_has ls 4 [(0, .ref h), (1, .int (nI j)), (2, .int x2), (3, .int x3)] → W pg l e ({ frames := 4, cells := 0, slots := 0, locals := 90 } : Room) s m ([.ref h, .int (nI j)] : List Value).toArray below meth cd H locs (0 + 0) (0 + 0) (MQ below (va_Qi (fun (r : Int32) (_ : Unit) => r = nI (p_bd F sh np (nI j).toNatClampNeg nw)) (fun _ => wP G (ty2 cI cZ) (Dk cI cZ h a F nq no np sh nw) A) A) ([.ref h, .int (nI j)] : List Value).toArray s 0 0 A) (F0 m 9 ls []) := by
    intro n
    induction n with
    | zero => intro i9 h1 h2; exact absurd h2 (by omega)
    | succ n ih9 =>
      intro i9 hi_i9 hn_i9 x2 x3 e2 e3 H locs hP hD hS ls hl
      subst e2 e3
      refine lv_iload_n hx hb dX0_barredBy_9 rfl (lv_at hl 3 rfl) ?_
      refine lv_aload_n hx hb dX0_barredBy_10 rfl (lv_at hl 0 rfl) ?_
      refine va_get (ci := 0) (v := .int (nI np)) (C := RX0) (T := TX0) (N := 16) hx hb hts hin hown hK hP 0 rfl rfl 13 (by decide) (hts (.fieldLink RX0 59 "CurfewDesk" "personCount" "I") (by decide +kernel)) (fun _ h9 => h9) rfl dX0_barredBy_11 ?_
      refine lv_icmp_ge (tgt := 45) hx hb dX0_barredBy_14 (by decide) (fun c14 => ?_) (fun c14 => ?_)
      · have c14 := (nI_leI (a := np) (b := i9) (by omega) (by omega)).mp c14
        have ei : np = i9 := by omega
        subst ei
        refine lv_iload_n hx hb dX0_barredBy_45 rfl (lv_at hl 2 rfl) ?_
        exact w_iret () hx hb hr hlocks hK hP hD hS (Nat.le_of_ble_eq_true rfl) (Nat.le_of_ble_eq_true rfl) dX0_barredBy_46 (show (nI (p_ct (fun p => p_bars F sh j p (F 0 j) nw) np)) = nI (p_bd F sh np (nI j).toNatClampNeg nw) from by first | exact ⟨by rw [hw2]; rfl, by simp only [nI_clamp (show j < 2 ^ 31 by omega)]; rfl⟩ | (simp only [nI_clamp (show j < 2 ^ 31 by omega)]; rfl))
      · have c14 := mt (nI_leI (a := np) (b := i9) (by omega) (by omega)).mpr c14
        have hlt_i9 : i9 < np := by omega
        refine lv_aload_n hx hb dX0_barredBy_17 rfl (lv_at hl 0 rfl) ?_
        refine lv_iload_n hx hb dX0_barredBy_18 rfl (lv_at hl 1 rfl) ?_
        refine lv_iload_n hx hb dX0_barredBy_19 rfl (lv_at hl 3 rfl) ?_
        refine lv_aload_n hx hb dX0_barredBy_20 rfl (lv_at hl 0 rfl) ?_
        refine va_get (ci := 0) (v := .ref (a 0)) (C := RX0) (T := TX0) (N := 16) hx hb hts hin hown hK hP 0 rfl rfl 0 (by decide) (hts (.fieldLink RX0 9 "CurfewDesk" "orderQuarter" "[I") (by decide +kernel)) (fun _ h9 => h9) rfl dX0_barredBy_21 ?_
        refine lv_iload_n hx hb dX0_barredBy_24 rfl (lv_at hl 1 rfl) ?_
        refine w_iald hx hb hK hP 1 0 rfl rfl (f := (F 0)) (j := j) (by omega) (by omega) dX0_barredBy_25 ?_
        refine lv_aload_n hx hb dX0_barredBy_26 rfl (lv_at hl 0 rfl) ?_
        refine va_get (ci := 0) (v := .int nw) (C := RX0) (T := TX0) (N := 16) hx hb hts hin hown hK hP 0 rfl rfl 15 (by decide) (hts (.fieldLink RX0 101 "CurfewDesk" "now" "I") (by decide +kernel)) (fun _ h9 => h9) rfl dX0_barredBy_27 ?_
        refine w_in_i (va_runV (As := [.int (nI j), .int (nI i9), .int ((F 0) j), .int nw]) (rest := []) ⟨hx, hb, hml, hown, hts⟩ (c_X0_bars l G cI cZ h a F nq no np sh nw H.size j i9 ((F 0) j) nw (by omega) (by omega)) (cwV 4 hts gX0_barredBy_X0_bars rfl rfl rfl (by decide +kernel) ⟨(Nat.le_of_ble_eq_true rfl), (Nat.le_of_ble_eq_true rfl)⟩) ⟨wPre_blind, va_recv hK hP (ci := 0) (q0 := 0) rfl rfl, w_pre hK hP hD⟩ rfl rfl hl.1 rfl (lv_room (Nat.le_of_ble_eq_true rfl)) dX0_barredBy_30 ⟨(Nat.le_of_ble_eq_true rfl), (Nat.le_of_ble_eq_true rfl)⟩) hD hS hA (fun r30 u30 H locs hw30 hP hD hS => ?_)
        have hP : va_P G vwCl (Dk cI cZ h a F nq no np sh nw) H := hP
        have hD : va_D A (Dk cI cZ h a F nq no np sh nw) := hD
        have hw30 : r30 = b2i (p_bars F sh j i9 ((F 0) j) nw) := hw30
        subst hw30
        refine lv_if_eq (tgt := 39) hx hb dX0_barredBy_33 (by decide) (fun c33 => ?_) (fun c33 => ?_)
        · have c33 := b2i_0.mp c33
          refine lv_iinc (v := nI i9 + 1) (lv' := [(3, .int (nI i9 + 1)), (0, .ref h), (1, .int (nI j)), (2, .int (nI (p_ct (fun p => p_bars F sh j p (F 0 j) nw) i9)))]) hx hb dX0_barredBy_39 hl (k := 3) rfl rfl (by decide) rfl (fun ls hl => ?_)
          refine lv_goto (tgt := 9) hx hb dX0_barredBy_42 (by decide) ?_
          exact ih9 (i9 + 1) (by omega) (by omega) (nI (p_ct (fun p => p_bars F sh j p (F 0 j) nw) i9)) (nI i9 + 1) (by first | exact nI_1 _ | exact nct_t (by assumption) | exact nct_f (by assumption) | exact nct_b | rfl) (by first | exact nI_1 _ | exact nct_t (by assumption) | exact nct_f (by assumption) | exact nct_b | rfl) _ _ hP hD hS _ (lv_sub hl [1, 2, 3, 0] rfl)
        · have c33 := b2i_1.mp c33
          refine lv_iinc (v := nI (p_ct (fun p => p_bars F sh j p (F 0 j) nw) i9) + 1) (lv' := [(2, .int (nI (p_ct (fun p => p_bars F sh j p (F 0 j) nw) i9) + 1)), (0, .ref h), (1, .int (nI j)), (3, .int (nI i9))]) hx hb dX0_barredBy_36 hl (k := 2) rfl rfl (by decide) rfl (fun ls hl => ?_)
          refine lv_iinc (v := nI i9 + 1) (lv' := [(3, .int (nI i9 + 1)), (2, .int (nI (p_ct (fun p => p_bars F sh j p (F 0 j) nw) i9) + 1)), (0, .ref h), (1, .int (nI j))]) hx hb dX0_barredBy_39 hl (k := 3) rfl rfl (by decide) rfl (fun ls hl => ?_)
          refine lv_goto (tgt := 9) hx hb dX0_barredBy_42 (by decide) ?_
          exact ih9 (i9 + 1) (by omega) (by omega) (nI (p_ct (fun p => p_bars F sh j p (F 0 j) nw) i9) + 1) (nI i9 + 1) (by first | exact nI_1 _ | exact nct_t (by assumption) | exact nct_f (by assumption) | exact nct_b | rfl) (by first | exact nI_1 _ | exact nct_t (by assumption) | exact nct_f (by assumption) | exact nct_b | rfl) _ _ hP hD hS _ (lv_sub hl [2, 3, 1, 0] rfl)
  exact key9 (np + 1) 0 (by omega) (by omega) 0 0 (by first | rfl | simp [p_ct, p_sm, p_fl, p_fg, nI_0]) (by first | rfl | simp [p_ct, p_sm, p_fl, p_fg, nI_0]) _ _ hP hD hS _ (lv_sub hl [2, 3, 1, 0] rfl)
set_option maxHeartbeats 4000000 in
set_option maxRecDepth 100000 in
theorem c_X0_ordersAgainst (l : Launch) (G : va_G) (cI cZ : ClassId) (h : Nat) (a : Nat → Nat) (F : Nat → Nat → Int32) (nq no np : Nat) (sh nw : Int32) (sz : Nat) (x : Int32) (y : Int32) (hnq : nq ≤ 6) (hno : no ≤ 10) (hnp : np ≤ 20) (hx9 : p_in x np = true) (hy9 : p_in y nq = true) : Met l yX0_ordersAgainst wsX0_ordersAgainst ({ frames := 4, cells := 0, slots := 0, locals := 90 } : Room) (va_Pc [.ref h, .int x, .int y] (wPre G (ty2 cI cZ) (Dk cI cZ h a F nq no np sh nw) sz)) (va_Qi (fun (r : Int32) (_ : Unit) => r = nI (p_ag F sh no x.toNatClampNeg y nw)) (fun _ => wP G (ty2 cI cZ) (Dk cI cZ h a F nq no np sh nw) (va_A (Dk cI cZ h a F nq no np sh nw) sz)) (va_A (Dk cI cZ h a F nq no np sh nw) sz)) 0 0 (va_A (Dk cI cZ h a F nq no np sh nw) sz) := by
  refine w_met (cc := cX0_ordersAgainst) (maxL := 5) (ret := (some .int)) (by decide) rfl (Nat.le_of_ble_eq_true rfl) ?_
  intro pg e s m below meth cd hx hb hml hr hts hown hlocks hnm hK hsz hP hD hA hS ls hl
  have hown : s.vm.findClass RX0 = some m.cls := hown
  have hin : ∀ w ∈ wsX00, w ∈ wsX0_ordersAgainst := by decide +kernel
  have hl : lv_has ls 5 [(0, .ref h), (1, .int x), (2, .int y)] := hl
  generalize hAe : va_A (Dk cI cZ h a F nq no np sh nw) sz = A at hD hA hS ⊢
  refine lv_aload_n hx hb dX0_ordersAgainst_0 rfl (lv_at hl 0 rfl) ?_
  refine lv_iload_n hx hb dX0_ordersAgainst_1 rfl (lv_at hl 1 rfl) ?_
  refine w_in_v (va_runV (As := [.int x]) (rest := []) ⟨hx, hb, hml, hown, hts⟩ (c_X0_requirePerson l G cI cZ h a F nq no np sh nw s.heap.size x (by omega) (hx9)) (cwV 1 hts gX0_ordersAgainst_X0_requirePerson rfl rfl rfl (by decide +kernel) ⟨(Nat.le_of_ble_eq_true rfl), (Nat.le_of_ble_eq_true rfl)⟩) ⟨wPre_blind, va_recv hK hP (ci := 0) (q0 := 0) rfl rfl, w_pre hK hP hD⟩ rfl rfl hl.1 rfl (lv_room (Nat.le_of_ble_eq_true rfl)) dX0_ordersAgainst_2 ⟨(Nat.le_of_ble_eq_true rfl), (Nat.le_of_ble_eq_true rfl)⟩) hD hS hA (fun u2 H locs hw2 hP hD hS => ?_)
  have hP : va_P G vwCl (Dk cI cZ h a F nq no np sh nw) H := hP
  have hD : va_D A (Dk cI cZ h a F nq no np sh nw) := hD
  obtain ⟨j, hj, rfl⟩ := pin_of hx9
  refine lv_aload_n hx hb dX0_ordersAgainst_5 rfl (lv_at hl 0 rfl) ?_
  refine lv_iload_n hx hb dX0_ordersAgainst_6 rfl (lv_at hl 2 rfl) ?_
  refine w_in_v (va_runV (As := [.int y]) (rest := []) ⟨hx, hb, hml, hown, hts⟩ (c_X0_requireQuarter l G cI cZ h a F nq no np sh nw H.size y (by omega) (hy9)) (cwV 1 hts gX0_ordersAgainst_X0_requireQuarter rfl rfl rfl (by decide +kernel) ⟨(Nat.le_of_ble_eq_true rfl), (Nat.le_of_ble_eq_true rfl)⟩) ⟨wPre_blind, va_recv hK hP (ci := 0) (q0 := 0) rfl rfl, w_pre hK hP hD⟩ rfl rfl hl.1 rfl (lv_room (Nat.le_of_ble_eq_true rfl)) dX0_ordersAgainst_7 ⟨(Nat.le_of_ble_eq_true rfl), (Nat.le_of_ble_eq_true rfl)⟩) hD hS hA (fun u7 H locs hw7 hP hD hS => ?_)
  have hP : va_P G vwCl (Dk cI cZ h a F nq no np sh nw) H := hP
  have hD : va_D A (Dk cI cZ h a F nq no np sh nw) := hD
  refine lv_iconst (v := 0) hx hb dX0_ordersAgainst_10 (by decide) ?_
  refine lv_istore_n (lv' := [(3, .int 0), (0, .ref h), (1, .int (nI j)), (2, .int y)]) hx hb dX0_ordersAgainst_11 rfl hl (by decide) rfl (fun ls hl => ?_)
  refine lv_iconst (v := 0) hx hb dX0_ordersAgainst_12 (by decide) ?_
  refine lv_istore (lv' := [(4, .int 0), (3, .int 0), (0, .ref h), (1, .int (nI j)), (2, .int y)]) hx hb dX0_ordersAgainst_13 hl (by decide) rfl (fun ls hl => ?_)
  have key15 : ∀ (n i15 : Nat), i15 ≤ no → no < i15 + n → ∀ (x3 : Int32) (x4 : Int32), x3 = nI (p_ct (fun o => p_bars F sh o j y nw) i15) → x4 = nI i15 → ∀ (H : Heap) (locs : List Loc), va_P G vwCl (Dk cI cZ h a F nq no np sh nw) H → va_D A (Dk cI cZ h a F nq no np sh nw) → va_S A s.heap H locs → ∀ ls : Array Slot, lv_has ls 5 [(0, .ref h), (1, .int (nI j)), (2, .int y), (3, .int x3), (4, .int x4)] → W pg l e ({ frames := 4, cells := 0, slots := 0, locals := 90 } : Room) s m ([.ref h, .int (nI j), .int y] : List Value).toArray below meth cd H locs (0 + 0 + 0) (0 + 0 + 0) (MQ below (va_Qi (fun (r : Int32) (_ : Unit) => r = nI (p_ag F sh no (nI j).toNatClampNeg y nw)) (fun _ => wP G (ty2 cI cZ) (Dk cI cZ h a F nq no np sh nw) A) A) ([.ref h, .int (nI j), .int y] : List Value).toArray s 0 0 A) (F0 m 15 ls []) := by
    intro n
    induction n with
    | zero => intro i15 h1 h2; exact absurd h2 (by omega)
    | succ n ih15 =>
      intro i15 hi_i15 hn_i15 x3 x4 e3 e4 H locs hP hD hS ls hl
      subst e3 e4
      refine lv_iload hx hb dX0_ordersAgainst_15 (lv_at hl 4 rfl) ?_
      refine lv_aload_n hx hb dX0_ordersAgainst_17 rfl (lv_at hl 0 rfl) ?_
      refine va_get (ci := 0) (v := .int (nI no)) (C := RX0) (T := TX0) (N := 16) hx hb hts hin hown hK hP 0 rfl rfl 12 (by decide) (hts (.fieldLink RX0 74 "CurfewDesk" "orderCount" "I") (by decide +kernel)) (fun _ h9 => h9) rfl dX0_ordersAgainst_18 ?_
      refine lv_icmp_ge (tgt := 48) hx hb dX0_ordersAgainst_21 (by decide) (fun c21 => ?_) (fun c21 => ?_)
      · have c21 := (nI_leI (a := no) (b := i15) (by omega) (by omega)).mp c21
        have ei : no = i15 := by omega
        subst ei
        refine lv_iload_n hx hb dX0_ordersAgainst_48 rfl (lv_at hl 3 rfl) ?_
        exact w_iret () hx hb hr hlocks hK hP hD hS (Nat.le_of_ble_eq_true rfl) (Nat.le_of_ble_eq_true rfl) dX0_ordersAgainst_49 (show (nI (p_ct (fun o => p_bars F sh o j y nw) no)) = nI (p_ag F sh no (nI j).toNatClampNeg y nw) from by first | exact ⟨by rw [hw2, hw7]; rfl, by simp only [nI_clamp (show j < 2 ^ 31 by omega)]; rfl⟩ | (simp only [nI_clamp (show j < 2 ^ 31 by omega)]; rfl))
      · have c21 := mt (nI_leI (a := no) (b := i15) (by omega) (by omega)).mpr c21
        have hlt_i15 : i15 < no := by omega
        refine lv_aload_n hx hb dX0_ordersAgainst_24 rfl (lv_at hl 0 rfl) ?_
        refine lv_iload hx hb dX0_ordersAgainst_25 (lv_at hl 4 rfl) ?_
        refine lv_iload_n hx hb dX0_ordersAgainst_27 rfl (lv_at hl 1 rfl) ?_
        refine lv_iload_n hx hb dX0_ordersAgainst_28 rfl (lv_at hl 2 rfl) ?_
        refine lv_aload_n hx hb dX0_ordersAgainst_29 rfl (lv_at hl 0 rfl) ?_
        refine va_get (ci := 0) (v := .int nw) (C := RX0) (T := TX0) (N := 16) hx hb hts hin hown hK hP 0 rfl rfl 15 (by decide) (hts (.fieldLink RX0 101 "CurfewDesk" "now" "I") (by decide +kernel)) (fun _ h9 => h9) rfl dX0_ordersAgainst_30 ?_
        refine w_in_i (va_runV (As := [.int (nI i15), .int (nI j), .int y, .int nw]) (rest := []) ⟨hx, hb, hml, hown, hts⟩ (c_X0_bars l G cI cZ h a F nq no np sh nw H.size i15 j y nw (by omega) (by omega)) (cwV 4 hts gX0_ordersAgainst_X0_bars rfl rfl rfl (by decide +kernel) ⟨(Nat.le_of_ble_eq_true rfl), (Nat.le_of_ble_eq_true rfl)⟩) ⟨wPre_blind, va_recv hK hP (ci := 0) (q0 := 0) rfl rfl, w_pre hK hP hD⟩ rfl rfl hl.1 rfl (lv_room (Nat.le_of_ble_eq_true rfl)) dX0_ordersAgainst_33 ⟨(Nat.le_of_ble_eq_true rfl), (Nat.le_of_ble_eq_true rfl)⟩) hD hS hA (fun r33 u33 H locs hw33 hP hD hS => ?_)
        have hP : va_P G vwCl (Dk cI cZ h a F nq no np sh nw) H := hP
        have hD : va_D A (Dk cI cZ h a F nq no np sh nw) := hD
        have hw33 : r33 = b2i (p_bars F sh i15 j y nw) := hw33
        subst hw33
        refine lv_if_eq (tgt := 42) hx hb dX0_ordersAgainst_36 (by decide) (fun c36 => ?_) (fun c36 => ?_)
        · have c36 := b2i_0.mp c36
          refine lv_iinc (v := nI i15 + 1) (lv' := [(4, .int (nI i15 + 1)), (0, .ref h), (1, .int (nI j)), (2, .int y), (3, .int (nI (p_ct (fun o => p_bars F sh o j y nw) i15)))]) hx hb dX0_ordersAgainst_42 hl (k := 4) rfl rfl (by decide) rfl (fun ls hl => ?_)
          refine lv_goto (tgt := 15) hx hb dX0_ordersAgainst_45 (by decide) ?_
          exact ih15 (i15 + 1) (by omega) (by omega) (nI (p_ct (fun o => p_bars F sh o j y nw) i15)) (nI i15 + 1) (by first | exact nI_1 _ | exact nct_t (by assumption) | exact nct_f (by assumption) | exact nct_b | rfl) (by first | exact nI_1 _ | exact nct_t (by assumption) | exact nct_f (by assumption) | exact nct_b | rfl) _ _ hP hD hS _ (lv_sub hl [1, 2, 3, 4, 0] rfl)
        · have c36 := b2i_1.mp c36
          refine lv_iinc (v := nI (p_ct (fun o => p_bars F sh o j y nw) i15) + 1) (lv' := [(3, .int (nI (p_ct (fun o => p_bars F sh o j y nw) i15) + 1)), (0, .ref h), (1, .int (nI j)), (2, .int y), (4, .int (nI i15))]) hx hb dX0_ordersAgainst_39 hl (k := 3) rfl rfl (by decide) rfl (fun ls hl => ?_)
          refine lv_iinc (v := nI i15 + 1) (lv' := [(4, .int (nI i15 + 1)), (3, .int (nI (p_ct (fun o => p_bars F sh o j y nw) i15) + 1)), (0, .ref h), (1, .int (nI j)), (2, .int y)]) hx hb dX0_ordersAgainst_42 hl (k := 4) rfl rfl (by decide) rfl (fun ls hl => ?_)
          refine lv_goto (tgt := 15) hx hb dX0_ordersAgainst_45 (by decide) ?_
          exact ih15 (i15 + 1) (by omega) (by omega) (nI (p_ct (fun o => p_bars F sh o j y nw) i15) + 1) (nI i15 + 1) (by first | exact nI_1 _ | exact nct_t (by assumption) | exact nct_f (by assumption) | exact nct_b | rfl) (by first | exact nI_1 _ | exact nct_t (by assumption) | exact nct_f (by assumption) | exact nct_b | rfl) _ _ hP hD hS _ (lv_sub hl [2, 3, 4, 1, 0] rfl)
  exact key15 (no + 1) 0 (by omega) (by omega) 0 0 (by first | rfl | simp [p_ct, p_sm, p_fl, p_fg, nI_0]) (by first | rfl | simp [p_ct, p_sm, p_fl, p_fg, nI_0]) _ _ hP hD hS _ (lv_sub hl [2, 3, 4, 1, 0] rfl)
set_option maxHeartbeats 4000000 in
set_option maxRecDepth 100000 in
theorem c_X0_isOn (l : Launch) (G : va_G) (cI cZ : ClassId) (h : Nat) (a : Nat → Nat) (F : Nat → Nat → Int32) (nq no np : Nat) (sh nw : Int32) (sz : Nat) (x : Int32) (hno : no ≤ 10) (hx9 : p_in x no = true) : Met l yX0_isOn wsX0_isOn ({ frames := 4, cells := 0, slots := 0, locals := 88 } : Room) (va_Pc [.ref h, .int x] (wPre G (ty2 cI cZ) (Dk cI cZ h a F nq no np sh nw) sz)) (va_Qi (fun (r : Int32) (_ : Unit) => r = b2i (p_on F sh x.toNatClampNeg nw)) (fun _ => wP G (ty2 cI cZ) (Dk cI cZ h a F nq no np sh nw) (va_A (Dk cI cZ h a F nq no np sh nw) sz)) (va_A (Dk cI cZ h a F nq no np sh nw) sz)) 0 0 (va_A (Dk cI cZ h a F nq no np sh nw) sz) := by
  refine w_met (cc := cX0_isOn) (maxL := 2) (ret := (some .boolean)) (by decide) rfl (Nat.le_of_ble_eq_true rfl) ?_
  intro pg e s m below meth cd hx hb hml hr hts hown hlocks hnm hK hsz hP hD hA hS ls hl
  have hown : s.vm.findClass RX0 = some m.cls := hown
  have hin : ∀ w ∈ wsX00, w ∈ wsX0_isOn := by decide +kernel
  have hl : lv_has ls 2 [(0, .ref h), (1, .int x)] := hl
  generalize hAe : va_A (Dk cI cZ h a F nq no np sh nw) sz = A at hD hA hS ⊢
  refine lv_aload_n hx hb dX0_isOn_0 rfl (lv_at hl 0 rfl) ?_
  refine lv_iload_n hx hb dX0_isOn_1 rfl (lv_at hl 1 rfl) ?_
  refine w_in_v (va_runV (As := [.int x]) (rest := []) ⟨hx, hb, hml, hown, hts⟩ (c_X0_requireOrder l G cI cZ h a F nq no np sh nw s.heap.size x (by omega) (hx9)) (cwV 1 hts gX0_isOn_X0_requireOrder rfl rfl rfl (by decide +kernel) ⟨(Nat.le_of_ble_eq_true rfl), (Nat.le_of_ble_eq_true rfl)⟩) ⟨wPre_blind, va_recv hK hP (ci := 0) (q0 := 0) rfl rfl, w_pre hK hP hD⟩ rfl rfl hl.1 rfl (lv_room (Nat.le_of_ble_eq_true rfl)) dX0_isOn_2 ⟨(Nat.le_of_ble_eq_true rfl), (Nat.le_of_ble_eq_true rfl)⟩) hD hS hA (fun u2 H locs hw2 hP hD hS => ?_)
  have hP : va_P G vwCl (Dk cI cZ h a F nq no np sh nw) H := hP
  have hD : va_D A (Dk cI cZ h a F nq no np sh nw) := hD
  obtain ⟨j, hj, rfl⟩ := pin_of hx9
  refine lv_aload_n hx hb dX0_isOn_5 rfl (lv_at hl 0 rfl) ?_
  refine lv_iload_n hx hb dX0_isOn_6 rfl (lv_at hl 1 rfl) ?_
  refine lv_aload_n hx hb dX0_isOn_7 rfl (lv_at hl 0 rfl) ?_
  refine va_get (ci := 0) (v := .int nw) (C := RX0) (T := TX0) (N := 16) hx hb hts hin hown hK hP 0 rfl rfl 15 (by decide) (hts (.fieldLink RX0 101 "CurfewDesk" "now" "I") (by decide +kernel)) (fun _ h9 => h9) rfl dX0_isOn_8 ?_
  refine w_in_i (va_runV (As := [.int (nI j), .int nw]) (rest := []) ⟨hx, hb, hml, hown, hts⟩ (c_X0_isOnAt l G cI cZ h a F nq no np sh nw H.size j nw (by omega)) (cwV 2 hts gX0_isOn_X0_isOnAt rfl rfl rfl (by decide +kernel) ⟨(Nat.le_of_ble_eq_true rfl), (Nat.le_of_ble_eq_true rfl)⟩) ⟨wPre_blind, va_recv hK hP (ci := 0) (q0 := 0) rfl rfl, w_pre hK hP hD⟩ rfl rfl hl.1 rfl (lv_room (Nat.le_of_ble_eq_true rfl)) dX0_isOn_11 ⟨(Nat.le_of_ble_eq_true rfl), (Nat.le_of_ble_eq_true rfl)⟩) hD hS hA (fun r11 u11 H locs hw11 hP hD hS => ?_)
  have hP : va_P G vwCl (Dk cI cZ h a F nq no np sh nw) H := hP
  have hD : va_D A (Dk cI cZ h a F nq no np sh nw) := hD
  have hw11 : r11 = b2i (p_on F sh j nw) := hw11
  subst hw11
  exact w_zret () hx hb hr hlocks hK hP hD hS (Nat.le_of_ble_eq_true rfl) (Nat.le_of_ble_eq_true rfl) dX0_isOn_14 (b2i_n _) (show (b2i (p_on F sh j nw)) = b2i (p_on F sh (nI j).toNatClampNeg nw) from by simp only [nI_clamp (show j < 2 ^ 31 by omega)])
set_option maxHeartbeats 4000000 in
set_option maxRecDepth 100000 in
theorem c_X0_halfHoursOn (l : Launch) (G : va_G) (cI cZ : ClassId) (h : Nat) (a : Nat → Nat) (F : Nat → Nat → Int32) (nq no np : Nat) (sh nw : Int32) (sz : Nat) (x : Int32) (hno : no ≤ 10) (hx9 : p_in x no = true) : Met l yX0_halfHoursOn wsX0_halfHoursOn ({ frames := 3, cells := 0, slots := 0, locals := 66 } : Room) (va_Pc [.ref h, .int x] (wPre G (ty2 cI cZ) (Dk cI cZ h a F nq no np sh nw) sz)) (va_Qi (fun (r : Int32) (_ : Unit) => r = nI (p_ct (p_hB F sh nw x.toNatClampNeg) 48)) (fun _ => wP G (ty2 cI cZ) (Dk cI cZ h a F nq no np sh nw) (va_A (Dk cI cZ h a F nq no np sh nw) sz)) (va_A (Dk cI cZ h a F nq no np sh nw) sz)) 0 0 (va_A (Dk cI cZ h a F nq no np sh nw) sz) := by
  refine w_met (cc := cX0_halfHoursOn) (maxL := 4) (ret := (some .int)) (by decide) rfl (Nat.le_of_ble_eq_true rfl) ?_
  intro pg e s m below meth cd hx hb hml hr hts hown hlocks hnm hK hsz hP hD hA hS ls hl
  have hown : s.vm.findClass RX0 = some m.cls := hown
  have hin : ∀ w ∈ wsX00, w ∈ wsX0_halfHoursOn := by decide +kernel
  have hl : lv_has ls 4 [(0, .ref h), (1, .int x)] := hl
  generalize hAe : va_A (Dk cI cZ h a F nq no np sh nw) sz = A at hD hA hS ⊢
  refine lv_aload_n hx hb dX0_halfHoursOn_0 rfl (lv_at hl 0 rfl) ?_
  refine lv_iload_n hx hb dX0_halfHoursOn_1 rfl (lv_at hl 1 rfl) ?_
  refine w_in_v (va_runV (As := [.int x]) (rest := []) ⟨hx, hb, hml, hown, hts⟩ (c_X0_requireOrder l G cI cZ h a F nq no np sh nw s.heap.size x (by omega) (hx9)) (cwV 1 hts gX0_halfHoursOn_X0_requireOrder rfl rfl rfl (by decide +kernel) ⟨(Nat.le_of_ble_eq_true rfl), (Nat.le_of_ble_eq_true rfl)⟩) ⟨wPre_blind, va_recv hK hP (ci := 0) (q0 := 0) rfl rfl, w_pre hK hP hD⟩ rfl rfl hl.1 rfl (lv_room (Nat.le_of_ble_eq_true rfl)) dX0_halfHoursOn_2 ⟨(Nat.le_of_ble_eq_true rfl), (Nat.le_of_ble_eq_true rfl)⟩) hD hS hA (fun u2 H locs hw2 hP hD hS => ?_)
  have hP : va_P G vwCl (Dk cI cZ h a F nq no np sh nw) H := hP
  have hD : va_D A (Dk cI cZ h a F nq no np sh nw) := hD
  obtain ⟨j, hj, rfl⟩ := pin_of hx9
  refine lv_iconst (v := 0) hx hb dX0_halfHoursOn_5 (by decide) ?_
  refine lv_istore_n (lv' := [(2, .int 0), (0, .ref h), (1, .int (nI j))]) hx hb dX0_halfHoursOn_6 rfl hl (by decide) rfl (fun ls hl => ?_)
  refine lv_iconst (v := 0) hx hb dX0_halfHoursOn_7 (by decide) ?_
  refine lv_istore_n (lv' := [(3, .int 0), (2, .int 0), (0, .ref h), (1, .int (nI j))]) hx hb dX0_halfHoursOn_8 rfl hl (by decide) rfl (fun ls hl => ?_)
  have key9 : ∀ (n i9 : Nat), i9 ≤ 48 → 48 < i9 + n → ∀ (x2 : Int32) (x3 : Int32), x2 = nI (p_ct (p_hB F sh nw j) i9) → x3 = nI i9 → ∀ (H : Heap) (locs : List Loc), va_P G vwCl (Dk cI cZ h a F nq no np sh nw) H → va_D A (Dk cI cZ h a F nq no np sh nw) → va_S A s.heap H locs → ∀ ls : Array Slot, lv_has ls 4 [(0, .ref h), (1, .int (nI j)), (2, .int x2), (3, .int x3)] → W pg l e ({ frames := 3, cells := 0, slots := 0, locals := 66 } : Room) s m ([.ref h, .int (nI j)] : List Value).toArray below meth cd H locs (0 + 0) (0 + 0) (MQ below (va_Qi (fun (r : Int32) (_ : Unit) => r = nI (p_ct (p_hB F sh nw (nI j).toNatClampNeg) 48)) (fun _ => wP G (ty2 cI cZ) (Dk cI cZ h a F nq no np sh nw) A) A) ([.ref h, .int (nI j)] : List Value).toArray s 0 0 A) (F0 m 9 ls []) := by
    intro n
    induction n with
    | zero => intro i9 h1 h2; exact absurd h2 (by omega)
    | succ n ih9 =>
      intro i9 hi_i9 hn_i9 x2 x3 e2 e3 H locs hP hD hS ls hl
      subst e2 e3
      refine lv_iload_n hx hb dX0_halfHoursOn_9 rfl (lv_at hl 3 rfl) ?_
      refine lv_bipush (v := 48) hx hb dX0_halfHoursOn_10 (by decide) ?_
      refine lv_icmp_ge (tgt := 38) hx hb dX0_halfHoursOn_12 (by decide) (fun c12 => ?_) (fun c12 => ?_)
      · have c12 := (nI_leI (a := 48) (b := i9) (by omega) (by omega)).mp c12
        have ei : 48 = i9 := by omega
        subst ei
        refine lv_iload_n hx hb dX0_halfHoursOn_38 rfl (lv_at hl 2 rfl) ?_
        exact w_iret () hx hb hr hlocks hK hP hD hS (Nat.le_of_ble_eq_true rfl) (Nat.le_of_ble_eq_true rfl) dX0_halfHoursOn_39 (show (nI (p_ct (p_hB F sh nw j) 48)) = nI (p_ct (p_hB F sh nw (nI j).toNatClampNeg) 48) from by simp only [nI_clamp (show j < 2 ^ 31 by omega)])
      · have c12 := mt (nI_leI (a := 48) (b := i9) (by omega) (by omega)).mpr c12
        have hlt_i9 : i9 < 48 := by omega
        refine lv_aload_n hx hb dX0_halfHoursOn_15 rfl (lv_at hl 0 rfl) ?_
        refine lv_iload_n hx hb dX0_halfHoursOn_16 rfl (lv_at hl 1 rfl) ?_
        refine lv_aload_n hx hb dX0_halfHoursOn_17 rfl (lv_at hl 0 rfl) ?_
        refine va_get (ci := 0) (v := .int nw) (C := RX0) (T := TX0) (N := 16) hx hb hts hin hown hK hP 0 rfl rfl 15 (by decide) (hts (.fieldLink RX0 101 "CurfewDesk" "now" "I") (by decide +kernel)) (fun _ h9 => h9) rfl dX0_halfHoursOn_18 ?_
        refine lv_iload_n hx hb dX0_halfHoursOn_21 rfl (lv_at hl 3 rfl) ?_
        refine lv_iadd hx hb dX0_halfHoursOn_22 ?_
        refine w_in_i (va_runV (As := [.int (nI j), .int (nw + (nI i9))]) (rest := []) ⟨hx, hb, hml, hown, hts⟩ (c_X0_isInHours l G cI cZ h a F nq no np sh nw H.size j (nw + (nI i9)) (by omega)) (cwV 2 hts gX0_halfHoursOn_X0_isInHours rfl rfl rfl (by decide +kernel) ⟨(Nat.le_of_ble_eq_true rfl), (Nat.le_of_ble_eq_true rfl)⟩) ⟨wPre_blind, va_recv hK hP (ci := 0) (q0 := 0) rfl rfl, w_pre hK hP hD⟩ rfl rfl hl.1 rfl (lv_room (Nat.le_of_ble_eq_true rfl)) dX0_halfHoursOn_23 ⟨(Nat.le_of_ble_eq_true rfl), (Nat.le_of_ble_eq_true rfl)⟩) hD hS hA (fun r23 u23 H locs hw23 hP hD hS => ?_)
        have hP : va_P G vwCl (Dk cI cZ h a F nq no np sh nw) H := hP
        have hD : va_D A (Dk cI cZ h a F nq no np sh nw) := hD
        have hw23 : r23 = b2i (p_at F sh j (nw + (nI i9))) := hw23
        subst hw23
        refine lv_if_eq (tgt := 32) hx hb dX0_halfHoursOn_26 (by decide) (fun c26 => ?_) (fun c26 => ?_)
        · have c26 := b2i_0.mp c26
          refine lv_iinc (v := nI i9 + 1) (lv' := [(3, .int (nI i9 + 1)), (0, .ref h), (1, .int (nI j)), (2, .int (nI (p_ct (p_hB F sh nw j) i9)))]) hx hb dX0_halfHoursOn_32 hl (k := 3) rfl rfl (by decide) rfl (fun ls hl => ?_)
          refine lv_goto (tgt := 9) hx hb dX0_halfHoursOn_35 (by decide) ?_
          exact ih9 (i9 + 1) (by omega) (by omega) (nI (p_ct (p_hB F sh nw j) i9)) (nI i9 + 1) (by first | exact nI_1 _ | exact nct_t (by assumption) | exact nct_f (by assumption) | exact nct_b | rfl) (by first | exact nI_1 _ | exact nct_t (by assumption) | exact nct_f (by assumption) | exact nct_b | rfl) _ _ hP hD hS _ (lv_sub hl [1, 2, 3, 0] rfl)
        · have c26 := b2i_1.mp c26
          refine lv_iinc (v := nI (p_ct (p_hB F sh nw j) i9) + 1) (lv' := [(2, .int (nI (p_ct (p_hB F sh nw j) i9) + 1)), (0, .ref h), (1, .int (nI j)), (3, .int (nI i9))]) hx hb dX0_halfHoursOn_29 hl (k := 2) rfl rfl (by decide) rfl (fun ls hl => ?_)
          refine lv_iinc (v := nI i9 + 1) (lv' := [(3, .int (nI i9 + 1)), (2, .int (nI (p_ct (p_hB F sh nw j) i9) + 1)), (0, .ref h), (1, .int (nI j))]) hx hb dX0_halfHoursOn_32 hl (k := 3) rfl rfl (by decide) rfl (fun ls hl => ?_)
          refine lv_goto (tgt := 9) hx hb dX0_halfHoursOn_35 (by decide) ?_
          exact ih9 (i9 + 1) (by omega) (by omega) (nI (p_ct (p_hB F sh nw j) i9) + 1) (nI i9 + 1) (by first | exact nI_1 _ | exact nct_t (by assumption) | exact nct_f (by assumption) | exact nct_b | rfl) (by first | exact nI_1 _ | exact nct_t (by assumption) | exact nct_f (by assumption) | exact nct_b | rfl) _ _ hP hD hS _ (lv_sub hl [2, 3, 1, 0] rfl)
  exact key9 (48 + 1) 0 (by omega) (by omega) 0 0 (by first | rfl | simp [p_ct, p_sm, p_fl, p_fg, nI_0]) (by first | rfl | simp [p_ct, p_sm, p_fl, p_fg, nI_0]) _ _ hP hD hS _ (lv_sub hl [2, 3, 1, 0] rfl)
set_option maxHeartbeats 4000000 in
set_option maxRecDepth 100000 in
theorem c_X0_isInForce (l : Launch) (G : va_G) (cI cZ : ClassId) (h : Nat) (a : Nat → Nat) (F : Nat → Nat → Int32) (nq no np : Nat) (sh nw : Int32) (sz : Nat) (x : Int32) (hno : no ≤ 10) (H4 : ∀ j, F 4 j = 0 ∨ F 4 j = 1) (hx9 : p_in x no = true) : Met l yX0_isInForce wsX0_isInForce ({ frames := 1, cells := 0, slots := 0, locals := 21 } : Room) (va_Pc [.ref h, .int x] (wPre G (ty2 cI cZ) (Dk cI cZ h a F nq no np sh nw) sz)) (va_Qi (fun (r : Int32) (_ : Unit) => r = F 4 x.toNatClampNeg) (fun _ => wP G (ty2 cI cZ) (Dk cI cZ h a F nq no np sh nw) (va_A (Dk cI cZ h a F nq no np sh nw) sz)) (va_A (Dk cI cZ h a F nq no np sh nw) sz)) 0 0 (va_A (Dk cI cZ h a F nq no np sh nw) sz) := by
  refine w_met (cc := cX0_isInForce) (maxL := 2) (ret := (some .boolean)) (by decide) rfl (Nat.le_of_ble_eq_true rfl) ?_
  intro pg e s m below meth cd hx hb hml hr hts hown hlocks hnm hK hsz hP hD hA hS ls hl
  have hown : s.vm.findClass RX0 = some m.cls := hown
  have hin : ∀ w ∈ wsX00, w ∈ wsX0_isInForce := by decide +kernel
  have hl : lv_has ls 2 [(0, .ref h), (1, .int x)] := hl
  generalize hAe : va_A (Dk cI cZ h a F nq no np sh nw) sz = A at hD hA hS ⊢
  refine lv_aload_n hx hb dX0_isInForce_0 rfl (lv_at hl 0 rfl) ?_
  refine lv_iload_n hx hb dX0_isInForce_1 rfl (lv_at hl 1 rfl) ?_
  refine w_in_v (va_runV (As := [.int x]) (rest := []) ⟨hx, hb, hml, hown, hts⟩ (c_X0_requireOrder l G cI cZ h a F nq no np sh nw s.heap.size x (by omega) (hx9)) (cwV 1 hts gX0_isInForce_X0_requireOrder rfl rfl rfl (by decide +kernel) ⟨(Nat.le_of_ble_eq_true rfl), (Nat.le_of_ble_eq_true rfl)⟩) ⟨wPre_blind, va_recv hK hP (ci := 0) (q0 := 0) rfl rfl, w_pre hK hP hD⟩ rfl rfl hl.1 rfl (lv_room (Nat.le_of_ble_eq_true rfl)) dX0_isInForce_2 ⟨(Nat.le_of_ble_eq_true rfl), (Nat.le_of_ble_eq_true rfl)⟩) hD hS hA (fun u2 H locs hw2 hP hD hS => ?_)
  have hP : va_P G vwCl (Dk cI cZ h a F nq no np sh nw) H := hP
  have hD : va_D A (Dk cI cZ h a F nq no np sh nw) := hD
  obtain ⟨j, hj, rfl⟩ := pin_of hx9
  refine lv_aload_n hx hb dX0_isInForce_5 rfl (lv_at hl 0 rfl) ?_
  refine va_get (ci := 0) (v := .ref (a 4)) (C := RX0) (T := TX0) (N := 16) hx hb hts hin hown hK hP 0 rfl rfl 4 (by decide) (hts (.fieldLink RX0 22 "CurfewDesk" "orderInForce" "[Z") (by decide +kernel)) (fun _ h9 => h9) rfl dX0_isInForce_6 ?_
  refine lv_iload_n hx hb dX0_isInForce_9 rfl (lv_at hl 1 rfl) ?_
  refine w_zald hx hb hK hP 5 1 rfl rfl (f := (F 4)) (j := j) (by omega) (by omega) dX0_isInForce_10 ?_
  exact w_zret () hx hb hr hlocks hK hP hD hS (Nat.le_of_ble_eq_true rfl) (Nat.le_of_ble_eq_true rfl) dX0_isInForce_11 (by rcases H4 j with h | h <;> rw [h] <;> rfl) (show ((F 4) j) = F 4 (nI j).toNatClampNeg from by simp only [nI_clamp (show j < 2 ^ 31 by omega)])
set_option maxHeartbeats 4000000 in
set_option maxRecDepth 100000 in
theorem c_X0_isExempt (l : Launch) (G : va_G) (cI cZ : ClassId) (h : Nat) (a : Nat → Nat) (F : Nat → Nat → Int32) (nq no np : Nat) (sh nw : Int32) (sz : Nat) (x : Int32) (t : Int32) (hno : no ≤ 10) (hx9 : p_in x no = true) (ht9 : p_in t 8 = true) : Met l yX0_isExempt wsX0_isExempt ({ frames := 1, cells := 0, slots := 0, locals := 22 } : Room) (va_Pc [.ref h, .int x, .int t] (wPre G (ty2 cI cZ) (Dk cI cZ h a F nq no np sh nw) sz)) (va_Qi (fun (r : Int32) (_ : Unit) => r = b2i (p_ex F x.toNatClampNeg t)) (fun _ => wP G (ty2 cI cZ) (Dk cI cZ h a F nq no np sh nw) (va_A (Dk cI cZ h a F nq no np sh nw) sz)) (va_A (Dk cI cZ h a F nq no np sh nw) sz)) 0 0 (va_A (Dk cI cZ h a F nq no np sh nw) sz) := by
  refine w_met (cc := cX0_isExempt) (maxL := 3) (ret := (some .boolean)) (by decide) rfl (Nat.le_of_ble_eq_true rfl) ?_
  intro pg e s m below meth cd hx hb hml hr hts hown hlocks hnm hK hsz hP hD hA hS ls hl
  have hown : s.vm.findClass RX0 = some m.cls := hown
  have hl : lv_has ls 3 [(0, .ref h), (1, .int x), (2, .int t)] := hl
  generalize hAe : va_A (Dk cI cZ h a F nq no np sh nw) sz = A at hD hA hS ⊢
  refine lv_aload_n hx hb dX0_isExempt_0 rfl (lv_at hl 0 rfl) ?_
  refine lv_iload_n hx hb dX0_isExempt_1 rfl (lv_at hl 1 rfl) ?_
  refine w_in_v (va_runV (As := [.int x]) (rest := []) ⟨hx, hb, hml, hown, hts⟩ (c_X0_requireOrder l G cI cZ h a F nq no np sh nw s.heap.size x (by omega) (hx9)) (cwV 1 hts gX0_isExempt_X0_requireOrder rfl rfl rfl (by decide +kernel) ⟨(Nat.le_of_ble_eq_true rfl), (Nat.le_of_ble_eq_true rfl)⟩) ⟨wPre_blind, va_recv hK hP (ci := 0) (q0 := 0) rfl rfl, w_pre hK hP hD⟩ rfl rfl hl.1 rfl (lv_room (Nat.le_of_ble_eq_true rfl)) dX0_isExempt_2 ⟨(Nat.le_of_ble_eq_true rfl), (Nat.le_of_ble_eq_true rfl)⟩) hD hS hA (fun u2 H locs hw2 hP hD hS => ?_)
  have hP : va_P G vwCl (Dk cI cZ h a F nq no np sh nw) H := hP
  have hD : va_D A (Dk cI cZ h a F nq no np sh nw) := hD
  obtain ⟨j, hj, rfl⟩ := pin_of hx9
  refine lv_iload_n hx hb dX0_isExempt_5 rfl (lv_at hl 2 rfl) ?_
  refine w_st_v (va_runS (As := [.int t]) (rest := []) ⟨hx, hb, hml, hown, hts⟩ (c_X0_requireTrade l G H.size t (ht9)) (va_cwS 1 hts gX0_isExempt_X0_requireTrade rfl rfl rfl (by decide +kernel) ⟨(Nat.le_of_ble_eq_true rfl), (Nat.le_of_ble_eq_true rfl)⟩) ⟨wPre_blind, w_pre (hK.sub [] rfl) w_P0 (w_D0 (A := A))⟩ rfl rfl hl.1 rfl (lv_room (Nat.le_of_ble_eq_true rfl)) dX0_isExempt_6 ⟨(Nat.le_of_ble_eq_true rfl), (Nat.le_of_ble_eq_true rfl)⟩) hP hS hA (fun u6 H locs hw6 hP hS => ?_)
  refine lv_aload_n hx hb dX0_isExempt_9 rfl (lv_at hl 0 rfl) ?_
  refine lv_iload_n hx hb dX0_isExempt_10 rfl (lv_at hl 1 rfl) ?_
  refine lv_iload_n hx hb dX0_isExempt_11 rfl (lv_at hl 2 rfl) ?_
  refine w_in_i (va_runV (As := [.int (nI j), .int t]) (rest := []) ⟨hx, hb, hml, hown, hts⟩ (c_X0_exempts l G cI cZ h a F nq no np sh nw H.size j t (by omega)) (cwV 2 hts gX0_isExempt_X0_exempts rfl rfl rfl (by decide +kernel) ⟨(Nat.le_of_ble_eq_true rfl), (Nat.le_of_ble_eq_true rfl)⟩) ⟨wPre_blind, va_recv hK hP (ci := 0) (q0 := 0) rfl rfl, w_pre hK hP hD⟩ rfl rfl hl.1 rfl (lv_room (Nat.le_of_ble_eq_true rfl)) dX0_isExempt_12 ⟨(Nat.le_of_ble_eq_true rfl), (Nat.le_of_ble_eq_true rfl)⟩) hD hS hA (fun r12 u12 H locs hw12 hP hD hS => ?_)
  have hP : va_P G vwCl (Dk cI cZ h a F nq no np sh nw) H := hP
  have hD : va_D A (Dk cI cZ h a F nq no np sh nw) := hD
  have hw12 : r12 = b2i (p_ex F j t) := hw12
  subst hw12
  exact w_zret () hx hb hr hlocks hK hP hD hS (Nat.le_of_ble_eq_true rfl) (Nat.le_of_ble_eq_true rfl) dX0_isExempt_15 (b2i_n _) (show (b2i (p_ex F j t)) = b2i (p_ex F (nI j).toNatClampNeg t) from by simp only [nI_clamp (show j < 2 ^ 31 by omega)])
set_option maxHeartbeats 4000000 in
set_option maxRecDepth 100000 in
theorem c_X0_tradeOf (l : Launch) (G : va_G) (cI cZ : ClassId) (h : Nat) (a : Nat → Nat) (F : Nat → Nat → Int32) (nq no np : Nat) (sh nw : Int32) (sz : Nat) (x : Int32) (hnp : np ≤ 20) (hx9 : p_in x np = true) : Met l yX0_tradeOf wsX0_tradeOf ({ frames := 1, cells := 0, slots := 0, locals := 21 } : Room) (va_Pc [.ref h, .int x] (wPre G (ty2 cI cZ) (Dk cI cZ h a F nq no np sh nw) sz)) (va_Qi (fun (r : Int32) (_ : Unit) => r = F 6 x.toNatClampNeg) (fun _ => wP G (ty2 cI cZ) (Dk cI cZ h a F nq no np sh nw) (va_A (Dk cI cZ h a F nq no np sh nw) sz)) (va_A (Dk cI cZ h a F nq no np sh nw) sz)) 0 0 (va_A (Dk cI cZ h a F nq no np sh nw) sz) := by
  refine w_met (cc := cX0_tradeOf) (maxL := 2) (ret := (some .int)) (by decide) rfl (Nat.le_of_ble_eq_true rfl) ?_
  intro pg e s m below meth cd hx hb hml hr hts hown hlocks hnm hK hsz hP hD hA hS ls hl
  have hown : s.vm.findClass RX0 = some m.cls := hown
  have hin : ∀ w ∈ wsX00, w ∈ wsX0_tradeOf := by decide +kernel
  have hl : lv_has ls 2 [(0, .ref h), (1, .int x)] := hl
  generalize hAe : va_A (Dk cI cZ h a F nq no np sh nw) sz = A at hD hA hS ⊢
  refine lv_aload_n hx hb dX0_tradeOf_0 rfl (lv_at hl 0 rfl) ?_
  refine lv_iload_n hx hb dX0_tradeOf_1 rfl (lv_at hl 1 rfl) ?_
  refine w_in_v (va_runV (As := [.int x]) (rest := []) ⟨hx, hb, hml, hown, hts⟩ (c_X0_requirePerson l G cI cZ h a F nq no np sh nw s.heap.size x (by omega) (hx9)) (cwV 1 hts gX0_tradeOf_X0_requirePerson rfl rfl rfl (by decide +kernel) ⟨(Nat.le_of_ble_eq_true rfl), (Nat.le_of_ble_eq_true rfl)⟩) ⟨wPre_blind, va_recv hK hP (ci := 0) (q0 := 0) rfl rfl, w_pre hK hP hD⟩ rfl rfl hl.1 rfl (lv_room (Nat.le_of_ble_eq_true rfl)) dX0_tradeOf_2 ⟨(Nat.le_of_ble_eq_true rfl), (Nat.le_of_ble_eq_true rfl)⟩) hD hS hA (fun u2 H locs hw2 hP hD hS => ?_)
  have hP : va_P G vwCl (Dk cI cZ h a F nq no np sh nw) H := hP
  have hD : va_D A (Dk cI cZ h a F nq no np sh nw) := hD
  obtain ⟨j, hj, rfl⟩ := pin_of hx9
  refine lv_aload_n hx hb dX0_tradeOf_5 rfl (lv_at hl 0 rfl) ?_
  refine va_get (ci := 0) (v := .ref (a 6)) (C := RX0) (T := TX0) (N := 16) hx hb hts hin hown hK hP 0 rfl rfl 6 (by decide) (hts (.fieldLink RX0 29 "CurfewDesk" "personTrade" "[I") (by decide +kernel)) (fun _ h9 => h9) rfl dX0_tradeOf_6 ?_
  refine lv_iload_n hx hb dX0_tradeOf_9 rfl (lv_at hl 1 rfl) ?_
  refine w_iald hx hb hK hP 7 0 rfl rfl (f := (F 6)) (j := j) (by omega) (by omega) dX0_tradeOf_10 ?_
  exact w_iret () hx hb hr hlocks hK hP hD hS (Nat.le_of_ble_eq_true rfl) (Nat.le_of_ble_eq_true rfl) dX0_tradeOf_11 (show ((F 6) j) = F 6 (nI j).toNatClampNeg from by simp only [nI_clamp (show j < 2 ^ 31 by omega)])
set_option maxHeartbeats 4000000 in
set_option maxRecDepth 100000 in
theorem c_X0_owes (l : Launch) (G : va_G) (cI cZ : ClassId) (h : Nat) (a : Nat → Nat) (F : Nat → Nat → Int32) (nq no np : Nat) (sh nw : Int32) (sz : Nat) (x : Int32) (hnp : np ≤ 20) (hx9 : p_in x np = true) : Met l yX0_owes wsX0_owes ({ frames := 1, cells := 0, slots := 0, locals := 21 } : Room) (va_Pc [.ref h, .int x] (wPre G (ty2 cI cZ) (Dk cI cZ h a F nq no np sh nw) sz)) (va_Qi (fun (r : Int32) (_ : Unit) => r = F 8 x.toNatClampNeg) (fun _ => wP G (ty2 cI cZ) (Dk cI cZ h a F nq no np sh nw) (va_A (Dk cI cZ h a F nq no np sh nw) sz)) (va_A (Dk cI cZ h a F nq no np sh nw) sz)) 0 0 (va_A (Dk cI cZ h a F nq no np sh nw) sz) := by
  refine w_met (cc := cX0_owes) (maxL := 2) (ret := (some .int)) (by decide) rfl (Nat.le_of_ble_eq_true rfl) ?_
  intro pg e s m below meth cd hx hb hml hr hts hown hlocks hnm hK hsz hP hD hA hS ls hl
  have hown : s.vm.findClass RX0 = some m.cls := hown
  have hin : ∀ w ∈ wsX00, w ∈ wsX0_owes := by decide +kernel
  have hl : lv_has ls 2 [(0, .ref h), (1, .int x)] := hl
  generalize hAe : va_A (Dk cI cZ h a F nq no np sh nw) sz = A at hD hA hS ⊢
  refine lv_aload_n hx hb dX0_owes_0 rfl (lv_at hl 0 rfl) ?_
  refine lv_iload_n hx hb dX0_owes_1 rfl (lv_at hl 1 rfl) ?_
  refine w_in_v (va_runV (As := [.int x]) (rest := []) ⟨hx, hb, hml, hown, hts⟩ (c_X0_requirePerson l G cI cZ h a F nq no np sh nw s.heap.size x (by omega) (hx9)) (cwV 1 hts gX0_owes_X0_requirePerson rfl rfl rfl (by decide +kernel) ⟨(Nat.le_of_ble_eq_true rfl), (Nat.le_of_ble_eq_true rfl)⟩) ⟨wPre_blind, va_recv hK hP (ci := 0) (q0 := 0) rfl rfl, w_pre hK hP hD⟩ rfl rfl hl.1 rfl (lv_room (Nat.le_of_ble_eq_true rfl)) dX0_owes_2 ⟨(Nat.le_of_ble_eq_true rfl), (Nat.le_of_ble_eq_true rfl)⟩) hD hS hA (fun u2 H locs hw2 hP hD hS => ?_)
  have hP : va_P G vwCl (Dk cI cZ h a F nq no np sh nw) H := hP
  have hD : va_D A (Dk cI cZ h a F nq no np sh nw) := hD
  obtain ⟨j, hj, rfl⟩ := pin_of hx9
  refine lv_aload_n hx hb dX0_owes_5 rfl (lv_at hl 0 rfl) ?_
  refine va_get (ci := 0) (v := .ref (a 8)) (C := RX0) (T := TX0) (N := 16) hx hb hts hin hown hK hP 0 rfl rfl 8 (by decide) (hts (.fieldLink RX0 35 "CurfewDesk" "personOwes" "[I") (by decide +kernel)) (fun _ h9 => h9) rfl dX0_owes_6 ?_
  refine lv_iload_n hx hb dX0_owes_9 rfl (lv_at hl 1 rfl) ?_
  refine w_iald hx hb hK hP 9 0 rfl rfl (f := (F 8)) (j := j) (by omega) (by omega) dX0_owes_10 ?_
  exact w_iret () hx hb hr hlocks hK hP hD hS (Nat.le_of_ble_eq_true rfl) (Nat.le_of_ble_eq_true rfl) dX0_owes_11 (show ((F 8) j) = F 8 (nI j).toNatClampNeg from by simp only [nI_clamp (show j < 2 ^ 31 by omega)])
set_option maxHeartbeats 4000000 in
set_option maxRecDepth 100000 in
theorem c_X0_timesFined (l : Launch) (G : va_G) (cI cZ : ClassId) (h : Nat) (a : Nat → Nat) (F : Nat → Nat → Int32) (nq no np : Nat) (sh nw : Int32) (sz : Nat) (x : Int32) (hnp : np ≤ 20) (hx9 : p_in x np = true) : Met l yX0_timesFined wsX0_timesFined ({ frames := 1, cells := 0, slots := 0, locals := 21 } : Room) (va_Pc [.ref h, .int x] (wPre G (ty2 cI cZ) (Dk cI cZ h a F nq no np sh nw) sz)) (va_Qi (fun (r : Int32) (_ : Unit) => r = F 7 x.toNatClampNeg) (fun _ => wP G (ty2 cI cZ) (Dk cI cZ h a F nq no np sh nw) (va_A (Dk cI cZ h a F nq no np sh nw) sz)) (va_A (Dk cI cZ h a F nq no np sh nw) sz)) 0 0 (va_A (Dk cI cZ h a F nq no np sh nw) sz) := by
  refine w_met (cc := cX0_timesFined) (maxL := 2) (ret := (some .int)) (by decide) rfl (Nat.le_of_ble_eq_true rfl) ?_
  intro pg e s m below meth cd hx hb hml hr hts hown hlocks hnm hK hsz hP hD hA hS ls hl
  have hown : s.vm.findClass RX0 = some m.cls := hown
  have hin : ∀ w ∈ wsX00, w ∈ wsX0_timesFined := by decide +kernel
  have hl : lv_has ls 2 [(0, .ref h), (1, .int x)] := hl
  generalize hAe : va_A (Dk cI cZ h a F nq no np sh nw) sz = A at hD hA hS ⊢
  refine lv_aload_n hx hb dX0_timesFined_0 rfl (lv_at hl 0 rfl) ?_
  refine lv_iload_n hx hb dX0_timesFined_1 rfl (lv_at hl 1 rfl) ?_
  refine w_in_v (va_runV (As := [.int x]) (rest := []) ⟨hx, hb, hml, hown, hts⟩ (c_X0_requirePerson l G cI cZ h a F nq no np sh nw s.heap.size x (by omega) (hx9)) (cwV 1 hts gX0_timesFined_X0_requirePerson rfl rfl rfl (by decide +kernel) ⟨(Nat.le_of_ble_eq_true rfl), (Nat.le_of_ble_eq_true rfl)⟩) ⟨wPre_blind, va_recv hK hP (ci := 0) (q0 := 0) rfl rfl, w_pre hK hP hD⟩ rfl rfl hl.1 rfl (lv_room (Nat.le_of_ble_eq_true rfl)) dX0_timesFined_2 ⟨(Nat.le_of_ble_eq_true rfl), (Nat.le_of_ble_eq_true rfl)⟩) hD hS hA (fun u2 H locs hw2 hP hD hS => ?_)
  have hP : va_P G vwCl (Dk cI cZ h a F nq no np sh nw) H := hP
  have hD : va_D A (Dk cI cZ h a F nq no np sh nw) := hD
  obtain ⟨j, hj, rfl⟩ := pin_of hx9
  refine lv_aload_n hx hb dX0_timesFined_5 rfl (lv_at hl 0 rfl) ?_
  refine va_get (ci := 0) (v := .ref (a 7)) (C := RX0) (T := TX0) (N := 16) hx hb hts hin hown hK hP 0 rfl rfl 7 (by decide) (hts (.fieldLink RX0 32 "CurfewDesk" "personFined" "[I") (by decide +kernel)) (fun _ h9 => h9) rfl dX0_timesFined_6 ?_
  refine lv_iload_n hx hb dX0_timesFined_9 rfl (lv_at hl 1 rfl) ?_
  refine w_iald hx hb hK hP 8 0 rfl rfl (f := (F 7)) (j := j) (by omega) (by omega) dX0_timesFined_10 ?_
  exact w_iret () hx hb hr hlocks hK hP hD hS (Nat.le_of_ble_eq_true rfl) (Nat.le_of_ble_eq_true rfl) dX0_timesFined_11 (show ((F 7) j) = F 7 (nI j).toNatClampNeg from by simp only [nI_clamp (show j < 2 ^ 31 by omega)])
set_option maxHeartbeats 4000000 in
set_option maxRecDepth 100000 in
theorem c_X0_stampsOf (l : Launch) (G : va_G) (cI cZ : ClassId) (h : Nat) (a : Nat → Nat) (F : Nat → Nat → Int32) (nq no np : Nat) (sh nw : Int32) (sz : Nat) (x : Int32) (y : Int32) (hnp : np ≤ 20) (hx9 : p_in x np = true) (hy9 : p_in y 4 = true) : Met l yX0_stampsOf wsX0_stampsOf ({ frames := 1, cells := 0, slots := 0, locals := 21 } : Room) (va_Pc [.ref h, .int x, .int y] (wPre G (ty2 cI cZ) (Dk cI cZ h a F nq no np sh nw) sz)) (va_Qi (fun (r : Int32) (_ : Unit) => r = F 9 (p_pl x y)) (fun _ => wP G (ty2 cI cZ) (Dk cI cZ h a F nq no np sh nw) (va_A (Dk cI cZ h a F nq no np sh nw) sz)) (va_A (Dk cI cZ h a F nq no np sh nw) sz)) 0 0 (va_A (Dk cI cZ h a F nq no np sh nw) sz) := by
  refine w_met (cc := cX0_stampsOf) (maxL := 3) (ret := (some .int)) (by decide) rfl (Nat.le_of_ble_eq_true rfl) ?_
  intro pg e s m below meth cd hx hb hml hr hts hown hlocks hnm hK hsz hP hD hA hS ls hl
  have hown : s.vm.findClass RX0 = some m.cls := hown
  have hin : ∀ w ∈ wsX00, w ∈ wsX0_stampsOf := by decide +kernel
  have hl : lv_has ls 3 [(0, .ref h), (1, .int x), (2, .int y)] := hl
  generalize hAe : va_A (Dk cI cZ h a F nq no np sh nw) sz = A at hD hA hS ⊢
  refine lv_aload_n hx hb dX0_stampsOf_0 rfl (lv_at hl 0 rfl) ?_
  refine lv_iload_n hx hb dX0_stampsOf_1 rfl (lv_at hl 1 rfl) ?_
  refine w_in_v (va_runV (As := [.int x]) (rest := []) ⟨hx, hb, hml, hown, hts⟩ (c_X0_requirePerson l G cI cZ h a F nq no np sh nw s.heap.size x (by omega) (hx9)) (cwV 1 hts gX0_stampsOf_X0_requirePerson rfl rfl rfl (by decide +kernel) ⟨(Nat.le_of_ble_eq_true rfl), (Nat.le_of_ble_eq_true rfl)⟩) ⟨wPre_blind, va_recv hK hP (ci := 0) (q0 := 0) rfl rfl, w_pre hK hP hD⟩ rfl rfl hl.1 rfl (lv_room (Nat.le_of_ble_eq_true rfl)) dX0_stampsOf_2 ⟨(Nat.le_of_ble_eq_true rfl), (Nat.le_of_ble_eq_true rfl)⟩) hD hS hA (fun u2 H locs hw2 hP hD hS => ?_)
  have hP : va_P G vwCl (Dk cI cZ h a F nq no np sh nw) H := hP
  have hD : va_D A (Dk cI cZ h a F nq no np sh nw) := hD
  obtain ⟨j, hj, rfl⟩ := pin_of hx9
  refine lv_iload_n hx hb dX0_stampsOf_5 rfl (lv_at hl 2 rfl) ?_
  refine w_st_v (va_runS (As := [.int y]) (rest := []) ⟨hx, hb, hml, hown, hts⟩ (c_X0_requireColour l G H.size y (hy9)) (va_cwS 1 hts gX0_stampsOf_X0_requireColour rfl rfl rfl (by decide +kernel) ⟨(Nat.le_of_ble_eq_true rfl), (Nat.le_of_ble_eq_true rfl)⟩) ⟨wPre_blind, w_pre (hK.sub [] rfl) w_P0 (w_D0 (A := A))⟩ rfl rfl hl.1 rfl (lv_room (Nat.le_of_ble_eq_true rfl)) dX0_stampsOf_6 ⟨(Nat.le_of_ble_eq_true rfl), (Nat.le_of_ble_eq_true rfl)⟩) hP hS hA (fun u6 H locs hw6 hP hS => ?_)
  obtain ⟨c, hc, rfl⟩ := pin_of hy9
  refine lv_aload_n hx hb dX0_stampsOf_9 rfl (lv_at hl 0 rfl) ?_
  refine va_get (ci := 0) (v := .ref (a 9)) (C := RX0) (T := TX0) (N := 16) hx hb hts hin hown hK hP 0 rfl rfl 9 (by decide) (hts (.fieldLink RX0 38 "CurfewDesk" "personStamps" "[I") (by decide +kernel)) (fun _ h9 => h9) rfl dX0_stampsOf_10 ?_
  refine lv_iload_n hx hb dX0_stampsOf_13 rfl (lv_at hl 1 rfl) ?_
  refine lv_iload_n hx hb dX0_stampsOf_14 rfl (lv_at hl 2 rfl) ?_
  refine w_st_i (va_runS (As := [.int (nI j), .int (nI c)]) (rest := [.ref (a 9)]) ⟨hx, hb, hml, hown, hts⟩ (c_X0_stampPlace l G H.size j c ) (va_cwS 2 hts gX0_stampsOf_X0_stampPlace rfl rfl rfl (by decide +kernel) ⟨(Nat.le_of_ble_eq_true rfl), (Nat.le_of_ble_eq_true rfl)⟩) ⟨wPre_blind, w_pre (hK.sub [] rfl) w_P0 (w_D0 (A := A))⟩ rfl rfl hl.1 rfl (lv_room (Nat.le_of_ble_eq_true rfl)) dX0_stampsOf_15 ⟨(Nat.le_of_ble_eq_true rfl), (Nat.le_of_ble_eq_true rfl)⟩) hP hS hA (fun r15 u15 H locs hw15 hP hS => ?_)
  have hw15 : r15 = nI (j * 4 + c) := hw15
  subst hw15
  refine w_iald hx hb hK hP 10 0 rfl rfl (f := (F 9)) (j := (j * 4 + c)) (by omega) (by omega) dX0_stampsOf_18 ?_
  exact w_iret () hx hb hr hlocks hK hP hD hS (Nat.le_of_ble_eq_true rfl) (Nat.le_of_ble_eq_true rfl) dX0_stampsOf_19 (show ((F 9) (j * 4 + c)) = F 9 (p_pl (nI j) (nI c)) from by simp only [p_pl, nI_clamp (show j < 2 ^ 31 by omega), nI_clamp (show c < 2 ^ 31 by omega)])
set_option maxHeartbeats 4000000 in
set_option maxRecDepth 100000 in
theorem c_X0_mayGo (l : Launch) (G : va_G) (cI cZ : ClassId) (h : Nat) (a : Nat → Nat) (F : Nat → Nat → Int32) (nq no np : Nat) (sh nw : Int32) (sz : Nat) (x : Int32) (y : Int32) (hnq : nq ≤ 6) (hno : no ≤ 10) (hnp : np ≤ 20) (hx9 : p_in x np = true) (hy9 : p_in y nq = true) : Met l yX0_mayGo wsX0_mayGo ({ frames := 5, cells := 0, slots := 0, locals := 117 } : Room) (va_Pc [.ref h, .int x, .int y] (wPre G (ty2 cI cZ) (Dk cI cZ h a F nq no np sh nw) sz)) (va_Qi (fun (r : Int32) (_ : Unit) => r = b2i (decide (p_miss F sh no x.toNatClampNeg y nw (-1) = 0))) (fun _ => wP G (ty2 cI cZ) (Dk cI cZ h a F nq no np sh nw) (va_A (Dk cI cZ h a F nq no np sh nw) sz)) (va_A (Dk cI cZ h a F nq no np sh nw) sz)) 0 0 (va_A (Dk cI cZ h a F nq no np sh nw) sz) := by
  refine w_met (cc := cX0_mayGo) (maxL := 3) (ret := (some .boolean)) (by decide) rfl (Nat.le_of_ble_eq_true rfl) ?_
  intro pg e s m below meth cd hx hb hml hr hts hown hlocks hnm hK hsz hP hD hA hS ls hl
  have hown : s.vm.findClass RX0 = some m.cls := hown
  have hl : lv_has ls 3 [(0, .ref h), (1, .int x), (2, .int y)] := hl
  generalize hAe : va_A (Dk cI cZ h a F nq no np sh nw) sz = A at hD hA hS ⊢
  refine lv_aload_n hx hb dX0_mayGo_0 rfl (lv_at hl 0 rfl) ?_
  refine lv_iload_n hx hb dX0_mayGo_1 rfl (lv_at hl 1 rfl) ?_
  refine w_in_v (va_runV (As := [.int x]) (rest := []) ⟨hx, hb, hml, hown, hts⟩ (c_X0_requirePerson l G cI cZ h a F nq no np sh nw s.heap.size x (by omega) (hx9)) (cwV 1 hts gX0_mayGo_X0_requirePerson rfl rfl rfl (by decide +kernel) ⟨(Nat.le_of_ble_eq_true rfl), (Nat.le_of_ble_eq_true rfl)⟩) ⟨wPre_blind, va_recv hK hP (ci := 0) (q0 := 0) rfl rfl, w_pre hK hP hD⟩ rfl rfl hl.1 rfl (lv_room (Nat.le_of_ble_eq_true rfl)) dX0_mayGo_2 ⟨(Nat.le_of_ble_eq_true rfl), (Nat.le_of_ble_eq_true rfl)⟩) hD hS hA (fun u2 H locs hw2 hP hD hS => ?_)
  have hP : va_P G vwCl (Dk cI cZ h a F nq no np sh nw) H := hP
  have hD : va_D A (Dk cI cZ h a F nq no np sh nw) := hD
  obtain ⟨j, hj, rfl⟩ := pin_of hx9
  refine lv_aload_n hx hb dX0_mayGo_5 rfl (lv_at hl 0 rfl) ?_
  refine lv_iload_n hx hb dX0_mayGo_6 rfl (lv_at hl 2 rfl) ?_
  refine w_in_v (va_runV (As := [.int y]) (rest := []) ⟨hx, hb, hml, hown, hts⟩ (c_X0_requireQuarter l G cI cZ h a F nq no np sh nw H.size y (by omega) (hy9)) (cwV 1 hts gX0_mayGo_X0_requireQuarter rfl rfl rfl (by decide +kernel) ⟨(Nat.le_of_ble_eq_true rfl), (Nat.le_of_ble_eq_true rfl)⟩) ⟨wPre_blind, va_recv hK hP (ci := 0) (q0 := 0) rfl rfl, w_pre hK hP hD⟩ rfl rfl hl.1 rfl (lv_room (Nat.le_of_ble_eq_true rfl)) dX0_mayGo_7 ⟨(Nat.le_of_ble_eq_true rfl), (Nat.le_of_ble_eq_true rfl)⟩) hD hS hA (fun u7 H locs hw7 hP hD hS => ?_)
  have hP : va_P G vwCl (Dk cI cZ h a F nq no np sh nw) H := hP
  have hD : va_D A (Dk cI cZ h a F nq no np sh nw) := hD
  refine lv_aload_n hx hb dX0_mayGo_10 rfl (lv_at hl 0 rfl) ?_
  refine lv_iload_n hx hb dX0_mayGo_11 rfl (lv_at hl 1 rfl) ?_
  refine lv_iload_n hx hb dX0_mayGo_12 rfl (lv_at hl 2 rfl) ?_
  refine lv_iconst (v := (-1)) hx hb dX0_mayGo_13 (by decide) ?_
  refine w_in_i (va_runV (As := [.int (nI j), .int y, .int (-1)]) (rest := []) ⟨hx, hb, hml, hown, hts⟩ (c_X0_missing l G cI cZ h a F nq no np sh nw H.size j y (-1) (by omega) (by omega)) (cwV 3 hts gX0_mayGo_X0_missing rfl rfl rfl (by decide +kernel) ⟨(Nat.le_of_ble_eq_true rfl), (Nat.le_of_ble_eq_true rfl)⟩) ⟨wPre_blind, va_recv hK hP (ci := 0) (q0 := 0) rfl rfl, w_pre hK hP hD⟩ rfl rfl hl.1 rfl (lv_room (Nat.le_of_ble_eq_true rfl)) dX0_mayGo_14 ⟨(Nat.le_of_ble_eq_true rfl), (Nat.le_of_ble_eq_true rfl)⟩) hD hS hA (fun r14 u14 H locs hw14 hP hD hS => ?_)
  have hP : va_P G vwCl (Dk cI cZ h a F nq no np sh nw) H := hP
  have hD : va_D A (Dk cI cZ h a F nq no np sh nw) := hD
  have hw14 : r14 = p_miss F sh no j y nw (-1) := hw14
  subst hw14
  refine w_selN (v1 := 1) (v2 := 0) hx hb dX0_mayGo_17 (by decide) dX0_mayGo_20 (by decide) dX0_mayGo_21 (by decide) dX0_mayGo_24 (by decide) ?_
  rw [b2i_nz]
  exact w_zret () hx hb hr hlocks hK hP hD hS (Nat.le_of_ble_eq_true rfl) (Nat.le_of_ble_eq_true rfl) dX0_mayGo_25 (b2i_n _) (show (b2i (decide (p_miss F sh no j y nw (-1) = 0))) = b2i (decide (p_miss F sh no (nI j).toNatClampNeg y nw (-1) = 0)) from by simp only [nI_clamp (show j < 2 ^ 31 by omega)])
set_option maxHeartbeats 4000000 in
set_option maxRecDepth 100000 in
theorem c_X0_stampsMissing (l : Launch) (G : va_G) (cI cZ : ClassId) (h : Nat) (a : Nat → Nat) (F : Nat → Nat → Int32) (nq no np : Nat) (sh nw : Int32) (sz : Nat) (x : Int32) (y : Int32) (hnq : nq ≤ 6) (hno : no ≤ 10) (hnp : np ≤ 20) (hx9 : p_in x np = true) (hy9 : p_in y nq = true) : Met l yX0_stampsMissing wsX0_stampsMissing ({ frames := 5, cells := 0, slots := 0, locals := 117 } : Room) (va_Pc [.ref h, .int x, .int y] (wPre G (ty2 cI cZ) (Dk cI cZ h a F nq no np sh nw) sz)) (va_Qi (fun (r : Int32) (_ : Unit) => r = p_miss F sh no x.toNatClampNeg y nw (-1)) (fun _ => wP G (ty2 cI cZ) (Dk cI cZ h a F nq no np sh nw) (va_A (Dk cI cZ h a F nq no np sh nw) sz)) (va_A (Dk cI cZ h a F nq no np sh nw) sz)) 0 0 (va_A (Dk cI cZ h a F nq no np sh nw) sz) := by
  refine w_met (cc := cX0_stampsMissing) (maxL := 3) (ret := (some .int)) (by decide) rfl (Nat.le_of_ble_eq_true rfl) ?_
  intro pg e s m below meth cd hx hb hml hr hts hown hlocks hnm hK hsz hP hD hA hS ls hl
  have hown : s.vm.findClass RX0 = some m.cls := hown
  have hl : lv_has ls 3 [(0, .ref h), (1, .int x), (2, .int y)] := hl
  generalize hAe : va_A (Dk cI cZ h a F nq no np sh nw) sz = A at hD hA hS ⊢
  refine lv_aload_n hx hb dX0_stampsMissing_0 rfl (lv_at hl 0 rfl) ?_
  refine lv_iload_n hx hb dX0_stampsMissing_1 rfl (lv_at hl 1 rfl) ?_
  refine w_in_v (va_runV (As := [.int x]) (rest := []) ⟨hx, hb, hml, hown, hts⟩ (c_X0_requirePerson l G cI cZ h a F nq no np sh nw s.heap.size x (by omega) (hx9)) (cwV 1 hts gX0_stampsMissing_X0_requirePerson rfl rfl rfl (by decide +kernel) ⟨(Nat.le_of_ble_eq_true rfl), (Nat.le_of_ble_eq_true rfl)⟩) ⟨wPre_blind, va_recv hK hP (ci := 0) (q0 := 0) rfl rfl, w_pre hK hP hD⟩ rfl rfl hl.1 rfl (lv_room (Nat.le_of_ble_eq_true rfl)) dX0_stampsMissing_2 ⟨(Nat.le_of_ble_eq_true rfl), (Nat.le_of_ble_eq_true rfl)⟩) hD hS hA (fun u2 H locs hw2 hP hD hS => ?_)
  have hP : va_P G vwCl (Dk cI cZ h a F nq no np sh nw) H := hP
  have hD : va_D A (Dk cI cZ h a F nq no np sh nw) := hD
  obtain ⟨j, hj, rfl⟩ := pin_of hx9
  refine lv_aload_n hx hb dX0_stampsMissing_5 rfl (lv_at hl 0 rfl) ?_
  refine lv_iload_n hx hb dX0_stampsMissing_6 rfl (lv_at hl 2 rfl) ?_
  refine w_in_v (va_runV (As := [.int y]) (rest := []) ⟨hx, hb, hml, hown, hts⟩ (c_X0_requireQuarter l G cI cZ h a F nq no np sh nw H.size y (by omega) (hy9)) (cwV 1 hts gX0_stampsMissing_X0_requireQuarter rfl rfl rfl (by decide +kernel) ⟨(Nat.le_of_ble_eq_true rfl), (Nat.le_of_ble_eq_true rfl)⟩) ⟨wPre_blind, va_recv hK hP (ci := 0) (q0 := 0) rfl rfl, w_pre hK hP hD⟩ rfl rfl hl.1 rfl (lv_room (Nat.le_of_ble_eq_true rfl)) dX0_stampsMissing_7 ⟨(Nat.le_of_ble_eq_true rfl), (Nat.le_of_ble_eq_true rfl)⟩) hD hS hA (fun u7 H locs hw7 hP hD hS => ?_)
  have hP : va_P G vwCl (Dk cI cZ h a F nq no np sh nw) H := hP
  have hD : va_D A (Dk cI cZ h a F nq no np sh nw) := hD
  refine lv_aload_n hx hb dX0_stampsMissing_10 rfl (lv_at hl 0 rfl) ?_
  refine lv_iload_n hx hb dX0_stampsMissing_11 rfl (lv_at hl 1 rfl) ?_
  refine lv_iload_n hx hb dX0_stampsMissing_12 rfl (lv_at hl 2 rfl) ?_
  refine lv_iconst (v := (-1)) hx hb dX0_stampsMissing_13 (by decide) ?_
  refine w_in_i (va_runV (As := [.int (nI j), .int y, .int (-1)]) (rest := []) ⟨hx, hb, hml, hown, hts⟩ (c_X0_missing l G cI cZ h a F nq no np sh nw H.size j y (-1) (by omega) (by omega)) (cwV 3 hts gX0_stampsMissing_X0_missing rfl rfl rfl (by decide +kernel) ⟨(Nat.le_of_ble_eq_true rfl), (Nat.le_of_ble_eq_true rfl)⟩) ⟨wPre_blind, va_recv hK hP (ci := 0) (q0 := 0) rfl rfl, w_pre hK hP hD⟩ rfl rfl hl.1 rfl (lv_room (Nat.le_of_ble_eq_true rfl)) dX0_stampsMissing_14 ⟨(Nat.le_of_ble_eq_true rfl), (Nat.le_of_ble_eq_true rfl)⟩) hD hS hA (fun r14 u14 H locs hw14 hP hD hS => ?_)
  have hP : va_P G vwCl (Dk cI cZ h a F nq no np sh nw) H := hP
  have hD : va_D A (Dk cI cZ h a F nq no np sh nw) := hD
  have hw14 : r14 = p_miss F sh no j y nw (-1) := hw14
  subst hw14
  exact w_iret () hx hb hr hlocks hK hP hD hS (Nat.le_of_ble_eq_true rfl) (Nat.le_of_ble_eq_true rfl) dX0_stampsMissing_17 (show (p_miss F sh no j y nw (-1)) = p_miss F sh no (nI j).toNatClampNeg y nw (-1) from by simp only [nI_clamp (show j < 2 ^ 31 by omega)])
set_option maxHeartbeats 4000000 in
set_option maxRecDepth 100000 in
theorem c_X0_halfHoursUntilFree (l : Launch) (G : va_G) (cI cZ : ClassId) (h : Nat) (a : Nat → Nat) (F : Nat → Nat → Int32) (nq no np : Nat) (sh nw : Int32) (sz : Nat) (x : Int32) (y : Int32) (hnq : nq ≤ 6) (hno : no ≤ 10) (hnp : np ≤ 20) (hx9 : p_in x np = true) (hy9 : p_in y nq = true) : Met l yX0_halfHoursUntilFree wsX0_halfHoursUntilFree ({ frames := 5, cells := 0, slots := 0, locals := 114 } : Room) (va_Pc [.ref h, .int x, .int y] (wPre G (ty2 cI cZ) (Dk cI cZ h a F nq no np sh nw) sz)) (va_Qi (fun (r : Int32) (_ : Unit) => r = a_hu F sh nw no x.toNatClampNeg y) (fun _ => wP G (ty2 cI cZ) (Dk cI cZ h a F nq no np sh nw) (va_A (Dk cI cZ h a F nq no np sh nw) sz)) (va_A (Dk cI cZ h a F nq no np sh nw) sz)) 0 0 (va_A (Dk cI cZ h a F nq no np sh nw) sz) := by
  refine w_met (cc := cX0_halfHoursUntilFree) (maxL := 4) (ret := (some .int)) (by decide) rfl (Nat.le_of_ble_eq_true rfl) ?_
  intro pg e s m below meth cd hx hb hml hr hts hown hlocks hnm hK hsz hP hD hA hS ls hl
  have hown : s.vm.findClass RX0 = some m.cls := hown
  have hin : ∀ w ∈ wsX00, w ∈ wsX0_halfHoursUntilFree := by decide +kernel
  have hl : lv_has ls 4 [(0, .ref h), (1, .int x), (2, .int y)] := hl
  generalize hAe : va_A (Dk cI cZ h a F nq no np sh nw) sz = A at hD hA hS ⊢
  refine lv_aload_n hx hb dX0_halfHoursUntilFree_0 rfl (lv_at hl 0 rfl) ?_
  refine lv_iload_n hx hb dX0_halfHoursUntilFree_1 rfl (lv_at hl 1 rfl) ?_
  refine w_in_v (va_runV (As := [.int x]) (rest := []) ⟨hx, hb, hml, hown, hts⟩ (c_X0_requirePerson l G cI cZ h a F nq no np sh nw s.heap.size x (by omega) (hx9)) (cwV 1 hts gX0_halfHoursUntilFree_X0_requirePerson rfl rfl rfl (by decide +kernel) ⟨(Nat.le_of_ble_eq_true rfl), (Nat.le_of_ble_eq_true rfl)⟩) ⟨wPre_blind, va_recv hK hP (ci := 0) (q0 := 0) rfl rfl, w_pre hK hP hD⟩ rfl rfl hl.1 rfl (lv_room (Nat.le_of_ble_eq_true rfl)) dX0_halfHoursUntilFree_2 ⟨(Nat.le_of_ble_eq_true rfl), (Nat.le_of_ble_eq_true rfl)⟩) hD hS hA (fun u2 H locs hw2 hP hD hS => ?_)
  have hP : va_P G vwCl (Dk cI cZ h a F nq no np sh nw) H := hP
  have hD : va_D A (Dk cI cZ h a F nq no np sh nw) := hD
  obtain ⟨j, hj, rfl⟩ := pin_of hx9
  refine lv_aload_n hx hb dX0_halfHoursUntilFree_5 rfl (lv_at hl 0 rfl) ?_
  refine lv_iload_n hx hb dX0_halfHoursUntilFree_6 rfl (lv_at hl 2 rfl) ?_
  refine w_in_v (va_runV (As := [.int y]) (rest := []) ⟨hx, hb, hml, hown, hts⟩ (c_X0_requireQuarter l G cI cZ h a F nq no np sh nw H.size y (by omega) (hy9)) (cwV 1 hts gX0_halfHoursUntilFree_X0_requireQuarter rfl rfl rfl (by decide +kernel) ⟨(Nat.le_of_ble_eq_true rfl), (Nat.le_of_ble_eq_true rfl)⟩) ⟨wPre_blind, va_recv hK hP (ci := 0) (q0 := 0) rfl rfl, w_pre hK hP hD⟩ rfl rfl hl.1 rfl (lv_room (Nat.le_of_ble_eq_true rfl)) dX0_halfHoursUntilFree_7 ⟨(Nat.le_of_ble_eq_true rfl), (Nat.le_of_ble_eq_true rfl)⟩) hD hS hA (fun u7 H locs hw7 hP hD hS => ?_)
  have hP : va_P G vwCl (Dk cI cZ h a F nq no np sh nw) H := hP
  have hD : va_D A (Dk cI cZ h a F nq no np sh nw) := hD
  refine lv_iconst (v := 0) hx hb dX0_halfHoursUntilFree_10 (by decide) ?_
  refine lv_istore_n (lv' := [(3, .int 0), (0, .ref h), (1, .int (nI j)), (2, .int y)]) hx hb dX0_halfHoursUntilFree_11 rfl hl (by decide) rfl (fun ls hl => ?_)
  have key12 : ∀ (n i12 : Nat), i12 ≤ 49 → 49 < i12 + n → (p_ff (p_hP F sh nw no j y) 0 49 = p_ff (p_hP F sh nw no j y) i12 (49 - i12)) → ∀ (x3 : Int32), x3 = nI i12 → ∀ (H : Heap) (locs : List Loc), va_P G vwCl (Dk cI cZ h a F nq no np sh nw) H → va_D A (Dk cI cZ h a F nq no np sh nw) → va_S A s.heap H locs → ∀ ls : Array Slot, lv_has ls 4 [(0, .ref h), (1, .int (nI j)), (2, .int y), (3, .int x3)] → W pg l e ({ frames := 5, cells := 0, slots := 0, locals := 114 } : Room) s m ([.ref h, .int (nI j), .int y] : List Value).toArray below meth cd H locs (0 + 0 + 0) (0 + 0 + 0) (MQ below (va_Qi (fun (r : Int32) (_ : Unit) => r = a_hu F sh nw no (nI j).toNatClampNeg y) (fun _ => wP G (ty2 cI cZ) (Dk cI cZ h a F nq no np sh nw) A) A) ([.ref h, .int (nI j), .int y] : List Value).toArray s 0 0 A) (F0 m 12 ls []) := by
    intro n
    induction n with
    | zero => intro i12 h1 h2; exact absurd h2 (by omega)
    | succ n ih12 =>
      intro i12 hi_i12 hn_i12 hv x3 e3 H locs hP hD hS ls hl
      subst e3
      refine lv_iload_n hx hb dX0_halfHoursUntilFree_12 rfl (lv_at hl 3 rfl) ?_
      refine lv_bipush (v := 48) hx hb dX0_halfHoursUntilFree_13 (by decide) ?_
      refine lv_icmp_gt (tgt := 41) hx hb dX0_halfHoursUntilFree_15 (by decide) (fun c15 => ?_) (fun c15 => ?_)
      · have c15 := (nI_ltI (a := 48) (b := i12) (by omega) (by omega)).mp c15
        have ei : 49 = i12 := by omega
        subst ei
        refine lv_iconst (v := (-1)) hx hb dX0_halfHoursUntilFree_41 (by decide) ?_
        exact w_iret () hx hb hr hlocks hK hP hD hS (Nat.le_of_ble_eq_true rfl) (Nat.le_of_ble_eq_true rfl) dX0_halfHoursUntilFree_42 (show (-1) = a_hu F sh nw no (nI j).toNatClampNeg y from by rw [a_hu, nI_clamp (show j < 2 ^ 31 by omega), hv]; rfl)
      · have c15 := mt (nI_ltI (a := 48) (b := i12) (by omega) (by omega)).mpr c15
        have hlt_i12 : i12 < 49 := by omega
        refine lv_aload_n hx hb dX0_halfHoursUntilFree_18 rfl (lv_at hl 0 rfl) ?_
        refine lv_iload_n hx hb dX0_halfHoursUntilFree_19 rfl (lv_at hl 1 rfl) ?_
        refine lv_iload_n hx hb dX0_halfHoursUntilFree_20 rfl (lv_at hl 2 rfl) ?_
        refine lv_aload_n hx hb dX0_halfHoursUntilFree_21 rfl (lv_at hl 0 rfl) ?_
        refine va_get (ci := 0) (v := .int nw) (C := RX0) (T := TX0) (N := 16) hx hb hts hin hown hK hP 0 rfl rfl 15 (by decide) (hts (.fieldLink RX0 101 "CurfewDesk" "now" "I") (by decide +kernel)) (fun _ h9 => h9) rfl dX0_halfHoursUntilFree_22 ?_
        refine lv_iload_n hx hb dX0_halfHoursUntilFree_25 rfl (lv_at hl 3 rfl) ?_
        refine lv_iadd hx hb dX0_halfHoursUntilFree_26 ?_
        refine w_in_i (va_runV (As := [.int (nI j), .int y, .int (nw + (nI i12))]) (rest := []) ⟨hx, hb, hml, hown, hts⟩ (c_X0_isFreeAt l G cI cZ h a F nq no np sh nw H.size j y (nw + (nI i12)) (by omega) (by omega)) (cwV 3 hts gX0_halfHoursUntilFree_X0_isFreeAt rfl rfl rfl (by decide +kernel) ⟨(Nat.le_of_ble_eq_true rfl), (Nat.le_of_ble_eq_true rfl)⟩) ⟨wPre_blind, va_recv hK hP (ci := 0) (q0 := 0) rfl rfl, w_pre hK hP hD⟩ rfl rfl hl.1 rfl (lv_room (Nat.le_of_ble_eq_true rfl)) dX0_halfHoursUntilFree_27 ⟨(Nat.le_of_ble_eq_true rfl), (Nat.le_of_ble_eq_true rfl)⟩) hD hS hA (fun r27 u27 H locs hw27 hP hD hS => ?_)
        have hP : va_P G vwCl (Dk cI cZ h a F nq no np sh nw) H := hP
        have hD : va_D A (Dk cI cZ h a F nq no np sh nw) := hD
        have hw27 : r27 = b2i (decide (p_ag F sh no j y (nw + (nI i12)) = 0)) := hw27
        subst hw27
        refine lv_if_eq (tgt := 35) hx hb dX0_halfHoursUntilFree_30 (by decide) (fun c30 => ?_) (fun c30 => ?_)
        · have c30 := b2i_0.mp c30
          refine lv_iinc (v := nI i12 + 1) (lv' := [(3, .int (nI i12 + 1)), (0, .ref h), (1, .int (nI j)), (2, .int y)]) hx hb dX0_halfHoursUntilFree_35 hl (k := 3) rfl rfl (by decide) rfl (fun ls hl => ?_)
          refine lv_goto (tgt := 12) hx hb dX0_halfHoursUntilFree_38 (by decide) ?_
          exact ih12 (i12 + 1) (by omega) (by omega) (by rw [hv]; exact ff_f hlt_i12 c30) (nI i12 + 1) (by first | exact nI_1 _ | exact nct_t (by assumption) | exact nct_f (by assumption) | exact nct_b | rfl) _ _ hP hD hS _ (lv_sub hl [1, 2, 3, 0] rfl)
        · have c30 := b2i_1.mp c30
          refine lv_iload_n hx hb dX0_halfHoursUntilFree_33 rfl (lv_at hl 3 rfl) ?_
          exact w_iret () hx hb hr hlocks hK hP hD hS (Nat.le_of_ble_eq_true rfl) (Nat.le_of_ble_eq_true rfl) dX0_halfHoursUntilFree_34 (show (nI i12) = a_hu F sh nw no (nI j).toNatClampNeg y from by rw [a_hu, nI_clamp (show j < 2 ^ 31 by omega), hv]; exact (ff_t hlt_i12 c30).symm)
  exact key12 (49 + 1) 0 (by omega) (by omega) (by rfl) 0 (by first | rfl | simp [p_ct, p_sm, p_fl, p_fg, nI_0]) _ _ hP hD hS _ (lv_sub hl [1, 2, 3, 0] rfl)
