set_option maxHeartbeats 4000000 in
set_option maxRecDepth 100000 in
theorem c_X1_digest (l : Launch) (G : va_G) (cI cZ : ClassId) (h : Nat) (a : Nat → Nat) (F : Nat → Nat → Int32) (nq no np : Nat) (sh nw : Int32) (th : Int32) (wt : Nat → Int32) (sz : Nat) (hnq : nq ≤ 6) (hno : no ≤ 10) (hnp : np ≤ 20) : Met l yX1_digest wsX1_digest ({ frames := 6, cells := 1, slots := 9, locals := 137 } : Room) (va_Pc [.ref h] (wPre G (ty2 cI cZ) (Mk cI cZ h a F nq no np sh nw th wt) sz)) (va_Ql (fun (r : Int64) (_ : Unit) => r = p_dig F nq no np sh nw) (fun _ => wP G (ty2 cI cZ) (Mk cI cZ h a F nq no np sh nw 0 wt) (va_A (Mk cI cZ h a F nq no np sh nw th wt) sz)) (va_A (Mk cI cZ h a F nq no np sh nw th wt) sz)) 1 9 (va_A (Mk cI cZ h a F nq no np sh nw th wt) sz) := by
  refine w_met (cc := cX1_digest) (maxL := 9) (ret := (some .long)) (by decide) rfl (Nat.le_of_ble_eq_true rfl) ?_
  intro pg e s m below meth cd hx hb hml hr hts hown hlocks hnm hK hsz hP hD hA hS ls hl
  have hown : s.vm.findClass RX1 = some m.cls := hown
  have hin : ∀ w ∈ wsX10, w ∈ wsX1_digest := by decide +kernel
  have hl : lv_has ls 9 [(0, .ref h)] := hl
  generalize hAe : va_A (Mk cI cZ h a F nq no np sh nw th wt) sz = A at hD hA hS ⊢
  refine lv_aload_n hx hb dX1_digest_0 rfl (lv_at hl 0 rfl) ?_
  refine lv_iconst (v := 0) hx hb dX1_digest_1 (by decide) ?_
  refine va_put (ci := 1) (v := .int 0) (ty := .int) (C := RX1) (T := TX1) (N := 18) hx hb hts hin tyX1 tyX1_ok nmX1 hown hK hP hD hS 0 rfl rfl 0 (by decide) (hts (.fieldLink RX1 47 "CurfewDeskModel" "thrown" "I") (by decide +kernel)) (fun _ h9 => h9) rfl (by decide +kernel) rfl rfl (Nat.le_of_ble_eq_true rfl) dX1_digest_2 (fun H locs hP hD hS => ?_)
  have hP : va_P G vwCl (Mk cI cZ h a F nq no np sh nw 0 wt) H := hP
  have hD : va_D A (Mk cI cZ h a F nq no np sh nw 0 wt) := hD
  refine lv_aload_n hx hb dX1_digest_5 rfl (lv_at hl 0 rfl) ?_
  refine va_get (ci := 1) (v := .int nw) (C := RX1) (T := TX1) (N := 18) hx hb hts hin hown hK hP 0 rfl rfl 1 (by decide) (hts (.fieldLink RX1 122 "CurfewDeskModel" "time" "I") (by decide +kernel)) (fun _ h9 => h9) rfl dX1_digest_6 ?_
  refine lv_bipush (v := 48) hx hb dX1_digest_9 (by decide) ?_
  refine lv_idiv hx hb dX1_digest_11 (by decide) ?_
  refine lv_istore_n (lv' := [(1, .int (nw / 48)), (0, .ref h)]) hx hb dX1_digest_12 rfl hl (by decide) rfl (fun ls hl => ?_)
  refine lv_bipush (v := 9) hx hb dX1_digest_13 (by decide) ?_
  refine w_newI (N := 9) hx hb (hts (.arrayClass .int) (by decide +kernel)) (hK.2 0 (cI, .int) rfl).2 hK hP hD hS hA (by decide) (by decide) (by decide) (Nat.le_of_ble_eq_true rfl) (Nat.le_of_ble_eq_true rfl) dX1_digest_15 (fun q15 H hKI hP hD hS => ?_)
  have hP : va_P G vwCl ((Mk cI cZ h a F nq no np sh nw 0 wt) ++ [(q15, .inl (cI, 9, .inl (fun _ => 0)))]) H := hP
  have hD : va_D A ((Mk cI cZ h a F nq no np sh nw 0 wt) ++ [(q15, .inl (cI, 9, .inl (fun _ => 0)))]) := hD
  refine lv_dup hx hb dX1_digest_17 rfl ?_
  refine lv_iconst (v := 0) hx hb dX1_digest_18 (by decide) ?_
  refine lv_iload_n hx hb dX1_digest_19 rfl (lv_at hl 0 rfl) ?_
  refine w_iast hx hb hK hP hD hS 13 0 rfl rfl (f := (fun _ => 0)) (j := 0) (by omega) (by omega) dX1_digest_20 (fun H locs hP hD hS => ?_)
  have hP : va_P G vwCl ((Mk cI cZ h a F nq no np sh nw 0 wt) ++ [(q15, .inl (cI, 9, .inl (upd (fun _ => 0) 0 (nw / 48))))]) H := hP
  have hD : va_D A ((Mk cI cZ h a F nq no np sh nw 0 wt) ++ [(q15, .inl (cI, 9, .inl (upd (fun _ => 0) 0 (nw / 48))))]) := hD
  refine lv_dup hx hb dX1_digest_21 rfl ?_
  refine lv_iconst (v := 1) hx hb dX1_digest_22 (by decide) ?_
  refine lv_aload_n hx hb dX1_digest_23 rfl (lv_at hl 1 rfl) ?_
  refine va_get (ci := 1) (v := .int nw) (C := RX1) (T := TX1) (N := 18) hx hb hts hin hown hK hP 0 rfl rfl 1 (by decide) (hts (.fieldLink RX1 122 "CurfewDeskModel" "time" "I") (by decide +kernel)) (fun _ h9 => h9) rfl dX1_digest_24 ?_
  refine lv_bipush (v := 48) hx hb dX1_digest_27 (by decide) ?_
  refine lv_irem hx hb dX1_digest_29 (by decide) ?_
  refine w_iast hx hb hK hP hD hS 13 0 rfl rfl (f := (upd (fun _ => 0) 0 (nw / 48))) (j := 1) (by omega) (by omega) dX1_digest_30 (fun H locs hP hD hS => ?_)
  have hP : va_P G vwCl ((Mk cI cZ h a F nq no np sh nw 0 wt) ++ [(q15, .inl (cI, 9, .inl (upd (upd (fun _ => 0) 0 (nw / 48)) 1 (nw - nw / 48 * 48))))]) H := hP
  have hD : va_D A ((Mk cI cZ h a F nq no np sh nw 0 wt) ++ [(q15, .inl (cI, 9, .inl (upd (upd (fun _ => 0) 0 (nw / 48)) 1 (nw - nw / 48 * 48))))]) := hD
  refine lv_dup hx hb dX1_digest_31 rfl ?_
  refine lv_iconst (v := 2) hx hb dX1_digest_32 (by decide) ?_
  refine lv_aload_n hx hb dX1_digest_33 rfl (lv_at hl 1 rfl) ?_
  refine lv_iload_n hx hb dX1_digest_34 rfl (lv_at hl 0 rfl) ?_
  refine w_pl_i (wr := [(q15, .inl (cI, 9, .inl (upd (upd (fun _ => 0) 0 (nw / 48)) 1 (nw - nw / 48 * 48))))]) (va_runV (As := [.int (nw / 48)]) (rest := [.int 2, .ref q15, .ref q15]) ⟨hx, hb, hml, hown, hts⟩ (c_X1_dusk l G cI cZ h a F nq no np sh nw 0 wt H.size (nw / 48) ) (cwV 1 hts gX1_digest_X1_dusk rfl rfl rfl (by decide +kernel) ⟨(Nat.le_of_ble_eq_true rfl), (Nat.le_of_ble_eq_true rfl)⟩) ⟨wPre_blind, va_recv hK hP (ci := 1) (q0 := 0) rfl rfl, w_preP hK hP hD [0, 1, 2, 3, 4, 5, 6, 7, 8, 9, 10, 11, 12] (by decide) rfl rfl⟩ rfl rfl hl.1 rfl (lv_room (Nat.le_of_ble_eq_true rfl)) dX1_digest_35 ⟨(Nat.le_of_ble_eq_true rfl), (Nat.le_of_ble_eq_true rfl)⟩) hP hD hS hA [0, 1, 2, 3, 4, 5, 6, 7, 8, 9, 10, 11, 12] [13] rfl rfl (by decide) (by decide) (fun r35 u35 H locs hw35 hP hD hS => ?_)
  have hP := hP.sub (ws' := (Mk cI cZ h a F nq no np sh nw 0 wt) ++ [(q15, .inl (cI, 9, .inl (upd (upd (fun _ => 0) 0 (nw / 48)) 1 (nw - nw / 48 * 48))))]) [1, 2, 3, 4, 5, 6, 7, 8, 9, 10, 11, 12, 13, 0] rfl
  have hD := hD.sub (ws' := (Mk cI cZ h a F nq no np sh nw 0 wt) ++ [(q15, .inl (cI, 9, .inl (upd (upd (fun _ => 0) 0 (nw / 48)) 1 (nw - nw / 48 * 48))))]) [1, 2, 3, 4, 5, 6, 7, 8, 9, 10, 11, 12, 13, 0] (by decide) rfl
  have hP : va_P G vwCl ((Mk cI cZ h a F nq no np sh nw 0 wt) ++ [(q15, .inl (cI, 9, .inl (upd (upd (fun _ => 0) 0 (nw / 48)) 1 (nw - nw / 48 * 48))))]) H := hP
  have hD : va_D A ((Mk cI cZ h a F nq no np sh nw 0 wt) ++ [(q15, .inl (cI, 9, .inl (upd (upd (fun _ => 0) 0 (nw / 48)) 1 (nw - nw / 48 * 48))))]) := hD
  have hw35 : r35 = p_dusk (nw / 48) sh := hw35
  subst hw35
  refine w_iast hx hb hK hP hD hS 13 0 rfl rfl (f := (upd (upd (fun _ => 0) 0 (nw / 48)) 1 (nw - nw / 48 * 48))) (j := 2) (by omega) (by omega) dX1_digest_38 (fun H locs hP hD hS => ?_)
  have hP : va_P G vwCl ((Mk cI cZ h a F nq no np sh nw 0 wt) ++ [(q15, .inl (cI, 9, .inl (upd (upd (upd (fun _ => 0) 0 (nw / 48)) 1 (nw - nw / 48 * 48)) 2 (p_dusk (nw / 48) sh))))]) H := hP
  have hD : va_D A ((Mk cI cZ h a F nq no np sh nw 0 wt) ++ [(q15, .inl (cI, 9, .inl (upd (upd (upd (fun _ => 0) 0 (nw / 48)) 1 (nw - nw / 48 * 48)) 2 (p_dusk (nw / 48) sh))))]) := hD
  refine lv_dup hx hb dX1_digest_39 rfl ?_
  refine lv_iconst (v := 3) hx hb dX1_digest_40 (by decide) ?_
  refine lv_iload_n hx hb dX1_digest_41 rfl (lv_at hl 0 rfl) ?_
  refine w_st_i (va_runS (As := [.int (nw / 48)]) (rest := [.int 3, .ref q15, .ref q15]) ⟨hx, hb, hml, hown, hts⟩ (c_X1_dawn l G H.size (nw / 48) ) (va_cwS 1 hts gX1_digest_X1_dawn rfl rfl rfl (by decide +kernel) ⟨(Nat.le_of_ble_eq_true rfl), (Nat.le_of_ble_eq_true rfl)⟩) ⟨wPre_blind, w_pre (hK.sub [] rfl) w_P0 (w_D0 (A := A))⟩ rfl rfl hl.1 rfl (lv_room (Nat.le_of_ble_eq_true rfl)) dX1_digest_42 ⟨(Nat.le_of_ble_eq_true rfl), (Nat.le_of_ble_eq_true rfl)⟩) hP hS hA (fun r42 u42 H locs hw42 hP hS => ?_)
  have hw42 : r42 = p_dawn (nw / 48) := hw42
  subst hw42
  refine w_iast hx hb hK hP hD hS 13 0 rfl rfl (f := (upd (upd (upd (fun _ => 0) 0 (nw / 48)) 1 (nw - nw / 48 * 48)) 2 (p_dusk (nw / 48) sh))) (j := 3) (by omega) (by omega) dX1_digest_45 (fun H locs hP hD hS => ?_)
  have hP : va_P G vwCl ((Mk cI cZ h a F nq no np sh nw 0 wt) ++ [(q15, .inl (cI, 9, .inl (upd (upd (upd (upd (fun _ => 0) 0 (nw / 48)) 1 (nw - nw / 48 * 48)) 2 (p_dusk (nw / 48) sh)) 3 (p_dawn (nw / 48)))))]) H := hP
  have hD : va_D A ((Mk cI cZ h a F nq no np sh nw 0 wt) ++ [(q15, .inl (cI, 9, .inl (upd (upd (upd (upd (fun _ => 0) 0 (nw / 48)) 1 (nw - nw / 48 * 48)) 2 (p_dusk (nw / 48) sh)) 3 (p_dawn (nw / 48)))))]) := hD
  refine lv_dup hx hb dX1_digest_46 rfl ?_
  refine lv_iconst (v := 4) hx hb dX1_digest_47 (by decide) ?_
  refine lv_aload_n hx hb dX1_digest_48 rfl (lv_at hl 1 rfl) ?_
  refine va_get (ci := 1) (v := .int (nI nq)) (C := RX1) (T := TX1) (N := 18) hx hb hts hin hown hK hP 0 rfl rfl 3 (by decide) (hts (.fieldLink RX1 51 "CurfewDeskModel" "quarters" "I") (by decide +kernel)) (fun _ h9 => h9) rfl dX1_digest_49 ?_
  refine w_iast hx hb hK hP hD hS 13 0 rfl rfl (f := (upd (upd (upd (upd (fun _ => 0) 0 (nw / 48)) 1 (nw - nw / 48 * 48)) 2 (p_dusk (nw / 48) sh)) 3 (p_dawn (nw / 48)))) (j := 4) (by omega) (by omega) dX1_digest_52 (fun H locs hP hD hS => ?_)
  have hP : va_P G vwCl ((Mk cI cZ h a F nq no np sh nw 0 wt) ++ [(q15, .inl (cI, 9, .inl (upd (upd (upd (upd (upd (fun _ => 0) 0 (nw / 48)) 1 (nw - nw / 48 * 48)) 2 (p_dusk (nw / 48) sh)) 3 (p_dawn (nw / 48))) 4 (nI nq))))]) H := hP
  have hD : va_D A ((Mk cI cZ h a F nq no np sh nw 0 wt) ++ [(q15, .inl (cI, 9, .inl (upd (upd (upd (upd (upd (fun _ => 0) 0 (nw / 48)) 1 (nw - nw / 48 * 48)) 2 (p_dusk (nw / 48) sh)) 3 (p_dawn (nw / 48))) 4 (nI nq))))]) := hD
  refine lv_dup hx hb dX1_digest_53 rfl ?_
  refine lv_iconst (v := 5) hx hb dX1_digest_54 (by decide) ?_
  refine lv_aload_n hx hb dX1_digest_55 rfl (lv_at hl 1 rfl) ?_
  refine va_get (ci := 1) (v := .int (nI no)) (C := RX1) (T := TX1) (N := 18) hx hb hts hin hown hK hP 0 rfl rfl 4 (by decide) (hts (.fieldLink RX1 58 "CurfewDeskModel" "orders" "I") (by decide +kernel)) (fun _ h9 => h9) rfl dX1_digest_56 ?_
  refine w_iast hx hb hK hP hD hS 13 0 rfl rfl (f := (upd (upd (upd (upd (upd (fun _ => 0) 0 (nw / 48)) 1 (nw - nw / 48 * 48)) 2 (p_dusk (nw / 48) sh)) 3 (p_dawn (nw / 48))) 4 (nI nq))) (j := 5) (by omega) (by omega) dX1_digest_59 (fun H locs hP hD hS => ?_)
  have hP : va_P G vwCl ((Mk cI cZ h a F nq no np sh nw 0 wt) ++ [(q15, .inl (cI, 9, .inl (upd (upd (upd (upd (upd (upd (fun _ => 0) 0 (nw / 48)) 1 (nw - nw / 48 * 48)) 2 (p_dusk (nw / 48) sh)) 3 (p_dawn (nw / 48))) 4 (nI nq)) 5 (nI no))))]) H := hP
  have hD : va_D A ((Mk cI cZ h a F nq no np sh nw 0 wt) ++ [(q15, .inl (cI, 9, .inl (upd (upd (upd (upd (upd (upd (fun _ => 0) 0 (nw / 48)) 1 (nw - nw / 48 * 48)) 2 (p_dusk (nw / 48) sh)) 3 (p_dawn (nw / 48))) 4 (nI nq)) 5 (nI no))))]) := hD
  refine lv_dup hx hb dX1_digest_60 rfl ?_
  refine lv_bipush (v := 6) hx hb dX1_digest_61 (by decide) ?_
  refine lv_aload_n hx hb dX1_digest_63 rfl (lv_at hl 1 rfl) ?_
  refine va_get (ci := 1) (v := .int (nI np)) (C := RX1) (T := TX1) (N := 18) hx hb hts hin hown hK hP 0 rfl rfl 5 (by decide) (hts (.fieldLink RX1 61 "CurfewDeskModel" "people" "I") (by decide +kernel)) (fun _ h9 => h9) rfl dX1_digest_64 ?_
  refine w_iast hx hb hK hP hD hS 13 0 rfl rfl (f := (upd (upd (upd (upd (upd (upd (fun _ => 0) 0 (nw / 48)) 1 (nw - nw / 48 * 48)) 2 (p_dusk (nw / 48) sh)) 3 (p_dawn (nw / 48))) 4 (nI nq)) 5 (nI no))) (j := 6) (by omega) (by omega) dX1_digest_67 (fun H locs hP hD hS => ?_)
  have hP : va_P G vwCl ((Mk cI cZ h a F nq no np sh nw 0 wt) ++ [(q15, .inl (cI, 9, .inl (upd (upd (upd (upd (upd (upd (upd (fun _ => 0) 0 (nw / 48)) 1 (nw - nw / 48 * 48)) 2 (p_dusk (nw / 48) sh)) 3 (p_dawn (nw / 48))) 4 (nI nq)) 5 (nI no)) 6 (nI np))))]) H := hP
  have hD : va_D A ((Mk cI cZ h a F nq no np sh nw 0 wt) ++ [(q15, .inl (cI, 9, .inl (upd (upd (upd (upd (upd (upd (upd (fun _ => 0) 0 (nw / 48)) 1 (nw - nw / 48 * 48)) 2 (p_dusk (nw / 48) sh)) 3 (p_dawn (nw / 48))) 4 (nI nq)) 5 (nI no)) 6 (nI np))))]) := hD
  refine lv_dup hx hb dX1_digest_68 rfl ?_
  refine lv_bipush (v := 7) hx hb dX1_digest_69 (by decide) ?_
  refine lv_aload_n hx hb dX1_digest_71 rfl (lv_at hl 1 rfl) ?_
  refine w_pl_i (wr := [(q15, .inl (cI, 9, .inl (upd (upd (upd (upd (upd (upd (upd (fun _ => 0) 0 (nw / 48)) 1 (nw - nw / 48 * 48)) 2 (p_dusk (nw / 48) sh)) 3 (p_dawn (nw / 48))) 4 (nI nq)) 5 (nI no)) 6 (nI np))))]) (va_runV (As := []) (rest := [.int 7, .ref q15, .ref q15]) ⟨hx, hb, hml, hown, hts⟩ (c_X1_manyOn l G cI cZ h a F nq no np sh nw 0 wt H.size (by omega)) (cwV 0 hts gX1_digest_X1_manyOn rfl rfl rfl (by decide +kernel) ⟨(Nat.le_of_ble_eq_true rfl), (Nat.le_of_ble_eq_true rfl)⟩) ⟨wPre_blind, va_recv hK hP (ci := 1) (q0 := 0) rfl rfl, w_preP hK hP hD [0, 1, 2, 3, 4, 5, 6, 7, 8, 9, 10, 11, 12] (by decide) rfl rfl⟩ rfl rfl hl.1 rfl (lv_room (Nat.le_of_ble_eq_true rfl)) dX1_digest_72 ⟨(Nat.le_of_ble_eq_true rfl), (Nat.le_of_ble_eq_true rfl)⟩) hP hD hS hA [0, 1, 2, 3, 4, 5, 6, 7, 8, 9, 10, 11, 12] [13] rfl rfl (by decide) (by decide) (fun r72 u72 H locs hw72 hP hD hS => ?_)
  have hP := hP.sub (ws' := (Mk cI cZ h a F nq no np sh nw 0 wt) ++ [(q15, .inl (cI, 9, .inl (upd (upd (upd (upd (upd (upd (upd (fun _ => 0) 0 (nw / 48)) 1 (nw - nw / 48 * 48)) 2 (p_dusk (nw / 48) sh)) 3 (p_dawn (nw / 48))) 4 (nI nq)) 5 (nI no)) 6 (nI np))))]) [1, 2, 3, 4, 5, 6, 7, 8, 9, 10, 11, 12, 13, 0] rfl
  have hD := hD.sub (ws' := (Mk cI cZ h a F nq no np sh nw 0 wt) ++ [(q15, .inl (cI, 9, .inl (upd (upd (upd (upd (upd (upd (upd (fun _ => 0) 0 (nw / 48)) 1 (nw - nw / 48 * 48)) 2 (p_dusk (nw / 48) sh)) 3 (p_dawn (nw / 48))) 4 (nI nq)) 5 (nI no)) 6 (nI np))))]) [1, 2, 3, 4, 5, 6, 7, 8, 9, 10, 11, 12, 13, 0] (by decide) rfl
  have hP : va_P G vwCl ((Mk cI cZ h a F nq no np sh nw 0 wt) ++ [(q15, .inl (cI, 9, .inl (upd (upd (upd (upd (upd (upd (upd (fun _ => 0) 0 (nw / 48)) 1 (nw - nw / 48 * 48)) 2 (p_dusk (nw / 48) sh)) 3 (p_dawn (nw / 48))) 4 (nI nq)) 5 (nI no)) 6 (nI np))))]) H := hP
  have hD : va_D A ((Mk cI cZ h a F nq no np sh nw 0 wt) ++ [(q15, .inl (cI, 9, .inl (upd (upd (upd (upd (upd (upd (upd (fun _ => 0) 0 (nw / 48)) 1 (nw - nw / 48 * 48)) 2 (p_dusk (nw / 48) sh)) 3 (p_dawn (nw / 48))) 4 (nI nq)) 5 (nI no)) 6 (nI np))))]) := hD
  have hw72 : r72 = nI (p_mo F sh no nw) := hw72
  subst hw72
  refine w_iast hx hb hK hP hD hS 13 0 rfl rfl (f := (upd (upd (upd (upd (upd (upd (upd (fun _ => 0) 0 (nw / 48)) 1 (nw - nw / 48 * 48)) 2 (p_dusk (nw / 48) sh)) 3 (p_dawn (nw / 48))) 4 (nI nq)) 5 (nI no)) 6 (nI np))) (j := 7) (by omega) (by omega) dX1_digest_75 (fun H locs hP hD hS => ?_)
  have hP : va_P G vwCl ((Mk cI cZ h a F nq no np sh nw 0 wt) ++ [(q15, .inl (cI, 9, .inl (upd (upd (upd (upd (upd (upd (upd (upd (fun _ => 0) 0 (nw / 48)) 1 (nw - nw / 48 * 48)) 2 (p_dusk (nw / 48) sh)) 3 (p_dawn (nw / 48))) 4 (nI nq)) 5 (nI no)) 6 (nI np)) 7 (nI (p_mo F sh no nw)))))]) H := hP
  have hD : va_D A ((Mk cI cZ h a F nq no np sh nw 0 wt) ++ [(q15, .inl (cI, 9, .inl (upd (upd (upd (upd (upd (upd (upd (upd (fun _ => 0) 0 (nw / 48)) 1 (nw - nw / 48 * 48)) 2 (p_dusk (nw / 48) sh)) 3 (p_dawn (nw / 48))) 4 (nI nq)) 5 (nI no)) 6 (nI np)) 7 (nI (p_mo F sh no nw)))))]) := hD
  refine lv_dup hx hb dX1_digest_76 rfl ?_
  refine lv_bipush (v := 8) hx hb dX1_digest_77 (by decide) ?_
  refine lv_aload_n hx hb dX1_digest_79 rfl (lv_at hl 1 rfl) ?_
  refine va_get (ci := 1) (v := .int sh) (C := RX1) (T := TX1) (N := 18) hx hb hts hin hown hK hP 0 rfl rfl 2 (by decide) (hts (.fieldLink RX1 68 "CurfewDeskModel" "shift" "I") (by decide +kernel)) (fun _ h9 => h9) rfl dX1_digest_80 ?_
  refine w_iast hx hb hK hP hD hS 13 0 rfl rfl (f := (upd (upd (upd (upd (upd (upd (upd (upd (fun _ => 0) 0 (nw / 48)) 1 (nw - nw / 48 * 48)) 2 (p_dusk (nw / 48) sh)) 3 (p_dawn (nw / 48))) 4 (nI nq)) 5 (nI no)) 6 (nI np)) 7 (nI (p_mo F sh no nw)))) (j := 8) (by omega) (by omega) dX1_digest_83 (fun H locs hP hD hS => ?_)
  have hP : va_P G vwCl ((Mk cI cZ h a F nq no np sh nw 0 wt) ++ [(q15, .inl (cI, 9, .inl (upd (upd (upd (upd (upd (upd (upd (upd (upd (fun _ => 0) 0 (nw / 48)) 1 (nw - nw / 48 * 48)) 2 (p_dusk (nw / 48) sh)) 3 (p_dawn (nw / 48))) 4 (nI nq)) 5 (nI no)) 6 (nI np)) 7 (nI (p_mo F sh no nw))) 8 sh)))]) H := hP
  have hD : va_D A ((Mk cI cZ h a F nq no np sh nw 0 wt) ++ [(q15, .inl (cI, 9, .inl (upd (upd (upd (upd (upd (upd (upd (upd (upd (fun _ => 0) 0 (nw / 48)) 1 (nw - nw / 48 * 48)) 2 (p_dusk (nw / 48) sh)) 3 (p_dawn (nw / 48))) 4 (nI nq)) 5 (nI no)) 6 (nI np)) 7 (nI (p_mo F sh no nw))) 8 sh)))]) := hD
  obtain ⟨g9, eg9⟩ : ∃ g : Nat → Int32, g = upd (upd (upd (upd (upd (upd (upd (upd (upd (fun _ => 0) 0 (nw / 48)) 1 (nw - nw / 48 * 48)) 2 (p_dusk (nw / 48) sh)) 3 (p_dawn (nw / 48))) 4 (nI nq)) 5 (nI no)) 6 (nI np)) 7 (nI (p_mo F sh no nw))) 8 sh := ⟨_, rfl⟩
  rw [← eg9] at hP hD
  have hP : va_P G vwCl ((Mk cI cZ h a F nq no np sh nw 0 wt) ++ [(q15, .inl (cI, 9, .inl g9))]) H := hP
  have hD : va_D A ((Mk cI cZ h a F nq no np sh nw 0 wt) ++ [(q15, .inl (cI, 9, .inl g9))]) := hD
  refine lv_astore_n (lv' := [(2, .ref q15), (1, .int (nw / 48)), (0, .ref h)]) hx hb dX1_digest_84 rfl hl (by decide) rfl (fun ls hl => ?_)
  refine lv_ldc2 (v := 1879) hx hb hown (hts (.constantLong RX1 148 (1879)) (by decide +kernel)) dX1_digest_85 ?_
  refine lv_lstore_n (lv' := [(3, .long 1879), (2, .ref q15), (1, .int (nw / 48)), (0, .ref h)]) hx hb dX1_digest_88 rfl hl (by decide) rfl (fun ls hl => ?_)
  refine lv_aload_n hx hb dX1_digest_89 rfl (lv_at hl 1 rfl) ?_
  refine lv_astore (lv' := [(5, .ref q15), (3, .long 1879), (2, .ref q15), (1, .int (nw / 48)), (0, .ref h)]) hx hb dX1_digest_90 hl (by decide) rfl (fun ls hl => ?_)
  refine lv_aload hx hb dX1_digest_92 (lv_at hl 0 rfl) ?_
  refine va_alen hx hb hK hP 13 0 rfl rfl (v := 9) rfl dX1_digest_94 ?_
  refine lv_istore (lv' := [(6, .int 9), (5, .ref q15), (3, .long 1879), (2, .ref q15), (1, .int (nw / 48)), (0, .ref h)]) hx hb dX1_digest_95 hl (by decide) rfl (fun ls hl => ?_)
  refine lv_iconst (v := 0) hx hb dX1_digest_97 (by decide) ?_
  refine lv_istore (lv' := [(7, .int 0), (6, .int 9), (5, .ref q15), (3, .long 1879), (2, .ref q15), (1, .int (nw / 48)), (0, .ref h)]) hx hb dX1_digest_98 hl (by decide) rfl (fun ls hl => ?_)
  have key100 : ∀ (n i100 : Nat), i100 ≤ 9 → 9 < i100 + n → ∀ (x3 : Int64) (x7 : Int32), x3 = p_fl g9 1879 i100 → x7 = nI i100 → ∀ (H : Heap) (locs : List Loc), va_P G vwCl ((Mk cI cZ h a F nq no np sh nw 0 wt) ++ [(q15, .inl (cI, 9, .inl g9))]) H → va_D A ((Mk cI cZ h a F nq no np sh nw 0 wt) ++ [(q15, .inl (cI, 9, .inl g9))]) → va_S A s.heap H locs → ∀ ls : Array Slot, lv_has ls 9 [(0, .ref h), (1, .int (nw / 48)), (2, .ref q15), (3, .long x3), (5, .ref q15), (6, .int 9), (7, .int x7)] → W pg l e ({ frames := 6, cells := 1, slots := 9, locals := 137 } : Room) s m ([.ref h] : List Value).toArray below meth cd H locs (0 + 1 + 0 + 0 + 0) (0 + 9 + 0 + 0 + 0) (MQ below (va_Ql (fun (r : Int64) (_ : Unit) => r = p_dig F nq no np sh nw) (fun _ => wP G (ty2 cI cZ) (Mk cI cZ h a F nq no np sh nw 0 wt) A) A) ([.ref h] : List Value).toArray s 1 9 A) (F0 m 100 ls []) := by
    intro n
    induction n with
    | zero => intro i100 h1 h2; exact absurd h2 (by omega)
    | succ n ih100 =>
      intro i100 hi_i100 hn_i100 x3 x7 e3 e7 H locs hP hD hS ls hl
      subst e3 e7
      refine lv_iload hx hb dX1_digest_100 (lv_at hl 6 rfl) ?_
      refine lv_iload hx hb dX1_digest_102 (lv_at hl 5 rfl) ?_
      refine lv_icmp_ge (tgt := 130) hx hb dX1_digest_104 (by decide) (fun c104 => ?_) (fun c104 => ?_)
      · have c104 := (nI_leI (a := 9) (b := i100) (by omega) (by omega)).mp c104
        have ei : 9 = i100 := by omega
        subst ei
        have hP := hP.sub (ws' := Mk cI cZ h a F nq no np sh nw 0 wt) [0, 1, 2, 3, 4, 5, 6, 7, 8, 9, 10, 11, 12] rfl
        have hD := hD.sub (ws' := Mk cI cZ h a F nq no np sh nw 0 wt) [0, 1, 2, 3, 4, 5, 6, 7, 8, 9, 10, 11, 12] (by decide) rfl
        have e9 : p_fl g9 1879 9 = p_fold (p_fold (p_fold (p_fold (p_fold (p_fold (p_fold (p_fold (p_fold 1879 (nw / 48)) (nw - nw / 48 * 48)) (p_dusk (nw / 48) sh)) (p_dawn (nw / 48))) (nI nq)) (nI no)) (nI np)) (nI (p_mo F sh no nw))) sh := by rw [eg9]; rfl
        rw [e9] at hl
        have hl : lv_has ls 9 [(0, .ref h), (1, .int (nw / 48)), (2, .ref q15), (3, .long (p_fold (p_fold (p_fold (p_fold (p_fold (p_fold (p_fold (p_fold (p_fold 1879 (nw / 48)) (nw - nw / 48 * 48)) (p_dusk (nw / 48) sh)) (p_dawn (nw / 48))) (nI nq)) (nI no)) (nI np)) (nI (p_mo F sh no nw))) sh)), (5, .ref q15), (6, .int 9), (7, .int (nI 9))] := hl
        refine lv_iconst (v := 0) hx hb dX1_digest_130 (by decide) ?_
        refine lv_istore (lv' := [(5, .int 0), (0, .ref h), (1, .int (nw / 48)), (2, .ref q15), (3, .long (p_fold (p_fold (p_fold (p_fold (p_fold (p_fold (p_fold (p_fold (p_fold 1879 (nw / 48)) (nw - nw / 48 * 48)) (p_dusk (nw / 48) sh)) (p_dawn (nw / 48))) (nI nq)) (nI no)) (nI np)) (nI (p_mo F sh no nw))) sh)), (6, .int 9), (7, .int (nI 9))]) hx hb dX1_digest_131 hl (by decide) rfl (fun ls hl => ?_)
        have key133 : ∀ (n i133 : Nat), i133 ≤ 4 → 4 < i133 + n → ∀ (x3 : Int64) (x5 : Int32), x3 = p_fl (F 10) (p_fold (p_fold (p_fold (p_fold (p_fold (p_fold (p_fold (p_fold (p_fold 1879 (nw / 48)) (nw - nw / 48 * 48)) (p_dusk (nw / 48) sh)) (p_dawn (nw / 48))) (nI nq)) (nI no)) (nI np)) (nI (p_mo F sh no nw))) sh) i133 → x5 = nI i133 → ∀ (H : Heap) (locs : List Loc), va_P G vwCl (Mk cI cZ h a F nq no np sh nw 0 wt) H → va_D A (Mk cI cZ h a F nq no np sh nw 0 wt) → va_S A s.heap H locs → ∀ ls : Array Slot, lv_has ls 9 [(0, .ref h), (3, .long x3), (5, .int x5)] → W pg l e ({ frames := 6, cells := 1, slots := 9, locals := 137 } : Room) s m ([.ref h] : List Value).toArray below meth cd H locs (0 + 1 + 0 + 0 + 0) (0 + 9 + 0 + 0 + 0) (MQ below (va_Ql (fun (r : Int64) (_ : Unit) => r = p_dig F nq no np sh nw) (fun _ => wP G (ty2 cI cZ) (Mk cI cZ h a F nq no np sh nw 0 wt) A) A) ([.ref h] : List Value).toArray s 1 9 A) (F0 m 133 ls []) := by
          intro n
          induction n with
          | zero => intro i133 h1 h2; exact absurd h2 (by omega)
          | succ n ih133 =>
            intro i133 hi_i133 hn_i133 x3 x5 e3 e5 H locs hP hD hS ls hl
            subst e3 e5
            refine lv_iload hx hb dX1_digest_133 (lv_at hl 2 rfl) ?_
            refine lv_iconst (v := 4) hx hb dX1_digest_135 (by decide) ?_
            refine lv_icmp_ge (tgt := 160) hx hb dX1_digest_136 (by decide) (fun c136 => ?_) (fun c136 => ?_)
            · have c136 := (nI_leI (a := 4) (b := i133) (by omega) (by omega)).mp c136
              have ei : 4 = i133 := by omega
              subst ei
              refine lv_iconst (v := 0) hx hb dX1_digest_160 (by decide) ?_
              refine lv_istore (lv' := [(5, .int 0), (0, .ref h), (3, .long (p_fl (F 10) (p_fold (p_fold (p_fold (p_fold (p_fold (p_fold (p_fold (p_fold (p_fold 1879 (nw / 48)) (nw - nw / 48 * 48)) (p_dusk (nw / 48) sh)) (p_dawn (nw / 48))) (nI nq)) (nI no)) (nI np)) (nI (p_mo F sh no nw))) sh) 4))]) hx hb dX1_digest_161 hl (by decide) rfl (fun ls hl => ?_)
              have key163 : ∀ (n i163 : Nat), i163 ≤ no → no < i163 + n → ∀ (x3 : Int64) (x5 : Int32), x3 = p_fg (p_fo F sh np nw) (p_fl (F 10) (p_fold (p_fold (p_fold (p_fold (p_fold (p_fold (p_fold (p_fold (p_fold 1879 (nw / 48)) (nw - nw / 48 * 48)) (p_dusk (nw / 48) sh)) (p_dawn (nw / 48))) (nI nq)) (nI no)) (nI np)) (nI (p_mo F sh no nw))) sh) 4) i163 → x5 = nI i163 → ∀ (H : Heap) (locs : List Loc), va_P G vwCl (Mk cI cZ h a F nq no np sh nw 0 wt) H → va_D A (Mk cI cZ h a F nq no np sh nw 0 wt) → va_S A s.heap H locs → ∀ ls : Array Slot, lv_has ls 9 [(0, .ref h), (3, .long x3), (5, .int x5)] → W pg l e ({ frames := 6, cells := 1, slots := 9, locals := 137 } : Room) s m ([.ref h] : List Value).toArray below meth cd H locs (0 + 1 + 0 + 0 + 0) (0 + 9 + 0 + 0 + 0) (MQ below (va_Ql (fun (r : Int64) (_ : Unit) => r = p_dig F nq no np sh nw) (fun _ => wP G (ty2 cI cZ) (Mk cI cZ h a F nq no np sh nw 0 wt) A) A) ([.ref h] : List Value).toArray s 1 9 A) (F0 m 163 ls []) := by
                intro n
                induction n with
                | zero => intro i163 h1 h2; exact absurd h2 (by omega)
                | succ n ih163 =>
                  intro i163 hi_i163 hn_i163 x3 x5 e3 e5 H locs hP hD hS ls hl
                  subst e3 e5
                  refine lv_iload hx hb dX1_digest_163 (lv_at hl 2 rfl) ?_
                  refine lv_aload_n hx hb dX1_digest_165 rfl (lv_at hl 0 rfl) ?_
                  refine va_get (ci := 1) (v := .int (nI no)) (C := RX1) (T := TX1) (N := 18) hx hb hts hin hown hK hP 0 rfl rfl 4 (by decide) (hts (.fieldLink RX1 58 "CurfewDeskModel" "orders" "I") (by decide +kernel)) (fun _ h9 => h9) rfl dX1_digest_166 ?_
                  refine lv_icmp_ge (tgt := 307) hx hb dX1_digest_169 (by decide) (fun c169 => ?_) (fun c169 => ?_)
                  · have c169 := (nI_leI (a := no) (b := i163) (by omega) (by omega)).mp c169
                    have ei : no = i163 := by omega
                    subst ei
                    refine lv_iconst (v := 0) hx hb dX1_digest_307 (by decide) ?_
                    refine lv_istore (lv' := [(5, .int 0), (0, .ref h), (3, .long (p_fg (p_fo F sh np nw) (p_fl (F 10) (p_fold (p_fold (p_fold (p_fold (p_fold (p_fold (p_fold (p_fold (p_fold 1879 (nw / 48)) (nw - nw / 48 * 48)) (p_dusk (nw / 48) sh)) (p_dawn (nw / 48))) (nI nq)) (nI no)) (nI np)) (nI (p_mo F sh no nw))) sh) 4) no))]) hx hb dX1_digest_308 hl (by decide) rfl (fun ls hl => ?_)
                    have key310 : ∀ (n i310 : Nat), i310 ≤ np → np < i310 + n → ∀ (x3 : Int64) (x5 : Int32), x3 = p_fg (p_fp F sh nq no nw) (p_fg (p_fo F sh np nw) (p_fl (F 10) (p_fold (p_fold (p_fold (p_fold (p_fold (p_fold (p_fold (p_fold (p_fold 1879 (nw / 48)) (nw - nw / 48 * 48)) (p_dusk (nw / 48) sh)) (p_dawn (nw / 48))) (nI nq)) (nI no)) (nI np)) (nI (p_mo F sh no nw))) sh) 4)  no) i310 → x5 = nI i310 → ∀ (H : Heap) (locs : List Loc), va_P G vwCl (Mk cI cZ h a F nq no np sh nw 0 wt) H → va_D A (Mk cI cZ h a F nq no np sh nw 0 wt) → va_S A s.heap H locs → ∀ ls : Array Slot, lv_has ls 9 [(0, .ref h), (3, .long x3), (5, .int x5)] → W pg l e ({ frames := 6, cells := 1, slots := 9, locals := 137 } : Room) s m ([.ref h] : List Value).toArray below meth cd H locs (0 + 1 + 0 + 0 + 0) (0 + 9 + 0 + 0 + 0) (MQ below (va_Ql (fun (r : Int64) (_ : Unit) => r = p_dig F nq no np sh nw) (fun _ => wP G (ty2 cI cZ) (Mk cI cZ h a F nq no np sh nw 0 wt) A) A) ([.ref h] : List Value).toArray s 1 9 A) (F0 m 310 ls []) := by
                      intro n
                      induction n with
                      | zero => intro i310 h1 h2; exact absurd h2 (by omega)
                      | succ n ih310 =>
                        intro i310 hi_i310 hn_i310 x3 x5 e3 e5 H locs hP hD hS ls hl
                        subst e3 e5
                        refine lv_iload hx hb dX1_digest_310 (lv_at hl 2 rfl) ?_
                        refine lv_aload_n hx hb dX1_digest_312 rfl (lv_at hl 0 rfl) ?_
                        refine va_get (ci := 1) (v := .int (nI np)) (C := RX1) (T := TX1) (N := 18) hx hb hts hin hown hK hP 0 rfl rfl 5 (by decide) (hts (.fieldLink RX1 61 "CurfewDeskModel" "people" "I") (by decide +kernel)) (fun _ h9 => h9) rfl dX1_digest_313 ?_
                        refine lv_icmp_ge (tgt := 443) hx hb dX1_digest_316 (by decide) (fun c316 => ?_) (fun c316 => ?_)
                        · have c316 := (nI_leI (a := np) (b := i310) (by omega) (by omega)).mp c316
                          have ei : np = i310 := by omega
                          subst ei
                          refine lv_lload_n hx hb dX1_digest_443 rfl (lv_at hl 1 rfl) ?_
                          exact w_lret () hx hb hr hlocks hK hP hD hS (Nat.le_of_ble_eq_true rfl) (Nat.le_of_ble_eq_true rfl) dX1_digest_444 (show (p_fg (p_fp F sh nq no nw) (p_fg (p_fo F sh np nw) (p_fl (F 10) (p_fold (p_fold (p_fold (p_fold (p_fold (p_fold (p_fold (p_fold (p_fold 1879 (nw / 48)) (nw - nw / 48 * 48)) (p_dusk (nw / 48) sh)) (p_dawn (nw / 48))) (nI nq)) (nI no)) (nI np)) (nI (p_mo F sh no nw))) sh) 4)  no) np) = p_dig F nq no np sh nw from by rfl)
                        · have c316 := mt (nI_leI (a := np) (b := i310) (by omega) (by omega)).mpr c316
                          have hlt_i310 : i310 < np := by omega
                          refine lv_lload_n hx hb dX1_digest_319 rfl (lv_at hl 1 rfl) ?_
                          refine lv_ldc2 (v := 31) hx hb hown (hts (.constantLong RX1 150 (31)) (by decide +kernel)) dX1_digest_320 ?_
                          refine lv_lmul hx hb dX1_digest_323 ?_
                          refine lv_aload_n hx hb dX1_digest_324 rfl (lv_at hl 0 rfl) ?_
                          refine va_get (ci := 1) (v := .ref (a 6)) (C := RX1) (T := TX1) (N := 18) hx hb hts hin hown hK hP 0 rfl rfl 12 (by decide) (hts (.fieldLink RX1 29 "CurfewDeskModel" "trade" "[I") (by decide +kernel)) (fun _ h9 => h9) rfl dX1_digest_325 ?_
                          refine lv_iload hx hb dX1_digest_328 (lv_at hl 2 rfl) ?_
                          refine w_iald hx hb hK hP 7 0 rfl rfl (f := (F 6)) (j := i310) (by omega) (by omega) dX1_digest_330 ?_
                          refine lv_i2l (v := ((F 6) i310).toInt64) hx hb dX1_digest_331 rfl ?_
                          refine lv_ladd hx hb dX1_digest_332 ?_
                          refine lv_lstore_n (lv' := [(3, .long (((p_fg (p_fp F sh nq no nw) (p_fg (p_fo F sh np nw) (p_fl (F 10) (p_fold (p_fold (p_fold (p_fold (p_fold (p_fold (p_fold (p_fold (p_fold 1879 (nw / 48)) (nw - nw / 48 * 48)) (p_dusk (nw / 48) sh)) (p_dawn (nw / 48))) (nI nq)) (nI no)) (nI np)) (nI (p_mo F sh no nw))) sh) 4)  no) i310) * 31) + (((F 6) i310).toInt64))), (0, .ref h), (5, .int (nI i310))]) hx hb dX1_digest_333 rfl hl (by decide) rfl (fun ls hl => ?_)
                          refine lv_lload_n hx hb dX1_digest_334 rfl (lv_at hl 0 rfl) ?_
                          refine lv_ldc2 (v := 31) hx hb hown (hts (.constantLong RX1 150 (31)) (by decide +kernel)) dX1_digest_335 ?_
                          refine lv_lmul hx hb dX1_digest_338 ?_
                          refine lv_aload_n hx hb dX1_digest_339 rfl (lv_at hl 1 rfl) ?_
                          refine va_get (ci := 1) (v := .ref (a 8)) (C := RX1) (T := TX1) (N := 18) hx hb hts hin hown hK hP 0 rfl rfl 14 (by decide) (hts (.fieldLink RX1 35 "CurfewDeskModel" "debt" "[I") (by decide +kernel)) (fun _ h9 => h9) rfl dX1_digest_340 ?_
                          refine lv_iload hx hb dX1_digest_343 (lv_at hl 2 rfl) ?_
                          refine w_iald hx hb hK hP 9 0 rfl rfl (f := (F 8)) (j := i310) (by omega) (by omega) dX1_digest_345 ?_
                          refine lv_i2l (v := ((F 8) i310).toInt64) hx hb dX1_digest_346 rfl ?_
                          refine lv_ladd hx hb dX1_digest_347 ?_
                          refine lv_lstore_n (lv' := [(3, .long (((((p_fg (p_fp F sh nq no nw) (p_fg (p_fo F sh np nw) (p_fl (F 10) (p_fold (p_fold (p_fold (p_fold (p_fold (p_fold (p_fold (p_fold (p_fold 1879 (nw / 48)) (nw - nw / 48 * 48)) (p_dusk (nw / 48) sh)) (p_dawn (nw / 48))) (nI nq)) (nI no)) (nI np)) (nI (p_mo F sh no nw))) sh) 4)  no) i310) * 31) + (((F 6) i310).toInt64)) * 31) + (((F 8) i310).toInt64))), (0, .ref h), (5, .int (nI i310))]) hx hb dX1_digest_348 rfl hl (by decide) rfl (fun ls hl => ?_)
                          refine lv_lload_n hx hb dX1_digest_349 rfl (lv_at hl 0 rfl) ?_
                          refine lv_ldc2 (v := 31) hx hb hown (hts (.constantLong RX1 150 (31)) (by decide +kernel)) dX1_digest_350 ?_
                          refine lv_lmul hx hb dX1_digest_353 ?_
                          refine lv_aload_n hx hb dX1_digest_354 rfl (lv_at hl 1 rfl) ?_
                          refine va_get (ci := 1) (v := .ref (a 7)) (C := RX1) (T := TX1) (N := 18) hx hb hts hin hown hK hP 0 rfl rfl 13 (by decide) (hts (.fieldLink RX1 32 "CurfewDeskModel" "fined" "[I") (by decide +kernel)) (fun _ h9 => h9) rfl dX1_digest_355 ?_
                          refine lv_iload hx hb dX1_digest_358 (lv_at hl 2 rfl) ?_
                          refine w_iald hx hb hK hP 8 0 rfl rfl (f := (F 7)) (j := i310) (by omega) (by omega) dX1_digest_360 ?_
                          refine lv_i2l (v := ((F 7) i310).toInt64) hx hb dX1_digest_361 rfl ?_
                          refine lv_ladd hx hb dX1_digest_362 ?_
                          refine lv_lstore_n (lv' := [(3, .long (((((((p_fg (p_fp F sh nq no nw) (p_fg (p_fo F sh np nw) (p_fl (F 10) (p_fold (p_fold (p_fold (p_fold (p_fold (p_fold (p_fold (p_fold (p_fold 1879 (nw / 48)) (nw - nw / 48 * 48)) (p_dusk (nw / 48) sh)) (p_dawn (nw / 48))) (nI nq)) (nI no)) (nI np)) (nI (p_mo F sh no nw))) sh) 4)  no) i310) * 31) + (((F 6) i310).toInt64)) * 31) + (((F 8) i310).toInt64)) * 31) + (((F 7) i310).toInt64))), (0, .ref h), (5, .int (nI i310))]) hx hb dX1_digest_363 rfl hl (by decide) rfl (fun ls hl => ?_)
                          refine lv_iconst (v := 0) hx hb dX1_digest_364 (by decide) ?_
                          refine lv_istore (lv' := [(6, .int 0), (3, .long (((((((p_fg (p_fp F sh nq no nw) (p_fg (p_fo F sh np nw) (p_fl (F 10) (p_fold (p_fold (p_fold (p_fold (p_fold (p_fold (p_fold (p_fold (p_fold 1879 (nw / 48)) (nw - nw / 48 * 48)) (p_dusk (nw / 48) sh)) (p_dawn (nw / 48))) (nI nq)) (nI no)) (nI np)) (nI (p_mo F sh no nw))) sh) 4)  no) i310) * 31) + (((F 6) i310).toInt64)) * 31) + (((F 8) i310).toInt64)) * 31) + (((F 7) i310).toInt64))), (0, .ref h), (5, .int (nI i310))]) hx hb dX1_digest_365 hl (by decide) rfl (fun ls hl => ?_)
                          have key367 : ∀ (n i367 : Nat), i367 ≤ 4 → 4 < i367 + n → ∀ (x3 : Int64) (x6 : Int32), x3 = p_fl (fun c => F 9 (i310 * 4 + c)) (p_fold (p_fold (p_fold (p_fg (p_fp F sh nq no nw) (p_fg (p_fo F sh np nw) (p_fl (F 10) (p_fold (p_fold (p_fold (p_fold (p_fold (p_fold (p_fold (p_fold (p_fold 1879 (nw / 48)) (nw - nw / 48 * 48)) (p_dusk (nw / 48) sh)) (p_dawn (nw / 48))) (nI nq)) (nI no)) (nI np)) (nI (p_mo F sh no nw))) sh) 4)  no)  i310) (F 6 i310)) (F 8 i310)) (F 7 i310)) i367 → x6 = nI i367 → ∀ (H : Heap) (locs : List Loc), va_P G vwCl (Mk cI cZ h a F nq no np sh nw 0 wt) H → va_D A (Mk cI cZ h a F nq no np sh nw 0 wt) → va_S A s.heap H locs → ∀ ls : Array Slot, lv_has ls 9 [(0, .ref h), (3, .long x3), (5, .int (nI i310)), (6, .int x6)] → W pg l e ({ frames := 6, cells := 1, slots := 9, locals := 137 } : Room) s m ([.ref h] : List Value).toArray below meth cd H locs (0 + 1 + 0 + 0 + 0) (0 + 9 + 0 + 0 + 0) (MQ below (va_Ql (fun (r : Int64) (_ : Unit) => r = p_dig F nq no np sh nw) (fun _ => wP G (ty2 cI cZ) (Mk cI cZ h a F nq no np sh nw 0 wt) A) A) ([.ref h] : List Value).toArray s 1 9 A) (F0 m 367 ls []) := by
                            intro n
                            induction n with
                            | zero => intro i367 h1 h2; exact absurd h2 (by omega)
                            | succ n ih367 =>
                              intro i367 hi_i367 hn_i367 x3 x6 e3 e6 H locs hP hD hS ls hl
                              subst e3 e6
                              refine lv_iload hx hb dX1_digest_367 (lv_at hl 3 rfl) ?_
                              refine lv_iconst (v := 4) hx hb dX1_digest_369 (by decide) ?_
                              refine lv_icmp_ge (tgt := 399) hx hb dX1_digest_370 (by decide) (fun c370 => ?_) (fun c370 => ?_)
                              · have c370 := (nI_leI (a := 4) (b := i367) (by omega) (by omega)).mp c370
                                have ei : 4 = i367 := by omega
                                subst ei
                                refine lv_iconst (v := 0) hx hb dX1_digest_399 (by decide) ?_
                                refine lv_istore (lv' := [(6, .int 0), (0, .ref h), (3, .long (p_fl (fun c => F 9 (i310 * 4 + c)) (p_fold (p_fold (p_fold (p_fg (p_fp F sh nq no nw) (p_fg (p_fo F sh np nw) (p_fl (F 10) (p_fold (p_fold (p_fold (p_fold (p_fold (p_fold (p_fold (p_fold (p_fold 1879 (nw / 48)) (nw - nw / 48 * 48)) (p_dusk (nw / 48) sh)) (p_dawn (nw / 48))) (nI nq)) (nI no)) (nI np)) (nI (p_mo F sh no nw))) sh) 4)  no)  i310) (F 6 i310)) (F 8 i310)) (F 7 i310)) 4)), (5, .int (nI i310))]) hx hb dX1_digest_400 hl (by decide) rfl (fun ls hl => ?_)
                                have key402 : ∀ (n i402 : Nat), i402 ≤ nq → nq < i402 + n → ∀ (x3 : Int64) (x6 : Int32), x3 = p_fl (fun q => nI (p_ag F sh no i310 (nI q) nw)) (p_fl (fun c => F 9 (i310 * 4 + c)) (p_fold (p_fold (p_fold (p_fg (p_fp F sh nq no nw) (p_fg (p_fo F sh np nw) (p_fl (F 10) (p_fold (p_fold (p_fold (p_fold (p_fold (p_fold (p_fold (p_fold (p_fold 1879 (nw / 48)) (nw - nw / 48 * 48)) (p_dusk (nw / 48) sh)) (p_dawn (nw / 48))) (nI nq)) (nI no)) (nI np)) (nI (p_mo F sh no nw))) sh) 4)  no)  i310) (F 6 i310)) (F 8 i310)) (F 7 i310)) 4) i402 → x6 = nI i402 → ∀ (H : Heap) (locs : List Loc), va_P G vwCl (Mk cI cZ h a F nq no np sh nw 0 wt) H → va_D A (Mk cI cZ h a F nq no np sh nw 0 wt) → va_S A s.heap H locs → ∀ ls : Array Slot, lv_has ls 9 [(0, .ref h), (3, .long x3), (5, .int (nI i310)), (6, .int x6)] → W pg l e ({ frames := 6, cells := 1, slots := 9, locals := 137 } : Room) s m ([.ref h] : List Value).toArray below meth cd H locs (0 + 1 + 0 + 0 + 0) (0 + 9 + 0 + 0 + 0) (MQ below (va_Ql (fun (r : Int64) (_ : Unit) => r = p_dig F nq no np sh nw) (fun _ => wP G (ty2 cI cZ) (Mk cI cZ h a F nq no np sh nw 0 wt) A) A) ([.ref h] : List Value).toArray s 1 9 A) (F0 m 402 ls []) := by
                                  intro n
                                  induction n with
                                  | zero => intro i402 h1 h2; exact absurd h2 (by omega)
                                  | succ n ih402 =>
                                    intro i402 hi_i402 hn_i402 x3 x6 e3 e6 H locs hP hD hS ls hl
                                    subst e3 e6
                                    refine lv_iload hx hb dX1_digest_402 (lv_at hl 3 rfl) ?_
                                    refine lv_aload_n hx hb dX1_digest_404 rfl (lv_at hl 0 rfl) ?_
                                    refine va_get (ci := 1) (v := .int (nI nq)) (C := RX1) (T := TX1) (N := 18) hx hb hts hin hown hK hP 0 rfl rfl 3 (by decide) (hts (.fieldLink RX1 51 "CurfewDeskModel" "quarters" "I") (by decide +kernel)) (fun _ h9 => h9) rfl dX1_digest_405 ?_
                                    refine lv_icmp_ge (tgt := 437) hx hb dX1_digest_408 (by decide) (fun c408 => ?_) (fun c408 => ?_)
                                    · have c408 := (nI_leI (a := nq) (b := i402) (by omega) (by omega)).mp c408
                                      have ei : nq = i402 := by omega
                                      subst ei
                                      refine lv_iinc (v := nI i310 + 1) (lv' := [(5, .int (nI i310 + 1)), (0, .ref h), (3, .long (p_fl (fun q => nI (p_ag F sh no i310 (nI q) nw)) (p_fl (fun c => F 9 (i310 * 4 + c)) (p_fold (p_fold (p_fold (p_fg (p_fp F sh nq no nw) (p_fg (p_fo F sh np nw) (p_fl (F 10) (p_fold (p_fold (p_fold (p_fold (p_fold (p_fold (p_fold (p_fold (p_fold 1879 (nw / 48)) (nw - nw / 48 * 48)) (p_dusk (nw / 48) sh)) (p_dawn (nw / 48))) (nI nq)) (nI no)) (nI np)) (nI (p_mo F sh no nw))) sh) 4)  no)  i310) (F 6 i310)) (F 8 i310)) (F 7 i310)) 4) nq)), (6, .int (nI nq))]) hx hb dX1_digest_437 hl (k := 2) rfl rfl (by decide) rfl (fun ls hl => ?_)
                                      refine lv_goto (tgt := 310) hx hb dX1_digest_440 (by decide) ?_
                                      exact ih310 (i310 + 1) (by omega) (by omega) (p_fl (fun q => nI (p_ag F sh no i310 (nI q) nw)) (p_fl (fun c => F 9 (i310 * 4 + c)) (p_fold (p_fold (p_fold (p_fg (p_fp F sh nq no nw) (p_fg (p_fo F sh np nw) (p_fl (F 10) (p_fold (p_fold (p_fold (p_fold (p_fold (p_fold (p_fold (p_fold (p_fold 1879 (nw / 48)) (nw - nw / 48 * 48)) (p_dusk (nw / 48) sh)) (p_dawn (nw / 48))) (nI nq)) (nI no)) (nI np)) (nI (p_mo F sh no nw))) sh) 4)  no)  i310) (F 6 i310)) (F 8 i310)) (F 7 i310)) 4) nq) (nI i310 + 1) (by rfl) (by first | exact nI_1 _ | exact nct_t (by assumption) | exact nct_f (by assumption) | exact nct_b | rfl) _ _ hP hD hS _ (lv_sub hl [1, 2, 0] rfl)
                                    · have c408 := mt (nI_leI (a := nq) (b := i402) (by omega) (by omega)).mpr c408
                                      have hlt_i402 : i402 < nq := by omega
                                      refine lv_lload_n hx hb dX1_digest_411 rfl (lv_at hl 1 rfl) ?_
                                      refine lv_ldc2 (v := 31) hx hb hown (hts (.constantLong RX1 150 (31)) (by decide +kernel)) dX1_digest_412 ?_
                                      refine lv_lmul hx hb dX1_digest_415 ?_
                                      refine lv_aload_n hx hb dX1_digest_416 rfl (lv_at hl 0 rfl) ?_
                                      refine lv_iload hx hb dX1_digest_417 (lv_at hl 2 rfl) ?_
                                      refine lv_iload hx hb dX1_digest_419 (lv_at hl 3 rfl) ?_
                                      refine lv_aload_n hx hb dX1_digest_421 rfl (lv_at hl 0 rfl) ?_
                                      refine va_get (ci := 1) (v := .int nw) (C := RX1) (T := TX1) (N := 18) hx hb hts hin hown hK hP 0 rfl rfl 1 (by decide) (hts (.fieldLink RX1 122 "CurfewDeskModel" "time" "I") (by decide +kernel)) (fun _ h9 => h9) rfl dX1_digest_422 ?_
                                      refine w_in_i (va_runV (As := [.int (nI i310), .int (nI i402), .int nw]) (rest := [.long ((p_fl (fun q => nI (p_ag F sh no i310 (nI q) nw)) (p_fl (fun c => F 9 (i310 * 4 + c)) (p_fold (p_fold (p_fold (p_fg (p_fp F sh nq no nw) (p_fg (p_fo F sh np nw) (p_fl (F 10) (p_fold (p_fold (p_fold (p_fold (p_fold (p_fold (p_fold (p_fold (p_fold 1879 (nw / 48)) (nw - nw / 48 * 48)) (p_dusk (nw / 48) sh)) (p_dawn (nw / 48))) (nI nq)) (nI no)) (nI np)) (nI (p_mo F sh no nw))) sh) 4)  no)  i310) (F 6 i310)) (F 8 i310)) (F 7 i310)) 4) i402) * 31)]) ⟨hx, hb, hml, hown, hts⟩ (c_X1_against l G cI cZ h a F nq no np sh nw 0 wt H.size i310 (nI i402) nw (by omega) (by omega)) (cwV 3 hts gX1_digest_X1_against rfl rfl rfl (by decide +kernel) ⟨(Nat.le_of_ble_eq_true rfl), (Nat.le_of_ble_eq_true rfl)⟩) ⟨wPre_blind, va_recv hK hP (ci := 1) (q0 := 0) rfl rfl, w_pre hK hP hD⟩ rfl rfl hl.1 rfl (lv_room (Nat.le_of_ble_eq_true rfl)) dX1_digest_425 ⟨(Nat.le_of_ble_eq_true rfl), (Nat.le_of_ble_eq_true rfl)⟩) hD hS hA (fun r425 u425 H locs hw425 hP hD hS => ?_)
                                      have hP : va_P G vwCl (Mk cI cZ h a F nq no np sh nw 0 wt) H := hP
                                      have hD : va_D A (Mk cI cZ h a F nq no np sh nw 0 wt) := hD
                                      have hw425 : r425 = nI (p_ag F sh no i310 (nI i402) nw) := hw425
                                      subst hw425
                                      refine lv_i2l (v := (nI (p_ag F sh no i310 (nI i402) nw)).toInt64) hx hb dX1_digest_428 rfl ?_
                                      refine lv_ladd hx hb dX1_digest_429 ?_
                                      refine lv_lstore_n (lv' := [(3, .long (((p_fl (fun q => nI (p_ag F sh no i310 (nI q) nw)) (p_fl (fun c => F 9 (i310 * 4 + c)) (p_fold (p_fold (p_fold (p_fg (p_fp F sh nq no nw) (p_fg (p_fo F sh np nw) (p_fl (F 10) (p_fold (p_fold (p_fold (p_fold (p_fold (p_fold (p_fold (p_fold (p_fold 1879 (nw / 48)) (nw - nw / 48 * 48)) (p_dusk (nw / 48) sh)) (p_dawn (nw / 48))) (nI nq)) (nI no)) (nI np)) (nI (p_mo F sh no nw))) sh) 4)  no)  i310) (F 6 i310)) (F 8 i310)) (F 7 i310)) 4) i402) * 31) + ((nI (p_ag F sh no i310 (nI i402) nw)).toInt64))), (0, .ref h), (5, .int (nI i310)), (6, .int (nI i402))]) hx hb dX1_digest_430 rfl hl (by decide) rfl (fun ls hl => ?_)
                                      refine lv_iinc (v := nI i402 + 1) (lv' := [(6, .int (nI i402 + 1)), (3, .long (((p_fl (fun q => nI (p_ag F sh no i310 (nI q) nw)) (p_fl (fun c => F 9 (i310 * 4 + c)) (p_fold (p_fold (p_fold (p_fg (p_fp F sh nq no nw) (p_fg (p_fo F sh np nw) (p_fl (F 10) (p_fold (p_fold (p_fold (p_fold (p_fold (p_fold (p_fold (p_fold (p_fold 1879 (nw / 48)) (nw - nw / 48 * 48)) (p_dusk (nw / 48) sh)) (p_dawn (nw / 48))) (nI nq)) (nI no)) (nI np)) (nI (p_mo F sh no nw))) sh) 4)  no)  i310) (F 6 i310)) (F 8 i310)) (F 7 i310)) 4) i402) * 31) + ((nI (p_ag F sh no i310 (nI i402) nw)).toInt64))), (0, .ref h), (5, .int (nI i310))]) hx hb dX1_digest_431 hl (k := 3) rfl rfl (by decide) rfl (fun ls hl => ?_)
                                      refine lv_goto (tgt := 402) hx hb dX1_digest_434 (by decide) ?_
                                      exact ih402 (i402 + 1) (by omega) (by omega) (((p_fl (fun q => nI (p_ag F sh no i310 (nI q) nw)) (p_fl (fun c => F 9 (i310 * 4 + c)) (p_fold (p_fold (p_fold (p_fg (p_fp F sh nq no nw) (p_fg (p_fo F sh np nw) (p_fl (F 10) (p_fold (p_fold (p_fold (p_fold (p_fold (p_fold (p_fold (p_fold (p_fold 1879 (nw / 48)) (nw - nw / 48 * 48)) (p_dusk (nw / 48) sh)) (p_dawn (nw / 48))) (nI nq)) (nI no)) (nI np)) (nI (p_mo F sh no nw))) sh) 4)  no)  i310) (F 6 i310)) (F 8 i310)) (F 7 i310)) 4) i402) * 31) + ((nI (p_ag F sh no i310 (nI i402) nw)).toInt64)) (nI i402 + 1) (by rfl) (by first | exact nI_1 _ | exact nct_t (by assumption) | exact nct_f (by assumption) | exact nct_b | rfl) _ _ hP hD hS _ (lv_sub hl [2, 1, 3, 0] rfl)
                                exact key402 (nq + 1) 0 (by omega) (by omega) (p_fl (fun c => F 9 (i310 * 4 + c)) (p_fold (p_fold (p_fold (p_fg (p_fp F sh nq no nw) (p_fg (p_fo F sh np nw) (p_fl (F 10) (p_fold (p_fold (p_fold (p_fold (p_fold (p_fold (p_fold (p_fold (p_fold 1879 (nw / 48)) (nw - nw / 48 * 48)) (p_dusk (nw / 48) sh)) (p_dawn (nw / 48))) (nI nq)) (nI no)) (nI np)) (nI (p_mo F sh no nw))) sh) 4)  no)  i310) (F 6 i310)) (F 8 i310)) (F 7 i310)) 4) 0 (by first | rfl | simp [p_ct, p_sm, p_fl, p_fg, nI_0]) (by first | rfl | simp [p_ct, p_sm, p_fl, p_fg, nI_0]) _ _ hP hD hS _ (lv_sub hl [1, 2, 3, 0] rfl)
                              · have c370 := mt (nI_leI (a := 4) (b := i367) (by omega) (by omega)).mpr c370
                                have hlt_i367 : i367 < 4 := by omega
                                refine lv_lload_n hx hb dX1_digest_373 rfl (lv_at hl 1 rfl) ?_
                                refine lv_ldc2 (v := 31) hx hb hown (hts (.constantLong RX1 150 (31)) (by decide +kernel)) dX1_digest_374 ?_
                                refine lv_lmul hx hb dX1_digest_377 ?_
                                refine lv_aload_n hx hb dX1_digest_378 rfl (lv_at hl 0 rfl) ?_
                                refine va_get (ci := 1) (v := .ref (a 9)) (C := RX1) (T := TX1) (N := 18) hx hb hts hin hown hK hP 0 rfl rfl 15 (by decide) (hts (.fieldLink RX1 38 "CurfewDeskModel" "stamps" "[I") (by decide +kernel)) (fun _ h9 => h9) rfl dX1_digest_379 ?_
                                refine lv_iconst (v := 4) hx hb dX1_digest_382 (by decide) ?_
                                refine lv_iload hx hb dX1_digest_383 (lv_at hl 2 rfl) ?_
                                refine lv_imul hx hb dX1_digest_385 ?_
                                refine lv_iload hx hb dX1_digest_386 (lv_at hl 3 rfl) ?_
                                refine lv_iadd hx hb dX1_digest_388 ?_
                                rw [pl_eq]
                                refine w_iald hx hb hK hP 10 0 rfl rfl (f := (F 9)) (j := (i310 * 4 + i367)) (by omega) (by omega) dX1_digest_389 ?_
                                refine lv_i2l (v := ((F 9) (i310 * 4 + i367)).toInt64) hx hb dX1_digest_390 rfl ?_
                                refine lv_ladd hx hb dX1_digest_391 ?_
                                refine lv_lstore_n (lv' := [(3, .long (((p_fl (fun c => F 9 (i310 * 4 + c)) (p_fold (p_fold (p_fold (p_fg (p_fp F sh nq no nw) (p_fg (p_fo F sh np nw) (p_fl (F 10) (p_fold (p_fold (p_fold (p_fold (p_fold (p_fold (p_fold (p_fold (p_fold 1879 (nw / 48)) (nw - nw / 48 * 48)) (p_dusk (nw / 48) sh)) (p_dawn (nw / 48))) (nI nq)) (nI no)) (nI np)) (nI (p_mo F sh no nw))) sh) 4)  no)  i310) (F 6 i310)) (F 8 i310)) (F 7 i310)) i367) * 31) + (((F 9) (i310 * 4 + i367)).toInt64))), (0, .ref h), (5, .int (nI i310)), (6, .int (nI i367))]) hx hb dX1_digest_392 rfl hl (by decide) rfl (fun ls hl => ?_)
                                refine lv_iinc (v := nI i367 + 1) (lv' := [(6, .int (nI i367 + 1)), (3, .long (((p_fl (fun c => F 9 (i310 * 4 + c)) (p_fold (p_fold (p_fold (p_fg (p_fp F sh nq no nw) (p_fg (p_fo F sh np nw) (p_fl (F 10) (p_fold (p_fold (p_fold (p_fold (p_fold (p_fold (p_fold (p_fold (p_fold 1879 (nw / 48)) (nw - nw / 48 * 48)) (p_dusk (nw / 48) sh)) (p_dawn (nw / 48))) (nI nq)) (nI no)) (nI np)) (nI (p_mo F sh no nw))) sh) 4)  no)  i310) (F 6 i310)) (F 8 i310)) (F 7 i310)) i367) * 31) + (((F 9) (i310 * 4 + i367)).toInt64))), (0, .ref h), (5, .int (nI i310))]) hx hb dX1_digest_393 hl (k := 3) rfl rfl (by decide) rfl (fun ls hl => ?_)
                                refine lv_goto (tgt := 367) hx hb dX1_digest_396 (by decide) ?_
                                exact ih367 (i367 + 1) (by omega) (by omega) (((p_fl (fun c => F 9 (i310 * 4 + c)) (p_fold (p_fold (p_fold (p_fg (p_fp F sh nq no nw) (p_fg (p_fo F sh np nw) (p_fl (F 10) (p_fold (p_fold (p_fold (p_fold (p_fold (p_fold (p_fold (p_fold (p_fold 1879 (nw / 48)) (nw - nw / 48 * 48)) (p_dusk (nw / 48) sh)) (p_dawn (nw / 48))) (nI nq)) (nI no)) (nI np)) (nI (p_mo F sh no nw))) sh) 4)  no)  i310) (F 6 i310)) (F 8 i310)) (F 7 i310)) i367) * 31) + (((F 9) (i310 * 4 + i367)).toInt64)) (nI i367 + 1) (by rfl) (by first | exact nI_1 _ | exact nct_t (by assumption) | exact nct_f (by assumption) | exact nct_b | rfl) _ _ hP hD hS _ (lv_sub hl [2, 1, 3, 0] rfl)
                          exact key367 (4 + 1) 0 (by omega) (by omega) (((((((p_fg (p_fp F sh nq no nw) (p_fg (p_fo F sh np nw) (p_fl (F 10) (p_fold (p_fold (p_fold (p_fold (p_fold (p_fold (p_fold (p_fold (p_fold 1879 (nw / 48)) (nw - nw / 48 * 48)) (p_dusk (nw / 48) sh)) (p_dawn (nw / 48))) (nI nq)) (nI no)) (nI np)) (nI (p_mo F sh no nw))) sh) 4)  no) i310) * 31) + (((F 6) i310).toInt64)) * 31) + (((F 8) i310).toInt64)) * 31) + (((F 7) i310).toInt64)) 0 (by first | rfl | simp [p_ct, p_sm, p_fl, p_fg, nI_0]) (by first | rfl | simp [p_ct, p_sm, p_fl, p_fg, nI_0]) _ _ hP hD hS _ (lv_sub hl [2, 1, 3, 0] rfl)
                    exact key310 (np + 1) 0 (by omega) (by omega) (p_fg (p_fo F sh np nw) (p_fl (F 10) (p_fold (p_fold (p_fold (p_fold (p_fold (p_fold (p_fold (p_fold (p_fold 1879 (nw / 48)) (nw - nw / 48 * 48)) (p_dusk (nw / 48) sh)) (p_dawn (nw / 48))) (nI nq)) (nI no)) (nI np)) (nI (p_mo F sh no nw))) sh) 4) no) 0 (by first | rfl | simp [p_ct, p_sm, p_fl, p_fg, nI_0]) (by first | rfl | simp [p_ct, p_sm, p_fl, p_fg, nI_0]) _ _ hP hD hS _ (lv_sub hl [1, 2, 0] rfl)
                  · have c169 := mt (nI_leI (a := no) (b := i163) (by omega) (by omega)).mpr c169
                    have hlt_i163 : i163 < no := by omega
                    refine lv_lload_n hx hb dX1_digest_172 rfl (lv_at hl 1 rfl) ?_
                    refine lv_ldc2 (v := 31) hx hb hown (hts (.constantLong RX1 150 (31)) (by decide +kernel)) dX1_digest_173 ?_
                    refine lv_lmul hx hb dX1_digest_176 ?_
                    refine lv_aload_n hx hb dX1_digest_177 rfl (lv_at hl 0 rfl) ?_
                    refine va_get (ci := 1) (v := .ref (a 0)) (C := RX1) (T := TX1) (N := 18) hx hb hts hin hown hK hP 0 rfl rfl 6 (by decide) (hts (.fieldLink RX1 9 "CurfewDeskModel" "quarter" "[I") (by decide +kernel)) (fun _ h9 => h9) rfl dX1_digest_178 ?_
                    refine lv_iload hx hb dX1_digest_181 (lv_at hl 2 rfl) ?_
                    refine w_iald hx hb hK hP 1 0 rfl rfl (f := (F 0)) (j := i163) (by omega) (by omega) dX1_digest_183 ?_
                    refine lv_i2l (v := ((F 0) i163).toInt64) hx hb dX1_digest_184 rfl ?_
                    refine lv_ladd hx hb dX1_digest_185 ?_
                    refine lv_lstore_n (lv' := [(3, .long (((p_fg (p_fo F sh np nw) (p_fl (F 10) (p_fold (p_fold (p_fold (p_fold (p_fold (p_fold (p_fold (p_fold (p_fold 1879 (nw / 48)) (nw - nw / 48 * 48)) (p_dusk (nw / 48) sh)) (p_dawn (nw / 48))) (nI nq)) (nI no)) (nI np)) (nI (p_mo F sh no nw))) sh) 4) i163) * 31) + (((F 0) i163).toInt64))), (0, .ref h), (5, .int (nI i163))]) hx hb dX1_digest_186 rfl hl (by decide) rfl (fun ls hl => ?_)
                    refine lv_lload_n hx hb dX1_digest_187 rfl (lv_at hl 0 rfl) ?_
                    refine lv_ldc2 (v := 31) hx hb hown (hts (.constantLong RX1 150 (31)) (by decide +kernel)) dX1_digest_188 ?_
                    refine lv_lmul hx hb dX1_digest_191 ?_
                    refine lv_aload_n hx hb dX1_digest_192 rfl (lv_at hl 1 rfl) ?_
                    refine va_get (ci := 1) (v := .ref (a 3)) (C := RX1) (T := TX1) (N := 18) hx hb hts hin hown hK hP 0 rfl rfl 9 (by decide) (hts (.fieldLink RX1 19 "CurfewDeskModel" "colour" "[I") (by decide +kernel)) (fun _ h9 => h9) rfl dX1_digest_193 ?_
                    refine lv_iload hx hb dX1_digest_196 (lv_at hl 2 rfl) ?_
                    refine w_iald hx hb hK hP 4 0 rfl rfl (f := (F 3)) (j := i163) (by omega) (by omega) dX1_digest_198 ?_
                    refine lv_i2l (v := ((F 3) i163).toInt64) hx hb dX1_digest_199 rfl ?_
                    refine lv_ladd hx hb dX1_digest_200 ?_
                    refine lv_lstore_n (lv' := [(3, .long (((((p_fg (p_fo F sh np nw) (p_fl (F 10) (p_fold (p_fold (p_fold (p_fold (p_fold (p_fold (p_fold (p_fold (p_fold 1879 (nw / 48)) (nw - nw / 48 * 48)) (p_dusk (nw / 48) sh)) (p_dawn (nw / 48))) (nI nq)) (nI no)) (nI np)) (nI (p_mo F sh no nw))) sh) 4) i163) * 31) + (((F 0) i163).toInt64)) * 31) + (((F 3) i163).toInt64))), (0, .ref h), (5, .int (nI i163))]) hx hb dX1_digest_201 rfl hl (by decide) rfl (fun ls hl => ?_)
                    refine lv_lload_n hx hb dX1_digest_202 rfl (lv_at hl 0 rfl) ?_
                    refine lv_ldc2 (v := 31) hx hb hown (hts (.constantLong RX1 150 (31)) (by decide +kernel)) dX1_digest_203 ?_
                    refine lv_lmul hx hb dX1_digest_206 ?_
                    refine lv_aload_n hx hb dX1_digest_207 rfl (lv_at hl 1 rfl) ?_
                    refine va_get (ci := 1) (v := .ref (a 4)) (C := RX1) (T := TX1) (N := 18) hx hb hts hin hown hK hP 0 rfl rfl 11 (by decide) (hts (.fieldLink RX1 25 "CurfewDeskModel" "force" "[Z") (by decide +kernel)) (fun _ h9 => h9) rfl dX1_digest_208 ?_
                    refine lv_iload hx hb dX1_digest_211 (lv_at hl 2 rfl) ?_
                    refine w_zald hx hb hK hP 5 1 rfl rfl (f := (F 4)) (j := i163) (by omega) (by omega) dX1_digest_213 ?_
                    refine w_selE (v1 := 1) (v2 := 0) hx hb dX1_digest_214 (by decide) dX1_digest_217 (by decide) dX1_digest_218 (by decide) dX1_digest_221 (by decide) ?_
                    rw [b2i_z]
                    refine lv_i2l (v := (b2i (!decide ((F 4) i163 = 0))).toInt64) hx hb dX1_digest_222 rfl ?_
                    refine lv_ladd hx hb dX1_digest_223 ?_
                    refine lv_lstore_n (lv' := [(3, .long (((((((p_fg (p_fo F sh np nw) (p_fl (F 10) (p_fold (p_fold (p_fold (p_fold (p_fold (p_fold (p_fold (p_fold (p_fold 1879 (nw / 48)) (nw - nw / 48 * 48)) (p_dusk (nw / 48) sh)) (p_dawn (nw / 48))) (nI nq)) (nI no)) (nI np)) (nI (p_mo F sh no nw))) sh) 4) i163) * 31) + (((F 0) i163).toInt64)) * 31) + (((F 3) i163).toInt64)) * 31) + ((b2i (!decide ((F 4) i163 = 0))).toInt64))), (0, .ref h), (5, .int (nI i163))]) hx hb dX1_digest_224 rfl hl (by decide) rfl (fun ls hl => ?_)
                    refine lv_lload_n hx hb dX1_digest_225 rfl (lv_at hl 0 rfl) ?_
                    refine lv_ldc2 (v := 31) hx hb hown (hts (.constantLong RX1 150 (31)) (by decide +kernel)) dX1_digest_226 ?_
                    refine lv_lmul hx hb dX1_digest_229 ?_
                    refine lv_aload_n hx hb dX1_digest_230 rfl (lv_at hl 1 rfl) ?_
                    refine lv_iload hx hb dX1_digest_231 (lv_at hl 2 rfl) ?_
                    refine lv_aload_n hx hb dX1_digest_233 rfl (lv_at hl 1 rfl) ?_
                    refine va_get (ci := 1) (v := .int nw) (C := RX1) (T := TX1) (N := 18) hx hb hts hin hown hK hP 0 rfl rfl 1 (by decide) (hts (.fieldLink RX1 122 "CurfewDeskModel" "time" "I") (by decide +kernel)) (fun _ h9 => h9) rfl dX1_digest_234 ?_
                    refine w_in_i (va_runV (As := [.int (nI i163), .int nw]) (rest := [.long ((((((((p_fg (p_fo F sh np nw) (p_fl (F 10) (p_fold (p_fold (p_fold (p_fold (p_fold (p_fold (p_fold (p_fold (p_fold 1879 (nw / 48)) (nw - nw / 48 * 48)) (p_dusk (nw / 48) sh)) (p_dawn (nw / 48))) (nI nq)) (nI no)) (nI np)) (nI (p_mo F sh no nw))) sh) 4) i163) * 31) + (((F 0) i163).toInt64)) * 31) + (((F 3) i163).toInt64)) * 31) + ((b2i (!decide ((F 4) i163 = 0))).toInt64)) * 31)]) ⟨hx, hb, hml, hown, hts⟩ (c_X1_onAt l G cI cZ h a F nq no np sh nw 0 wt H.size i163 nw (by omega)) (cwV 2 hts gX1_digest_X1_onAt rfl rfl rfl (by decide +kernel) ⟨(Nat.le_of_ble_eq_true rfl), (Nat.le_of_ble_eq_true rfl)⟩) ⟨wPre_blind, va_recv hK hP (ci := 1) (q0 := 0) rfl rfl, w_pre hK hP hD⟩ rfl rfl hl.1 rfl (lv_room (Nat.le_of_ble_eq_true rfl)) dX1_digest_237 ⟨(Nat.le_of_ble_eq_true rfl), (Nat.le_of_ble_eq_true rfl)⟩) hD hS hA (fun r237 u237 H locs hw237 hP hD hS => ?_)
                    have hP : va_P G vwCl (Mk cI cZ h a F nq no np sh nw 0 wt) H := hP
                    have hD : va_D A (Mk cI cZ h a F nq no np sh nw 0 wt) := hD
                    have hw237 : r237 = b2i (p_on F sh i163 nw) := hw237
                    subst hw237
                    refine w_selE (v1 := 1) (v2 := 0) hx hb dX1_digest_240 (by decide) dX1_digest_243 (by decide) dX1_digest_244 (by decide) dX1_digest_247 (by decide) ?_
                    rw [b2i_sel]
                    refine lv_i2l (v := (b2i (p_on F sh i163 nw)).toInt64) hx hb dX1_digest_248 rfl ?_
                    refine lv_ladd hx hb dX1_digest_249 ?_
                    refine lv_lstore_n (lv' := [(3, .long (((((((((p_fg (p_fo F sh np nw) (p_fl (F 10) (p_fold (p_fold (p_fold (p_fold (p_fold (p_fold (p_fold (p_fold (p_fold 1879 (nw / 48)) (nw - nw / 48 * 48)) (p_dusk (nw / 48) sh)) (p_dawn (nw / 48))) (nI nq)) (nI no)) (nI np)) (nI (p_mo F sh no nw))) sh) 4) i163) * 31) + (((F 0) i163).toInt64)) * 31) + (((F 3) i163).toInt64)) * 31) + ((b2i (!decide ((F 4) i163 = 0))).toInt64)) * 31) + ((b2i (p_on F sh i163 nw)).toInt64))), (0, .ref h), (5, .int (nI i163))]) hx hb dX1_digest_250 rfl hl (by decide) rfl (fun ls hl => ?_)
                    refine lv_lload_n hx hb dX1_digest_251 rfl (lv_at hl 0 rfl) ?_
                    refine lv_ldc2 (v := 31) hx hb hown (hts (.constantLong RX1 150 (31)) (by decide +kernel)) dX1_digest_252 ?_
                    refine lv_lmul hx hb dX1_digest_255 ?_
                    refine lv_aload_n hx hb dX1_digest_256 rfl (lv_at hl 1 rfl) ?_
                    refine lv_iload hx hb dX1_digest_257 (lv_at hl 2 rfl) ?_
                    refine w_in_i (va_runV (As := [.int (nI i163)]) (rest := [.long ((((((((((p_fg (p_fo F sh np nw) (p_fl (F 10) (p_fold (p_fold (p_fold (p_fold (p_fold (p_fold (p_fold (p_fold (p_fold 1879 (nw / 48)) (nw - nw / 48 * 48)) (p_dusk (nw / 48) sh)) (p_dawn (nw / 48))) (nI nq)) (nI no)) (nI np)) (nI (p_mo F sh no nw))) sh) 4) i163) * 31) + (((F 0) i163).toInt64)) * 31) + (((F 3) i163).toInt64)) * 31) + ((b2i (!decide ((F 4) i163 = 0))).toInt64)) * 31) + ((b2i (p_on F sh i163 nw)).toInt64)) * 31)]) ⟨hx, hb, hml, hown, hts⟩ (c_X1_barred l G cI cZ h a F nq no np sh nw 0 wt H.size i163 (by omega) (by omega)) (cwV 1 hts gX1_digest_X1_barred rfl rfl rfl (by decide +kernel) ⟨(Nat.le_of_ble_eq_true rfl), (Nat.le_of_ble_eq_true rfl)⟩) ⟨wPre_blind, va_recv hK hP (ci := 1) (q0 := 0) rfl rfl, w_pre hK hP hD⟩ rfl rfl hl.1 rfl (lv_room (Nat.le_of_ble_eq_true rfl)) dX1_digest_259 ⟨(Nat.le_of_ble_eq_true rfl), (Nat.le_of_ble_eq_true rfl)⟩) hD hS hA (fun r259 u259 H locs hw259 hP hD hS => ?_)
                    have hP : va_P G vwCl (Mk cI cZ h a F nq no np sh nw 0 wt) H := hP
                    have hD : va_D A (Mk cI cZ h a F nq no np sh nw 0 wt) := hD
                    have hw259 : r259 = nI (p_bd F sh np i163 nw) := hw259
                    subst hw259
                    refine lv_i2l (v := (nI (p_bd F sh np i163 nw)).toInt64) hx hb dX1_digest_262 rfl ?_
                    refine lv_ladd hx hb dX1_digest_263 ?_
                    refine lv_lstore_n (lv' := [(3, .long (((((((((((p_fg (p_fo F sh np nw) (p_fl (F 10) (p_fold (p_fold (p_fold (p_fold (p_fold (p_fold (p_fold (p_fold (p_fold 1879 (nw / 48)) (nw - nw / 48 * 48)) (p_dusk (nw / 48) sh)) (p_dawn (nw / 48))) (nI nq)) (nI no)) (nI np)) (nI (p_mo F sh no nw))) sh) 4) i163) * 31) + (((F 0) i163).toInt64)) * 31) + (((F 3) i163).toInt64)) * 31) + ((b2i (!decide ((F 4) i163 = 0))).toInt64)) * 31) + ((b2i (p_on F sh i163 nw)).toInt64)) * 31) + ((nI (p_bd F sh np i163 nw)).toInt64))), (0, .ref h), (5, .int (nI i163))]) hx hb dX1_digest_264 rfl hl (by decide) rfl (fun ls hl => ?_)
                    refine lv_iconst (v := 0) hx hb dX1_digest_265 (by decide) ?_
                    refine lv_istore (lv' := [(6, .int 0), (3, .long (((((((((((p_fg (p_fo F sh np nw) (p_fl (F 10) (p_fold (p_fold (p_fold (p_fold (p_fold (p_fold (p_fold (p_fold (p_fold 1879 (nw / 48)) (nw - nw / 48 * 48)) (p_dusk (nw / 48) sh)) (p_dawn (nw / 48))) (nI nq)) (nI no)) (nI np)) (nI (p_mo F sh no nw))) sh) 4) i163) * 31) + (((F 0) i163).toInt64)) * 31) + (((F 3) i163).toInt64)) * 31) + ((b2i (!decide ((F 4) i163 = 0))).toInt64)) * 31) + ((b2i (p_on F sh i163 nw)).toInt64)) * 31) + ((nI (p_bd F sh np i163 nw)).toInt64))), (0, .ref h), (5, .int (nI i163))]) hx hb dX1_digest_266 hl (by decide) rfl (fun ls hl => ?_)
                    have key268 : ∀ (n i268 : Nat), i268 ≤ 8 → 8 < i268 + n → ∀ (x3 : Int64) (x6 : Int32), x3 = p_fl (fun tr => b2i (p_ex F i163 (nI tr))) (p_fold (p_fold (p_fold (p_fold (p_fold (p_fg (p_fo F sh np nw) (p_fl (F 10) (p_fold (p_fold (p_fold (p_fold (p_fold (p_fold (p_fold (p_fold (p_fold 1879 (nw / 48)) (nw - nw / 48 * 48)) (p_dusk (nw / 48) sh)) (p_dawn (nw / 48))) (nI nq)) (nI no)) (nI np)) (nI (p_mo F sh no nw))) sh) 4)  i163) (F 0 i163)) (F 3 i163)) (b2i (!decide (F 4 i163 = 0)))) (b2i (p_on F sh i163 nw))) (nI (p_bd F sh np i163 nw))) i268 → x6 = nI i268 → ∀ (H : Heap) (locs : List Loc), va_P G vwCl (Mk cI cZ h a F nq no np sh nw 0 wt) H → va_D A (Mk cI cZ h a F nq no np sh nw 0 wt) → va_S A s.heap H locs → ∀ ls : Array Slot, lv_has ls 9 [(0, .ref h), (3, .long x3), (5, .int (nI i163)), (6, .int x6)] → W pg l e ({ frames := 6, cells := 1, slots := 9, locals := 137 } : Room) s m ([.ref h] : List Value).toArray below meth cd H locs (0 + 1 + 0 + 0 + 0 + 0 + 0) (0 + 9 + 0 + 0 + 0 + 0 + 0) (MQ below (va_Ql (fun (r : Int64) (_ : Unit) => r = p_dig F nq no np sh nw) (fun _ => wP G (ty2 cI cZ) (Mk cI cZ h a F nq no np sh nw 0 wt) A) A) ([.ref h] : List Value).toArray s 1 9 A) (F0 m 268 ls []) := by
                      intro n
                      induction n with
                      | zero => intro i268 h1 h2; exact absurd h2 (by omega)
                      | succ n ih268 =>
                        intro i268 hi_i268 hn_i268 x3 x6 e3 e6 H locs hP hD hS ls hl
                        subst e3 e6
                        refine lv_iload hx hb dX1_digest_268 (lv_at hl 3 rfl) ?_
                        refine lv_bipush (v := 8) hx hb dX1_digest_270 (by decide) ?_
                        refine lv_icmp_ge (tgt := 301) hx hb dX1_digest_272 (by decide) (fun c272 => ?_) (fun c272 => ?_)
                        · have c272 := (nI_leI (a := 8) (b := i268) (by omega) (by omega)).mp c272
                          have ei : 8 = i268 := by omega
                          subst ei
                          refine lv_iinc (v := nI i163 + 1) (lv' := [(5, .int (nI i163 + 1)), (0, .ref h), (3, .long (p_fl (fun tr => b2i (p_ex F i163 (nI tr))) (p_fold (p_fold (p_fold (p_fold (p_fold (p_fg (p_fo F sh np nw) (p_fl (F 10) (p_fold (p_fold (p_fold (p_fold (p_fold (p_fold (p_fold (p_fold (p_fold 1879 (nw / 48)) (nw - nw / 48 * 48)) (p_dusk (nw / 48) sh)) (p_dawn (nw / 48))) (nI nq)) (nI no)) (nI np)) (nI (p_mo F sh no nw))) sh) 4)  i163) (F 0 i163)) (F 3 i163)) (b2i (!decide (F 4 i163 = 0)))) (b2i (p_on F sh i163 nw))) (nI (p_bd F sh np i163 nw))) 8)), (6, .int (nI 8))]) hx hb dX1_digest_301 hl (k := 2) rfl rfl (by decide) rfl (fun ls hl => ?_)
                          refine lv_goto (tgt := 163) hx hb dX1_digest_304 (by decide) ?_
                          exact ih163 (i163 + 1) (by omega) (by omega) (p_fl (fun tr => b2i (p_ex F i163 (nI tr))) (p_fold (p_fold (p_fold (p_fold (p_fold (p_fg (p_fo F sh np nw) (p_fl (F 10) (p_fold (p_fold (p_fold (p_fold (p_fold (p_fold (p_fold (p_fold (p_fold 1879 (nw / 48)) (nw - nw / 48 * 48)) (p_dusk (nw / 48) sh)) (p_dawn (nw / 48))) (nI nq)) (nI no)) (nI np)) (nI (p_mo F sh no nw))) sh) 4)  i163) (F 0 i163)) (F 3 i163)) (b2i (!decide (F 4 i163 = 0)))) (b2i (p_on F sh i163 nw))) (nI (p_bd F sh np i163 nw))) 8) (nI i163 + 1) (by rfl) (by first | exact nI_1 _ | exact nct_t (by assumption) | exact nct_f (by assumption) | exact nct_b | rfl) _ _ hP hD hS _ (lv_sub hl [1, 2, 0] rfl)
                        · have c272 := mt (nI_leI (a := 8) (b := i268) (by omega) (by omega)).mpr c272
                          have hlt_i268 : i268 < 8 := by omega
                          refine lv_lload_n hx hb dX1_digest_275 rfl (lv_at hl 1 rfl) ?_
                          refine lv_ldc2 (v := 31) hx hb hown (hts (.constantLong RX1 150 (31)) (by decide +kernel)) dX1_digest_276 ?_
                          refine lv_lmul hx hb dX1_digest_279 ?_
                          refine lv_aload_n hx hb dX1_digest_280 rfl (lv_at hl 0 rfl) ?_
                          refine va_get (ci := 1) (v := .ref (a 5)) (C := RX1) (T := TX1) (N := 18) hx hb hts hin hown hK hP 0 rfl rfl 10 (by decide) (hts (.fieldLink RX1 22 "CurfewDeskModel" "exempt" "[I") (by decide +kernel)) (fun _ h9 => h9) rfl dX1_digest_281 ?_
                          refine lv_iload hx hb dX1_digest_284 (lv_at hl 2 rfl) ?_
                          refine w_iald hx hb hK hP 6 0 rfl rfl (f := (F 5)) (j := i163) (by omega) (by omega) dX1_digest_286 ?_
                          refine lv_iload hx hb dX1_digest_287 (lv_at hl 3 rfl) ?_
                          refine lv_ishr hx hb dX1_digest_289 ?_
                          refine lv_iconst (v := 1) hx hb dX1_digest_290 (by decide) ?_
                          refine lv_iand hx hb dX1_digest_291 ?_
                          refine lv_i2l (v := ((((F 5) i163) >>> ((nI i268) &&& 31)) &&& 1).toInt64) hx hb dX1_digest_292 rfl ?_
                          refine lv_ladd hx hb dX1_digest_293 ?_
                          refine lv_lstore_n (lv' := [(3, .long (((p_fl (fun tr => b2i (p_ex F i163 (nI tr))) (p_fold (p_fold (p_fold (p_fold (p_fold (p_fg (p_fo F sh np nw) (p_fl (F 10) (p_fold (p_fold (p_fold (p_fold (p_fold (p_fold (p_fold (p_fold (p_fold 1879 (nw / 48)) (nw - nw / 48 * 48)) (p_dusk (nw / 48) sh)) (p_dawn (nw / 48))) (nI nq)) (nI no)) (nI np)) (nI (p_mo F sh no nw))) sh) 4)  i163) (F 0 i163)) (F 3 i163)) (b2i (!decide (F 4 i163 = 0)))) (b2i (p_on F sh i163 nw))) (nI (p_bd F sh np i163 nw))) i268) * 31) + (((((F 5) i163) >>> ((nI i268) &&& 31)) &&& 1).toInt64))), (0, .ref h), (5, .int (nI i163)), (6, .int (nI i268))]) hx hb dX1_digest_294 rfl hl (by decide) rfl (fun ls hl => ?_)
                          refine lv_iinc (v := nI i268 + 1) (lv' := [(6, .int (nI i268 + 1)), (3, .long (((p_fl (fun tr => b2i (p_ex F i163 (nI tr))) (p_fold (p_fold (p_fold (p_fold (p_fold (p_fg (p_fo F sh np nw) (p_fl (F 10) (p_fold (p_fold (p_fold (p_fold (p_fold (p_fold (p_fold (p_fold (p_fold 1879 (nw / 48)) (nw - nw / 48 * 48)) (p_dusk (nw / 48) sh)) (p_dawn (nw / 48))) (nI nq)) (nI no)) (nI np)) (nI (p_mo F sh no nw))) sh) 4)  i163) (F 0 i163)) (F 3 i163)) (b2i (!decide (F 4 i163 = 0)))) (b2i (p_on F sh i163 nw))) (nI (p_bd F sh np i163 nw))) i268) * 31) + (((((F 5) i163) >>> ((nI i268) &&& 31)) &&& 1).toInt64))), (0, .ref h), (5, .int (nI i163))]) hx hb dX1_digest_295 hl (k := 3) rfl rfl (by decide) rfl (fun ls hl => ?_)
                          refine lv_goto (tgt := 268) hx hb dX1_digest_298 (by decide) ?_
                          exact ih268 (i268 + 1) (by omega) (by omega) (((p_fl (fun tr => b2i (p_ex F i163 (nI tr))) (p_fold (p_fold (p_fold (p_fold (p_fold (p_fg (p_fo F sh np nw) (p_fl (F 10) (p_fold (p_fold (p_fold (p_fold (p_fold (p_fold (p_fold (p_fold (p_fold 1879 (nw / 48)) (nw - nw / 48 * 48)) (p_dusk (nw / 48) sh)) (p_dawn (nw / 48))) (nI nq)) (nI no)) (nI np)) (nI (p_mo F sh no nw))) sh) 4)  i163) (F 0 i163)) (F 3 i163)) (b2i (!decide (F 4 i163 = 0)))) (b2i (p_on F sh i163 nw))) (nI (p_bd F sh np i163 nw))) i268) * 31) + (((((F 5) i163) >>> ((nI i268) &&& 31)) &&& 1).toInt64)) (nI i268 + 1) (by rw [and1_b]; rfl) (by first | exact nI_1 _ | exact nct_t (by assumption) | exact nct_f (by assumption) | exact nct_b | rfl) _ _ hP hD hS _ (lv_sub hl [2, 1, 3, 0] rfl)
                    exact key268 (8 + 1) 0 (by omega) (by omega) (((((((((((p_fg (p_fo F sh np nw) (p_fl (F 10) (p_fold (p_fold (p_fold (p_fold (p_fold (p_fold (p_fold (p_fold (p_fold 1879 (nw / 48)) (nw - nw / 48 * 48)) (p_dusk (nw / 48) sh)) (p_dawn (nw / 48))) (nI nq)) (nI no)) (nI np)) (nI (p_mo F sh no nw))) sh) 4) i163) * 31) + (((F 0) i163).toInt64)) * 31) + (((F 3) i163).toInt64)) * 31) + ((b2i (!decide ((F 4) i163 = 0))).toInt64)) * 31) + ((b2i (p_on F sh i163 nw)).toInt64)) * 31) + ((nI (p_bd F sh np i163 nw)).toInt64)) 0 (by first | rfl | simp [p_ct, p_sm, p_fl, p_fg, nI_0]) (by first | rfl | simp [p_ct, p_sm, p_fl, p_fg, nI_0]) _ _ hP hD hS _ (lv_sub hl [2, 1, 3, 0] rfl)
              exact key163 (no + 1) 0 (by omega) (by omega) (p_fl (F 10) (p_fold (p_fold (p_fold (p_fold (p_fold (p_fold (p_fold (p_fold (p_fold 1879 (nw / 48)) (nw - nw / 48 * 48)) (p_dusk (nw / 48) sh)) (p_dawn (nw / 48))) (nI nq)) (nI no)) (nI np)) (nI (p_mo F sh no nw))) sh) 4) 0 (by first | rfl | simp [p_ct, p_sm, p_fl, p_fg, nI_0]) (by first | rfl | simp [p_ct, p_sm, p_fl, p_fg, nI_0]) _ _ hP hD hS _ (lv_sub hl [1, 2, 0] rfl)
            · have c136 := mt (nI_leI (a := 4) (b := i133) (by omega) (by omega)).mpr c136
              have hlt_i133 : i133 < 4 := by omega
              refine lv_lload_n hx hb dX1_digest_139 rfl (lv_at hl 1 rfl) ?_
              refine lv_ldc2 (v := 31) hx hb hown (hts (.constantLong RX1 150 (31)) (by decide +kernel)) dX1_digest_140 ?_
              refine lv_lmul hx hb dX1_digest_143 ?_
              refine lv_aload_n hx hb dX1_digest_144 rfl (lv_at hl 0 rfl) ?_
              refine va_get (ci := 1) (v := .ref (a 10)) (C := RX1) (T := TX1) (N := 18) hx hb hts hin hown hK hP 0 rfl rfl 16 (by decide) (hts (.fieldLink RX1 41 "CurfewDeskModel" "used" "[I") (by decide +kernel)) (fun _ h9 => h9) rfl dX1_digest_145 ?_
              refine lv_iload hx hb dX1_digest_148 (lv_at hl 2 rfl) ?_
              refine w_iald hx hb hK hP 11 0 rfl rfl (f := (F 10)) (j := i133) (by omega) (by omega) dX1_digest_150 ?_
              refine lv_i2l (v := ((F 10) i133).toInt64) hx hb dX1_digest_151 rfl ?_
              refine lv_ladd hx hb dX1_digest_152 ?_
              refine lv_lstore_n (lv' := [(3, .long (((p_fl (F 10) (p_fold (p_fold (p_fold (p_fold (p_fold (p_fold (p_fold (p_fold (p_fold 1879 (nw / 48)) (nw - nw / 48 * 48)) (p_dusk (nw / 48) sh)) (p_dawn (nw / 48))) (nI nq)) (nI no)) (nI np)) (nI (p_mo F sh no nw))) sh) i133) * 31) + (((F 10) i133).toInt64))), (0, .ref h), (5, .int (nI i133))]) hx hb dX1_digest_153 rfl hl (by decide) rfl (fun ls hl => ?_)
              refine lv_iinc (v := nI i133 + 1) (lv' := [(5, .int (nI i133 + 1)), (3, .long (((p_fl (F 10) (p_fold (p_fold (p_fold (p_fold (p_fold (p_fold (p_fold (p_fold (p_fold 1879 (nw / 48)) (nw - nw / 48 * 48)) (p_dusk (nw / 48) sh)) (p_dawn (nw / 48))) (nI nq)) (nI no)) (nI np)) (nI (p_mo F sh no nw))) sh) i133) * 31) + (((F 10) i133).toInt64))), (0, .ref h)]) hx hb dX1_digest_154 hl (k := 2) rfl rfl (by decide) rfl (fun ls hl => ?_)
              refine lv_goto (tgt := 133) hx hb dX1_digest_157 (by decide) ?_
              exact ih133 (i133 + 1) (by omega) (by omega) (((p_fl (F 10) (p_fold (p_fold (p_fold (p_fold (p_fold (p_fold (p_fold (p_fold (p_fold 1879 (nw / 48)) (nw - nw / 48 * 48)) (p_dusk (nw / 48) sh)) (p_dawn (nw / 48))) (nI nq)) (nI no)) (nI np)) (nI (p_mo F sh no nw))) sh) i133) * 31) + (((F 10) i133).toInt64)) (nI i133 + 1) (by rfl) (by first | exact nI_1 _ | exact nct_t (by assumption) | exact nct_f (by assumption) | exact nct_b | rfl) _ _ hP hD hS _ (lv_sub hl [2, 1, 0] rfl)
        exact key133 (4 + 1) 0 (by omega) (by omega) (p_fold (p_fold (p_fold (p_fold (p_fold (p_fold (p_fold (p_fold (p_fold 1879 (nw / 48)) (nw - nw / 48 * 48)) (p_dusk (nw / 48) sh)) (p_dawn (nw / 48))) (nI nq)) (nI no)) (nI np)) (nI (p_mo F sh no nw))) sh) 0 (by first | rfl | simp [p_ct, p_sm, p_fl, p_fg, nI_0]) (by first | rfl | simp [p_ct, p_sm, p_fl, p_fg, nI_0]) _ _ hP hD hS _ (lv_sub hl [1, 4, 0] rfl)
      · have c104 := mt (nI_leI (a := 9) (b := i100) (by omega) (by omega)).mpr c104
        have hlt_i100 : i100 < 9 := by omega
        refine lv_aload hx hb dX1_digest_107 (lv_at hl 4 rfl) ?_
        refine lv_iload hx hb dX1_digest_109 (lv_at hl 6 rfl) ?_
        refine w_iald hx hb hK hP 13 0 rfl rfl (f := g9) (j := i100) (by omega) (by omega) dX1_digest_111 ?_
        refine lv_istore (lv' := [(8, .int (g9 i100)), (0, .ref h), (1, .int (nw / 48)), (2, .ref q15), (3, .long (p_fl g9 1879 i100)), (5, .ref q15), (6, .int 9), (7, .int (nI i100))]) hx hb dX1_digest_112 hl (by decide) rfl (fun ls hl => ?_)
        refine lv_lload_n hx hb dX1_digest_114 rfl (lv_at hl 4 rfl) ?_
        refine lv_ldc2 (v := 31) hx hb hown (hts (.constantLong RX1 150 (31)) (by decide +kernel)) dX1_digest_115 ?_
        refine lv_lmul hx hb dX1_digest_118 ?_
        refine lv_iload hx hb dX1_digest_119 (lv_at hl 0 rfl) ?_
        refine lv_i2l (v := (g9 i100).toInt64) hx hb dX1_digest_121 rfl ?_
        refine lv_ladd hx hb dX1_digest_122 ?_
        refine lv_lstore_n (lv' := [(3, .long (((p_fl g9 1879 i100) * 31) + ((g9 i100).toInt64))), (8, .int (g9 i100)), (0, .ref h), (1, .int (nw / 48)), (2, .ref q15), (5, .ref q15), (6, .int 9), (7, .int (nI i100))]) hx hb dX1_digest_123 rfl hl (by decide) rfl (fun ls hl => ?_)
        refine lv_iinc (v := nI i100 + 1) (lv' := [(7, .int (nI i100 + 1)), (3, .long (((p_fl g9 1879 i100) * 31) + ((g9 i100).toInt64))), (8, .int (g9 i100)), (0, .ref h), (1, .int (nw / 48)), (2, .ref q15), (5, .ref q15), (6, .int 9)]) hx hb dX1_digest_124 hl (k := 7) rfl rfl (by decide) rfl (fun ls hl => ?_)
        refine lv_goto (tgt := 100) hx hb dX1_digest_127 (by decide) ?_
        exact ih100 (i100 + 1) (by omega) (by omega) (((p_fl g9 1879 i100) * 31) + ((g9 i100).toInt64)) (nI i100 + 1) (by rfl) (by first | exact nI_1 _ | exact nct_t (by assumption) | exact nct_f (by assumption) | exact nct_b | rfl) _ _ hP hD hS _ (lv_sub hl [3, 4, 5, 1, 6, 7, 0] rfl)
  exact key100 (9 + 1) 0 (by omega) (by omega) 1879 0 (by first | rfl | simp [p_ct, p_sm, p_fl, p_fg, nI_0]) (by first | rfl | simp [p_ct, p_sm, p_fl, p_fg, nI_0]) _ _ hP hD hS _ (lv_sub hl [6, 5, 4, 3, 2, 1, 0] rfl)
