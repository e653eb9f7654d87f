section ACT
set_option maxHeartbeats 16000000 in
set_option maxRecDepth 100000 in
theorem c_L_act (l : Launch) (G : va_G) (cI cZ cR : ClassId) (hc : Nat) (a : Nat → Nat) (F : Nat → Nat → Int32) (nw : Int32) (hs ao ap au : Nat) (ro rp : Nat → Nat) (L : List Nat) (f : Nat → va_E) (qn on pn T qn1 on1 pn1 T1 dl sz K : Nat) (x : Int32) (hqn : qn ≤ 6) (hon : on ≤ 10) (hpn : pn ≤ 20) (hT : T < 1000000) (hst : o_step x qn on pn T = some ((qn1, on1, pn1, T1), dl)) (hF : CI F pn) (hrow : OR cI ro rp L f on) :
    Met l yL_act wsL_act ({ frames := 6, cells := 8200, slots := 162000, locals := 137 } : Room) (va_Pc [.ref hc, .ref hs, .int x] (oPre G (ty3 cI cZ cR) (((SM hs ao ap au (nI (T / 48)) (nI (T % 48)) qn on pn) :: (Dk cI cZ hc a F qn on pn 0 nw)) ++ va_pl L f) [OA cR ao ro, PA cR ap rp] sz K)) (va_Qi (fun (r : Int32) (u : AC) => (r = 0 ∨ r = 1) ∧ CI u.1 pn1 ∧ OR cI ro rp L u.2.2 on1) (fun u => oB G (ty3 cI cZ cR) (((SM hs ao ap au (nI (T1 / 48)) (nI (T1 % 48)) qn1 on1 pn1) :: (Dk cI cZ hc a u.1 qn1 on1 pn1 0 u.2.1)) ++ va_pl L u.2.2) (va_A (((SM hs ao ap au (nI (T / 48)) (nI (T % 48)) qn on pn) :: (Dk cI cZ hc a F qn on pn 0 nw)) ++ va_pl L f) sz) (K + dl)) (va_A (((SM hs ao ap au (nI (T / 48)) (nI (T % 48)) qn on pn) :: (Dk cI cZ hc a F qn on pn 0 nw)) ++ va_pl L f) sz)) 8200 162000 (va_A (((SM hs ao ap au (nI (T / 48)) (nI (T % 48)) qn on pn) :: (Dk cI cZ hc a F qn on pn 0 nw)) ++ va_pl L f) sz) := by
  refine o_met (cc := cL_act) (maxL := 16) (ret := (some .boolean)) (by decide) rfl (Nat.le_of_ble_eq_true rfl) ?_
  intro pg e s m below meth cd hx hb hml hr hts hown hlocks hnm hK hM hR hro hsz hP hD hA hS ls hl
  have hown : s.vm.findClass RL = some m.cls := hown
  have hl : lv_has ls 16 [(0, .ref hc), (1, .ref hs), (2, .int x)] := hl
  have hK2 : va_K G vwCl (ty2 cI cZ) s := hK.sub [0, 1] rfl
  generalize hAe : va_A (((SM hs ao ap au (nI (T / 48)) (nI (T % 48)) qn on pn) :: (Dk cI cZ hc a F qn on pn 0 nw)) ++ va_pl L f) sz = A at hD hA hS hro ⊢
  refine lv_iload_n hx hb dL_act_0 rfl (lv_at hl 2 rfl) ?_
  refine lv_bipush (v := 9) hx hb dL_act_1 (by decide) ?_
  refine lv_ishr hx hb dL_act_3 ?_
  refine lv_bipush (v := nI 24) hx hb dL_act_4 (by decide) ?_
  refine o_st (va_runS (As := [.int (x >>> (9 &&& 31)), .int (nI 24)]) (rest := []) ⟨hx, hb, hml, hown, hts⟩ (c_L_below l G _ (x >>> (9 &&& 31)) 24 (by omega) (by omega)) (va_cwS 2 hts gL_act_L_below rfl rfl rfl (by decide +kernel) ⟨(Nat.le_of_ble_eq_true rfl), (Nat.le_of_ble_eq_true rfl)⟩) ⟨wPre_blind, w_pre (hK.sub [] rfl) w_P0 (w_D0 (A := A))⟩ rfl rfl hl.1 rfl (lv_room (Nat.le_of_ble_eq_true rfl)) dL_act_6 ⟨by dsimp only; omega, by dsimp only; omega⟩) hM hP hS hA (fun r6 u6 H locs hw6 hP hS hM => ?_)
  subst hw6
  have hso : onb (x >>> (9 &&& 31)) 24 = o_sort x := rfl
  have hso24 : o_sort x < 24 := onb_lt (by omega)
  rw [hso]
  refine lv_istore_n (lv' := [(3, .int (nI (o_sort x))), (0, .ref hc), (1, .ref hs), (2, .int x)]) hx hb dL_act_9 rfl hl (by decide) rfl (fun ls hl => ?_)
  have b21 : (qn = 0 ∨ o_sort x = 0) → W pg l e ({ frames := 6, cells := 8200, slots := 162000, locals := 137 } : Room) s m ([.ref hc, .ref hs, .int x] : List Value).toArray below meth cd H locs (0 + 0) (0 + 0) (MQ below (va_Qi (fun (r : Int32) (u : AC) => (r = 0 ∨ r = 1) ∧ CI u.1 pn1 ∧ OR cI ro rp L u.2.2 on1) (fun u => oB G (ty3 cI cZ cR) (((SM hs ao ap au (nI (T1 / 48)) (nI (T1 % 48)) qn1 on1 pn1) :: (Dk cI cZ hc a u.1 qn1 on1 pn1 0 u.2.1)) ++ va_pl L u.2.2) A (K + dl)) A) ([.ref hc, .ref hs, .int x] : List Value).toArray s 8200 162000 A) (F0 m 21 ls []) := by
    intro h1
    rw [o_step, if_pos h1] at hst
    refine lv_aload_n hx hb dL_act_21 rfl (lv_at hl 2 rfl) ?_
    refine va_get (ci := 1) (v := .int (nI qn)) (own := RL) (C := RX1) (T := TX1) (N := 9) hx hb hts wa_in hown hK hP 0 rfl rfl 3 (by decide) (hts _ wa_quarters) (fun _ h9 => h9) rfl dL_act_22 ?_
    refine lv_bipush (v := nI 6) hx hb dL_act_25 (by decide) ?_
    refine lv_icmp_ne (tgt := 32) hx hb dL_act_27 (by decide) (fun c9 => ?_) (fun c9 => ?_)
    · have h2 : ¬ qn = 6 := fun h => c9 (by rw [h])
      rw [if_neg h2] at hst
      cases hst
      refine lv_aload_n hx hb dL_act_32 rfl (lv_at hl 2 rfl) ?_
      refine lv_dup hx hb dL_act_33 rfl ?_
      refine va_get (ci := 1) (v := .int (nI qn)) (own := RL) (C := RX1) (T := TX1) (N := 9) hx hb hts wa_in hown hK hP 0 rfl rfl 3 (by decide) (hts _ wa_quarters) (fun _ h9 => h9) rfl dL_act_34 ?_
      refine lv_iconst (v := 1) hx hb dL_act_37 (by decide) ?_
      refine lv_iadd hx hb dL_act_38 ?_
      rw [nI_1]
      refine W_up hM (va_put (ci := 1) (v := .int (nI (qn + 1))) (ty := .int) (own := RL) (C := RX1) (T := TX1) (N := 9) hx hb hts wa_in tyX1 tyX1_ok nmX1 hown hK hP hD hS 0 rfl rfl 3 (by decide) (hts _ wa_quarters) (fun _ h9 => h9) rfl (by decide +kernel) rfl rfl (Nat.le_of_ble_eq_true rfl) dL_act_39 (fun H locs hP hD hS => W_dn (fun hM => ?_)))
      have hP : va_P G vwCl (((SM hs ao ap au (nI (T / 48)) (nI (T % 48)) (qn + 1) on pn) :: (Dk cI cZ hc a F qn on pn 0 nw)) ++ va_pl L f) H := hP
      have hD : va_D A (((SM hs ao ap au (nI (T / 48)) (nI (T % 48)) (qn + 1) on pn) :: (Dk cI cZ hc a F qn on pn 0 nw)) ++ va_pl L f) := hD
      refine lv_aload_n hx hb dL_act_42 rfl (lv_at hl 1 rfl) ?_
      refine o_plw (X := (SM hs ao ap au (nI (T / 48)) (nI (T % 48)) (qn + 1) on pn) :: (Dk cI cZ hc a F qn on pn 0 nw)) (pl := va_pl L f) (wr := [SM hs ao ap au (nI (T / 48)) (nI (T % 48)) (qn + 1) on pn]) (va_runV (As := []) (rest := []) ⟨hx, hb, hml, hown, hts⟩ (c_X0_addQuarter l G cI cZ hc a F qn on pn 0 nw H.size hqn (by omega)) (cwV 0 hts gL_act_X0_addQuarter rfl rfl rfl (by decide +kernel) ⟨(Nat.le_of_ble_eq_true rfl), (Nat.le_of_ble_eq_true rfl)⟩) ⟨wPre_blind, va_recv hK hP (ci := 0) (q0 := 1) rfl rfl, w_preP hK2 hP hD [1, 2, 3, 4, 5, 6, 7, 8, 9, 10, 11, 12] (by decide) rfl rfl⟩ rfl rfl hl.1 rfl (lv_room (Nat.le_of_ble_eq_true rfl)) dL_act_43 ⟨by dsimp only; omega, by dsimp only; omega⟩) hM hP hD hS hA [1, 2, 3, 4, 5, 6, 7, 8, 9, 10, 11, 12] [0] rfl rfl rfl (by decide) (by decide) (fun r43 u43 H locs hw43 hP hD hS hM => ?_)
      have hP : va_P G vwCl (((SM hs ao ap au (nI (T / 48)) (nI (T % 48)) (qn + 1) on pn) :: (Dk cI cZ hc a F (qn + 1) on pn 0 nw)) ++ va_pl L f) H := hP
      have hD : va_D A (((SM hs ao ap au (nI (T / 48)) (nI (T % 48)) (qn + 1) on pn) :: (Dk cI cZ hc a F (qn + 1) on pn 0 nw)) ++ va_pl L f) := hD
      refine lv_aload_n hx hb dL_act_46 rfl (lv_at hl 2 rfl) ?_
      refine va_get (ci := 1) (v := .int (nI (qn + 1))) (own := RL) (C := RX1) (T := TX1) (N := 9) hx hb hts wa_in hown hK hP 0 rfl rfl 3 (by decide) (hts _ wa_quarters) (fun _ h9 => h9) rfl dL_act_47 ?_
      refine lv_iconst (v := 1) hx hb dL_act_50 (by decide) ?_
      refine lv_isub hx hb dL_act_51 ?_
      refine lv_icmp_ne (tgt := 59) hx hb dL_act_52 (by decide) (fun c8 => ?_) (fun c8 => ?_)
      · refine lv_iconst (v := 0) hx hb dL_act_59 (by decide) ?_
        exact o_zret (w1 := fun u : AC => (((SM hs ao ap au (nI (T / 48)) (nI (T % 48)) (qn + 1) on pn) :: (Dk cI cZ hc a u.1 (qn + 1) on pn 0 u.2.1)) ++ va_pl L u.2.2)) (F, nw, f) hx hb hr hlocks hK hM hP hD hS (Nat.le_of_ble_eq_true rfl) (Nat.le_of_ble_eq_true rfl) dL_act_60 rfl ⟨Or.inl rfl, hF, hrow⟩
      · refine lv_iconst (v := 1) hx hb dL_act_55 (by decide) ?_
        refine lv_goto (tgt := 60) hx hb dL_act_56 (by decide) ?_
        exact o_zret (w1 := fun u : AC => (((SM hs ao ap au (nI (T / 48)) (nI (T % 48)) (qn + 1) on pn) :: (Dk cI cZ hc a u.1 (qn + 1) on pn 0 u.2.1)) ++ va_pl L u.2.2)) (F, nw, f) hx hb hr hlocks hK hM hP hD hS (Nat.le_of_ble_eq_true rfl) (Nat.le_of_ble_eq_true rfl) dL_act_60 rfl ⟨Or.inr rfl, hF, hrow⟩
    · have h2 : qn = 6 := (nI_eq (by omega) (by omega)).mp c9
      rw [if_pos h2] at hst
      cases hst
      refine lv_iconst (v := 1) hx hb dL_act_30 (by decide) ?_
      exact o_zret (w1 := fun u : AC => (((SM hs ao ap au (nI (T / 48)) (nI (T % 48)) qn on pn) :: (Dk cI cZ hc a u.1 qn on pn 0 u.2.1)) ++ va_pl L u.2.2)) (F, nw, f) hx hb hr hlocks hK hM hP hD hS (Nat.le_of_ble_eq_true rfl) (Nat.le_of_ble_eq_true rfl) dL_act_31 rfl ⟨Or.inr rfl, hF, hrow⟩
  have b61 : ¬ (qn = 0 ∨ o_sort x = 0) → W pg l e ({ frames := 6, cells := 8200, slots := 162000, locals := 137 } : Room) s m ([.ref hc, .ref hs, .int x] : List Value).toArray below meth cd H locs (0 + 0) (0 + 0) (MQ below (va_Qi (fun (r : Int32) (u : AC) => (r = 0 ∨ r = 1) ∧ CI u.1 pn1 ∧ OR cI ro rp L u.2.2 on1) (fun u => oB G (ty3 cI cZ cR) (((SM hs ao ap au (nI (T1 / 48)) (nI (T1 % 48)) qn1 on1 pn1) :: (Dk cI cZ hc a u.1 qn1 on1 pn1 0 u.2.1)) ++ va_pl L u.2.2) A (K + dl)) A) ([.ref hc, .ref hs, .int x] : List Value).toArray s 8200 162000 A) (F0 m 61 ls []) := by
    intro h1
    rw [o_step, if_neg h1] at hst
    refine lv_iload_n hx hb dL_act_61 rfl (lv_at hl 3 rfl) ?_
    refine lv_iconst (v := 1) hx hb dL_act_62 (by decide) ?_
    refine lv_ishr hx hb dL_act_63 ?_
    refine lv_aload_n hx hb dL_act_64 rfl (lv_at hl 2 rfl) ?_
    refine va_get (ci := 1) (v := .int (nI qn)) (own := RL) (C := RX1) (T := TX1) (N := 9) hx hb hts wa_in hown hK hP 0 rfl rfl 3 (by decide) (hts _ wa_quarters) (fun _ h9 => h9) rfl dL_act_65 ?_
    refine o_st (va_runS (As := [.int (x >>> (1 &&& 31)), .int (nI qn)]) (rest := []) ⟨hx, hb, hml, hown, hts⟩ (c_L_below l G _ (x >>> (1 &&& 31)) qn (by omega) (by omega)) (va_cwS 2 hts gL_act_L_below rfl rfl rfl (by decide +kernel) ⟨(Nat.le_of_ble_eq_true rfl), (Nat.le_of_ble_eq_true rfl)⟩) ⟨wPre_blind, w_pre (hK.sub [] rfl) w_P0 (w_D0 (A := A))⟩ rfl rfl hl.1 rfl (lv_room (Nat.le_of_ble_eq_true rfl)) dL_act_68 ⟨by dsimp only; omega, by dsimp only; omega⟩) hM hP hS hA (fun r68 u68 H locs hw68 hP hS hM => ?_)
    subst hw68
    have hq9 : onb (x >>> (1 &&& 31)) qn < qn := onb_lt (by omega)
    generalize onb (x >>> (1 &&& 31)) qn = q9 at hq9 ⊢
    refine lv_istore (lv' := [(4, .int (nI q9)), (3, .int (nI (o_sort x))), (0, .ref hc), (1, .ref hs), (2, .int x)]) hx hb dL_act_71 hl (by decide) rfl (fun ls hl => ?_)
    have b85 : (o_sort x < 4 ∨ pn = 0) → W pg l e ({ frames := 6, cells := 8200, slots := 162000, locals := 137 } : Room) s m ([.ref hc, .ref hs, .int x] : List Value).toArray below meth cd H locs (0 + 0 + 0) (0 + 0 + 0) (MQ below (va_Qi (fun (r : Int32) (u : AC) => (r = 0 ∨ r = 1) ∧ CI u.1 pn1 ∧ OR cI ro rp L u.2.2 on1) (fun u => oB G (ty3 cI cZ cR) (((SM hs ao ap au (nI (T1 / 48)) (nI (T1 % 48)) qn1 on1 pn1) :: (Dk cI cZ hc a u.1 qn1 on1 pn1 0 u.2.1)) ++ va_pl L u.2.2) A (K + dl)) A) ([.ref hc, .ref hs, .int x] : List Value).toArray s 8200 162000 A) (F0 m 85 ls []) := by
      intro h2
      rw [if_pos h2] at hst
      refine lv_aload_n hx hb dL_act_85 rfl (lv_at hl 3 rfl) ?_
      refine va_get (ci := 1) (v := .int (nI pn)) (own := RL) (C := RX1) (T := TX1) (N := 9) hx hb hts wa_in hown hK hP 0 rfl rfl 5 (by decide) (hts _ wa_people) (fun _ h9 => h9) rfl dL_act_86 ?_
      refine lv_bipush (v := nI 20) hx hb dL_act_89 (by decide) ?_
      refine lv_icmp_ne (tgt := 96) hx hb dL_act_91 (by decide) (fun c9 => ?_) (fun c9 => ?_)
      · have h3 : ¬ pn = 20 := fun h => c9 (by rw [h])
        rw [if_neg h3] at hst
        cases hst
        have hmem := (hrow.2.2.1 pn (by omega)).1
        obtain ⟨g0, hg0⟩ := (hrow.2.2.1 pn (by omega)).2
        refine lv_aload_n hx hb dL_act_96 rfl (lv_at hl 3 rfl) ?_
        refine va_get (ci := 1) (v := .ref ap) (own := RL) (C := RX1) (T := TX1) (N := 9) hx hb hts wa_in hown hK hP 0 rfl rfl 7 (by decide) (hts _ wa_person) (fun _ h9 => h9) rfl dL_act_97 ?_
        refine lv_aload_n hx hb dL_act_100 rfl (lv_at hl 3 rfl) ?_
        refine va_get (ci := 1) (v := .int (nI pn)) (own := RL) (C := RX1) (T := TX1) (N := 9) hx hb hts wa_in hown hK hP 0 rfl rfl 5 (by decide) (hts _ wa_people) (fun _ h9 => h9) rfl dL_act_101 ?_
        refine o_ald (ww := [OA cR ao ro, PA cR ap rp]) (q0 := 1) (t0 := 2) (r := rp pn) hx hb hK (o_keep hR hro hS) rfl rfl (show pn < 20 by omega) (by decide) (if_pos (show pn < 20 by omega)) dL_act_104 ?_
        refine lv_iconst (v := nI 0) hx hb dL_act_105 (by decide) ?_
        refine lv_iload_n hx hb dL_act_106 rfl (lv_at hl 4 rfl) ?_
        refine lv_iconst (v := 3) hx hb dL_act_107 (by decide) ?_
        refine lv_ishr hx hb dL_act_108 ?_
        refine lv_bipush (v := nI 8) hx hb dL_act_109 (by decide) ?_
        refine o_st (va_runS (As := [.int (x >>> (3 &&& 31)), .int (nI 8)]) (rest := [.int (nI 0), .ref (rp pn)]) ⟨hx, hb, hml, hown, hts⟩ (c_L_below l G _ (x >>> (3 &&& 31)) 8 (by omega) (by omega)) (va_cwS 2 hts gL_act_L_below rfl rfl rfl (by decide +kernel) ⟨(Nat.le_of_ble_eq_true rfl), (Nat.le_of_ble_eq_true rfl)⟩) ⟨wPre_blind, w_pre (hK.sub [] rfl) w_P0 (w_D0 (A := A))⟩ rfl rfl hl.1 rfl (lv_room (Nat.le_of_ble_eq_true rfl)) dL_act_111 ⟨by dsimp only; omega, by dsimp only; omega⟩) hM hP hS hA (fun r111 u111 H locs hw111 hP hS hM => ?_)
        subst hw111
        have ht9 : onb (x >>> (3 &&& 31)) 8 < 8 := onb_lt (by omega)
        generalize onb (x >>> (3 &&& 31)) 8 = t9 at ht9 ⊢
        rw [o_up_id hg0] at hP hD
        refine o_pst hx hb hK 0 rfl hP hD hS hM hmem (j := 0) (v := nI t9) (by omega) (by decide) dL_act_114 (fun H locs hP hD hS hM => ?_)
        generalize hf1 : va_up f (rp pn) (.inl (cI, (7, .inl (upd g0 0 (nI t9))))) = f1 at hP hD
        refine lv_aload_n hx hb dL_act_115 rfl (lv_at hl 3 rfl) ?_
        refine lv_dup hx hb dL_act_116 rfl ?_
        refine va_get (ci := 1) (v := .int (nI pn)) (own := RL) (C := RX1) (T := TX1) (N := 9) hx hb hts wa_in hown hK hP 0 rfl rfl 5 (by decide) (hts _ wa_people) (fun _ h9 => h9) rfl dL_act_117 ?_
        refine lv_iconst (v := 1) hx hb dL_act_120 (by decide) ?_
        refine lv_iadd hx hb dL_act_121 ?_
        rw [nI_1]
        refine W_up hM (va_put (ci := 1) (v := .int (nI (pn + 1))) (ty := .int) (own := RL) (C := RX1) (T := TX1) (N := 9) hx hb hts wa_in tyX1 tyX1_ok nmX1 hown hK hP hD hS 0 rfl rfl 5 (by decide) (hts _ wa_people) (fun _ h9 => h9) rfl (by decide +kernel) rfl rfl (Nat.le_of_ble_eq_true rfl) dL_act_122 (fun H locs hP hD hS => W_dn (fun hM => ?_)))
        have hP : va_P G vwCl (((SM hs ao ap au (nI (T / 48)) (nI (T % 48)) qn on (pn + 1)) :: (Dk cI cZ hc a F qn on pn 0 nw)) ++ va_pl L f1) H := hP
        have hD : va_D A (((SM hs ao ap au (nI (T / 48)) (nI (T % 48)) qn on (pn + 1)) :: (Dk cI cZ hc a F qn on pn 0 nw)) ++ va_pl L f1) := hD
        refine lv_aload_n hx hb dL_act_125 rfl (lv_at hl 2 rfl) ?_
        refine lv_aload_n hx hb dL_act_126 rfl (lv_at hl 3 rfl) ?_
        refine va_get (ci := 1) (v := .ref ap) (own := RL) (C := RX1) (T := TX1) (N := 9) hx hb hts wa_in hown hK hP 0 rfl rfl 7 (by decide) (hts _ wa_person) (fun _ h9 => h9) rfl dL_act_127 ?_
        refine lv_aload_n hx hb dL_act_130 rfl (lv_at hl 3 rfl) ?_
        refine va_get (ci := 1) (v := .int (nI (pn + 1))) (own := RL) (C := RX1) (T := TX1) (N := 9) hx hb hts wa_in hown hK hP 0 rfl rfl 5 (by decide) (hts _ wa_people) (fun _ h9 => h9) rfl dL_act_131 ?_
        refine lv_iconst (v := 1) hx hb dL_act_134 (by decide) ?_
        refine lv_isub hx hb dL_act_135 ?_
        rw [nI_pred]
        refine o_ald (ww := [OA cR ao ro, PA cR ap rp]) (q0 := 1) (t0 := 2) (r := rp pn) hx hb hK (o_keep hR hro hS) rfl rfl (show pn < 20 by omega) (by decide) (if_pos (show pn < 20 by omega)) dL_act_136 ?_
        refine lv_iconst (v := nI 0) hx hb dL_act_137 (by decide) ?_
        rw [← hf1] at hP hD
        refine o_pld hx hb hK 0 rfl hP hmem (j := 0) (by omega) (by decide) dL_act_138 ?_
        rw [pk_us]
        rw [hf1] at hP hD
        refine o_plw (X := (SM hs ao ap au (nI (T / 48)) (nI (T % 48)) qn on (pn + 1)) :: (Dk cI cZ hc a F qn on pn 0 nw)) (pl := va_pl L f1) (wr := [SM hs ao ap au (nI (T / 48)) (nI (T % 48)) qn on (pn + 1)]) (va_runV (As := [.int (nI t9)]) (rest := []) ⟨hx, hb, hml, hown, hts⟩ (c_X0_addPerson l G cI cZ hc a F qn on pn 0 nw H.size (nI t9) hpn (pin_nI ht9 (by omega)) (by omega)) (cwV 1 hts gL_act_X0_addPerson rfl rfl rfl (by decide +kernel) ⟨(Nat.le_of_ble_eq_true rfl), (Nat.le_of_ble_eq_true rfl)⟩) ⟨wPre_blind, va_recv hK hP (ci := 0) (q0 := 1) rfl rfl, w_preP hK2 hP hD [1, 2, 3, 4, 5, 6, 7, 8, 9, 10, 11, 12] (by decide) rfl rfl⟩ rfl rfl hl.1 rfl (lv_room (Nat.le_of_ble_eq_true rfl)) dL_act_139 ⟨by dsimp only; omega, by dsimp only; omega⟩) hM hP hD hS hA [1, 2, 3, 4, 5, 6, 7, 8, 9, 10, 11, 12] [0] rfl rfl rfl (by decide) (by decide) (fun r139 u139 H locs hw139 hP hD hS hM => ?_)
        have hP : va_P G vwCl (((SM hs ao ap au (nI (T / 48)) (nI (T % 48)) qn on (pn + 1)) :: (Dk cI cZ hc a (n_pe F pn (nI t9)) qn on (pn + 1) 0 nw)) ++ va_pl L f1) H := hP
        have hD : va_D A (((SM hs ao ap au (nI (T / 48)) (nI (T % 48)) qn on (pn + 1)) :: (Dk cI cZ hc a (n_pe F pn (nI t9)) qn on (pn + 1) 0 nw)) ++ va_pl L f1) := hD
        have hrow1 : OR cI ro rp L f1 on := by rw [← hf1]; exact OR_pe (pn := pn) hrow hon (by omega)
        refine lv_aload_n hx hb dL_act_142 rfl (lv_at hl 3 rfl) ?_
        refine va_get (ci := 1) (v := .int (nI (pn + 1))) (own := RL) (C := RX1) (T := TX1) (N := 9) hx hb hts wa_in hown hK hP 0 rfl rfl 5 (by decide) (hts _ wa_people) (fun _ h9 => h9) rfl dL_act_143 ?_
        refine lv_iconst (v := 1) hx hb dL_act_146 (by decide) ?_
        refine lv_isub hx hb dL_act_147 ?_
        refine lv_icmp_ne (tgt := 155) hx hb dL_act_148 (by decide) (fun c8 => ?_) (fun c8 => ?_)
        · refine lv_iconst (v := 0) hx hb dL_act_155 (by decide) ?_
          exact o_zret (w1 := fun u : AC => (((SM hs ao ap au (nI (T / 48)) (nI (T % 48)) qn on (pn + 1)) :: (Dk cI cZ hc a u.1 qn on (pn + 1) 0 u.2.1)) ++ va_pl L u.2.2)) (n_pe F pn (nI t9), nw, f1) hx hb hr hlocks hK hM hP hD hS (Nat.le_of_ble_eq_true rfl) (Nat.le_of_ble_eq_true rfl) dL_act_156 rfl ⟨Or.inl rfl, CI_pe hF (pin_nI ht9 (by omega)), hrow1⟩
        · refine lv_iconst (v := 1) hx hb dL_act_151 (by decide) ?_
          refine lv_goto (tgt := 156) hx hb dL_act_152 (by decide) ?_
          exact o_zret (w1 := fun u : AC => (((SM hs ao ap au (nI (T / 48)) (nI (T % 48)) qn on (pn + 1)) :: (Dk cI cZ hc a u.1 qn on (pn + 1) 0 u.2.1)) ++ va_pl L u.2.2)) (n_pe F pn (nI t9), nw, f1) hx hb hr hlocks hK hM hP hD hS (Nat.le_of_ble_eq_true rfl) (Nat.le_of_ble_eq_true rfl) dL_act_156 rfl ⟨Or.inr rfl, CI_pe hF (pin_nI ht9 (by omega)), hrow1⟩
      · have h3 : pn = 20 := (nI_eq (by omega) (by omega)).mp c9
        rw [if_pos h3] at hst
        cases hst
        refine lv_iconst (v := 1) hx hb dL_act_94 (by decide) ?_
        exact o_zret (w1 := fun u : AC => (((SM hs ao ap au (nI (T / 48)) (nI (T % 48)) qn on pn) :: (Dk cI cZ hc a u.1 qn on pn 0 u.2.1)) ++ va_pl L u.2.2)) (F, nw, f) hx hb hr hlocks hK hM hP hD hS (Nat.le_of_ble_eq_true rfl) (Nat.le_of_ble_eq_true rfl) dL_act_95 rfl ⟨Or.inr rfl, hF, hrow⟩
    have b157 : ¬ (o_sort x < 4 ∨ pn = 0) → W pg l e ({ frames := 6, cells := 8200, slots := 162000, locals := 137 } : Room) s m ([.ref hc, .ref hs, .int x] : List Value).toArray below meth cd H locs (0 + 0 + 0) (0 + 0 + 0) (MQ below (va_Qi (fun (r : Int32) (u : AC) => (r = 0 ∨ r = 1) ∧ CI u.1 pn1 ∧ OR cI ro rp L u.2.2 on1) (fun u => oB G (ty3 cI cZ cR) (((SM hs ao ap au (nI (T1 / 48)) (nI (T1 % 48)) qn1 on1 pn1) :: (Dk cI cZ hc a u.1 qn1 on1 pn1 0 u.2.1)) ++ va_pl L u.2.2) A (K + dl)) A) ([.ref hc, .ref hs, .int x] : List Value).toArray s 8200 162000 A) (F0 m 157 ls []) := by
      intro h2
      rw [if_neg h2] at hst
      refine lv_iload_n hx hb dL_act_157 rfl (lv_at hl 4 rfl) ?_
      refine lv_iconst (v := 4) hx hb dL_act_158 (by decide) ?_
      refine lv_ishr hx hb dL_act_159 ?_
      refine lv_aload_n hx hb dL_act_160 rfl (lv_at hl 3 rfl) ?_
      refine va_get (ci := 1) (v := .int (nI pn)) (own := RL) (C := RX1) (T := TX1) (N := 9) hx hb hts wa_in hown hK hP 0 rfl rfl 5 (by decide) (hts _ wa_people) (fun _ h9 => h9) rfl dL_act_161 ?_
      refine o_st (va_runS (As := [.int (x >>> (4 &&& 31)), .int (nI pn)]) (rest := []) ⟨hx, hb, hml, hown, hts⟩ (c_L_below l G _ (x >>> (4 &&& 31)) pn (by omega) (by omega)) (va_cwS 2 hts gL_act_L_below rfl rfl rfl (by decide +kernel) ⟨(Nat.le_of_ble_eq_true rfl), (Nat.le_of_ble_eq_true rfl)⟩) ⟨wPre_blind, w_pre (hK.sub [] rfl) w_P0 (w_D0 (A := A))⟩ rfl rfl hl.1 rfl (lv_room (Nat.le_of_ble_eq_true rfl)) dL_act_164 ⟨by dsimp only; omega, by dsimp only; omega⟩) hM hP hS hA (fun r164 u164 H locs hw164 hP hS hM => ?_)
      subst hw164
      generalize onb (x >>> (4 &&& 31)) pn = p9
      refine lv_istore (lv' := [(5, .int (nI p9)), (4, .int (nI q9)), (3, .int (nI (o_sort x))), (0, .ref hc), (1, .ref hs), (2, .int x)]) hx hb dL_act_167 hl (by decide) rfl (fun ls hl => ?_)
      refine lv_iload_n hx hb dL_act_169 rfl (lv_at hl 5 rfl) ?_
      refine lv_bipush (v := 6) hx hb dL_act_170 (by decide) ?_
      refine lv_ishr hx hb dL_act_172 ?_
      refine lv_iconst (v := nI 4) hx hb dL_act_173 (by decide) ?_
      refine o_st (va_runS (As := [.int (x >>> (6 &&& 31)), .int (nI 4)]) (rest := []) ⟨hx, hb, hml, hown, hts⟩ (c_L_below l G _ (x >>> (6 &&& 31)) 4 (by omega) (by omega)) (va_cwS 2 hts gL_act_L_below rfl rfl rfl (by decide +kernel) ⟨(Nat.le_of_ble_eq_true rfl), (Nat.le_of_ble_eq_true rfl)⟩) ⟨wPre_blind, w_pre (hK.sub [] rfl) w_P0 (w_D0 (A := A))⟩ rfl rfl hl.1 rfl (lv_room (Nat.le_of_ble_eq_true rfl)) dL_act_174 ⟨by dsimp only; omega, by dsimp only; omega⟩) hM hP hS hA (fun r174 u174 H locs hw174 hP hS hM => ?_)
      subst hw174
      have hc9 : onb (x >>> (6 &&& 31)) 4 < 4 := onb_lt (by omega)
      generalize onb (x >>> (6 &&& 31)) 4 = k9 at hc9 ⊢
      refine lv_istore (lv' := [(6, .int (nI k9)), (5, .int (nI p9)), (4, .int (nI q9)), (3, .int (nI (o_sort x))), (0, .ref hc), (1, .ref hs), (2, .int x)]) hx hb dL_act_177 hl (by decide) rfl (fun ls hl => ?_)
      have b192 : (o_sort x < 7 ∨ on = 0) → W pg l e ({ frames := 6, cells := 8200, slots := 162000, locals := 137 } : Room) s m ([.ref hc, .ref hs, .int x] : List Value).toArray below meth cd H locs (0 + 0 + 0 + 0 + 0) (0 + 0 + 0 + 0 + 0) (MQ below (va_Qi (fun (r : Int32) (u : AC) => (r = 0 ∨ r = 1) ∧ CI u.1 pn1 ∧ OR cI ro rp L u.2.2 on1) (fun u => oB G (ty3 cI cZ cR) (((SM hs ao ap au (nI (T1 / 48)) (nI (T1 % 48)) qn1 on1 pn1) :: (Dk cI cZ hc a u.1 qn1 on1 pn1 0 u.2.1)) ++ va_pl L u.2.2) A (K + dl)) A) ([.ref hc, .ref hs, .int x] : List Value).toArray s 8200 162000 A) (F0 m 192 ls []) := by
        intro h4
        rw [if_pos h4] at hst
        refine lv_aload_n hx hb dL_act_192 rfl (lv_at hl 5 rfl) ?_
        refine va_get (ci := 1) (v := .int (nI on)) (own := RL) (C := RX1) (T := TX1) (N := 9) hx hb hts wa_in hown hK hP 0 rfl rfl 4 (by decide) (hts _ wa_orders) (fun _ h9 => h9) rfl dL_act_193 ?_
        refine lv_bipush (v := nI 10) hx hb dL_act_196 (by decide) ?_
        refine lv_icmp_ne (tgt := 203) hx hb dL_act_198 (by decide) (fun c9 => ?_) (fun c9 => ?_)
        · have h3 : ¬ on = 10 := fun h => c9 (by rw [h])
          rw [if_neg h3] at hst
          cases hst
          have hmem := (hrow.2.1 on (by omega)).1
          obtain ⟨g0, hg0⟩ := (hrow.2.1 on (by omega)).2
          refine lv_aload_n hx hb dL_act_203 rfl (lv_at hl 5 rfl) ?_
          refine va_get (ci := 1) (v := .ref ao) (own := RL) (C := RX1) (T := TX1) (N := 9) hx hb hts wa_in hown hK hP 0 rfl rfl 6 (by decide) (hts _ wa_order) (fun _ h9 => h9) rfl dL_act_204 ?_
          refine lv_aload_n hx hb dL_act_207 rfl (lv_at hl 5 rfl) ?_
          refine va_get (ci := 1) (v := .int (nI on)) (own := RL) (C := RX1) (T := TX1) (N := 9) hx hb hts wa_in hown hK hP 0 rfl rfl 4 (by decide) (hts _ wa_orders) (fun _ h9 => h9) rfl dL_act_208 ?_
          refine o_ald (ww := [OA cR ao ro, PA cR ap rp]) (q0 := 0) (t0 := 2) (r := ro on) hx hb hK (o_keep hR hro hS) rfl rfl (show on < 10 by omega) (by decide) (if_pos (show on < 10 by omega)) dL_act_211 ?_
          refine lv_astore (lv' := [(7, .ref (ro on)), (6, .int (nI k9)), (5, .int (nI p9)), (4, .int (nI q9)), (3, .int (nI (o_sort x))), (0, .ref hc), (1, .ref hs), (2, .int x)]) hx hb dL_act_212 hl (by decide) rfl (fun ls hl => ?_)
          rw [o_up_id hg0] at hP hD
          refine lv_aload hx hb dL_act_214 (lv_at hl 0 rfl) ?_
          refine lv_iconst (v := nI 0) hx hb dL_act_216 (by decide) ?_
          refine lv_iload hx hb dL_act_217 (lv_at hl 3 rfl) ?_
          refine o_pst hx hb hK 0 rfl hP hD hS hM hmem (j := 0) (v := nI q9) (by omega) (by decide) dL_act_219 (fun H locs hP hD hS hM => ?_)
          refine lv_aload hx hb dL_act_220 (lv_at hl 0 rfl) ?_
          refine lv_iconst (v := nI 1) hx hb dL_act_222 (by decide) ?_
          refine lv_iload_n hx hb dL_act_223 rfl (lv_at hl 7 rfl) ?_
          refine lv_iconst (v := 2) hx hb dL_act_224 (by decide) ?_
          refine lv_ishr hx hb dL_act_225 ?_
          refine lv_iconst (v := nI 5) hx hb dL_act_226 (by decide) ?_
          refine o_st (va_runS (As := [.int (x >>> (2 &&& 31)), .int (nI 5)]) (rest := [.int (nI 1), .ref (ro on)]) ⟨hx, hb, hml, hown, hts⟩ (c_L_below l G _ (x >>> (2 &&& 31)) 5 (by omega) (by omega)) (va_cwS 2 hts gL_act_L_below rfl rfl rfl (by decide +kernel) ⟨(Nat.le_of_ble_eq_true rfl), (Nat.le_of_ble_eq_true rfl)⟩) ⟨wPre_blind, w_pre (hK.sub [] rfl) w_P0 (w_D0 (A := A))⟩ rfl rfl hl.1 rfl (lv_room (Nat.le_of_ble_eq_true rfl)) dL_act_227 ⟨by dsimp only; omega, by dsimp only; omega⟩) hM hP hS hA (fun r227 u227 H locs hw227 hP hS hM => ?_)
          subst hw227
          have ha9 : onb (x >>> (2 &&& 31)) 5 < 5 := onb_lt (by omega)
          generalize onb (x >>> (2 &&& 31)) 5 = a9 at ha9 ⊢
          refine o_pst hx hb hK 0 rfl hP hD hS hM hmem (j := 1) (v := nI a9) (by omega) (by decide) dL_act_230 (fun H locs hP hD hS hM => ?_)
          refine lv_aload hx hb dL_act_231 (lv_at hl 0 rfl) ?_
          refine lv_iconst (v := nI 2) hx hb dL_act_233 (by decide) ?_
          refine lv_iload_n hx hb dL_act_234 rfl (lv_at hl 7 rfl) ?_
          refine lv_iconst (v := 5) hx hb dL_act_235 (by decide) ?_
          refine lv_ishr hx hb dL_act_236 ?_
          refine lv_iconst (v := nI 5) hx hb dL_act_237 (by decide) ?_
          refine o_st (va_runS (As := [.int (x >>> (5 &&& 31)), .int (nI 5)]) (rest := [.int (nI 2), .ref (ro on)]) ⟨hx, hb, hml, hown, hts⟩ (c_L_below l G _ (x >>> (5 &&& 31)) 5 (by omega) (by omega)) (va_cwS 2 hts gL_act_L_below rfl rfl rfl (by decide +kernel) ⟨(Nat.le_of_ble_eq_true rfl), (Nat.le_of_ble_eq_true rfl)⟩) ⟨wPre_blind, w_pre (hK.sub [] rfl) w_P0 (w_D0 (A := A))⟩ rfl rfl hl.1 rfl (lv_room (Nat.le_of_ble_eq_true rfl)) dL_act_238 ⟨by dsimp only; omega, by dsimp only; omega⟩) hM hP hS hA (fun r238 u238 H locs hw238 hP hS hM => ?_)
          subst hw238
          have hb9 : onb (x >>> (5 &&& 31)) 5 < 5 := onb_lt (by omega)
          generalize onb (x >>> (5 &&& 31)) 5 = b9 at hb9 ⊢
          refine o_pst hx hb hK 0 rfl hP hD hS hM hmem (j := 2) (v := nI b9) (by omega) (by decide) dL_act_241 (fun H locs hP hD hS hM => ?_)
          refine lv_aload hx hb dL_act_242 (lv_at hl 0 rfl) ?_
          refine lv_iconst (v := nI 3) hx hb dL_act_244 (by decide) ?_
          refine lv_iload hx hb dL_act_245 (lv_at hl 1 rfl) ?_
          refine o_pst hx hb hK 0 rfl hP hD hS hM hmem (j := 3) (v := nI k9) (by omega) (by decide) dL_act_247 (fun H locs hP hD hS hM => ?_)
          refine lv_aload hx hb dL_act_248 (lv_at hl 0 rfl) ?_
          refine lv_iconst (v := nI 4) hx hb dL_act_250 (by decide) ?_
          refine lv_iconst (v := 1) hx hb dL_act_251 (by decide) ?_
          refine o_pst hx hb hK 0 rfl hP hD hS hM hmem (j := 4) (v := 1) (by omega) (by decide) dL_act_252 (fun H locs hP hD hS hM => ?_)
          generalize hge : upd (upd (upd (upd (upd g0 0 (nI q9)) 1 (nI a9)) 2 (nI b9)) 3 (nI k9)) 4 1 = g5 at hP hD
          have e1 : g5 1 = nI a9 := by rw [← hge]; rfl
          have e2 : g5 2 = nI b9 := by rw [← hge]; rfl
          have e4 : g5 4 = 1 := by rw [← hge]; rfl
          refine lv_aload_n hx hb dL_act_253 rfl (lv_at hl 6 rfl) ?_
          refine lv_dup hx hb dL_act_254 rfl ?_
          refine va_get (ci := 1) (v := .int (nI on)) (own := RL) (C := RX1) (T := TX1) (N := 9) hx hb hts wa_in hown hK hP 0 rfl rfl 4 (by decide) (hts _ wa_orders) (fun _ h9 => h9) rfl dL_act_255 ?_
          refine lv_iconst (v := 1) hx hb dL_act_258 (by decide) ?_
          refine lv_iadd hx hb dL_act_259 ?_
          rw [nI_1]
          refine W_up hM (va_put (ci := 1) (v := .int (nI (on + 1))) (ty := .int) (own := RL) (C := RX1) (T := TX1) (N := 9) hx hb hts wa_in tyX1 tyX1_ok nmX1 hown hK hP hD hS 0 rfl rfl 4 (by decide) (hts _ wa_orders) (fun _ h9 => h9) rfl (by decide +kernel) rfl rfl (Nat.le_of_ble_eq_true rfl) dL_act_260 (fun H locs hP hD hS => W_dn (fun hM => ?_)))
          have hP : va_P G vwCl (((SM hs ao ap au (nI (T / 48)) (nI (T % 48)) qn (on + 1) pn) :: (Dk cI cZ hc a F qn on pn 0 nw)) ++ va_pl L (va_up f (ro on) (.inl (cI, (13, .inl g5))))) H := hP
          have hD : va_D A (((SM hs ao ap au (nI (T / 48)) (nI (T % 48)) qn (on + 1) pn) :: (Dk cI cZ hc a F qn on pn 0 nw)) ++ va_pl L (va_up f (ro on) (.inl (cI, (13, .inl g5))))) := hD
          refine lv_aload_n hx hb dL_act_263 rfl (lv_at hl 5 rfl) ?_
          refine lv_iload hx hb dL_act_264 (lv_at hl 3 rfl) ?_
          refine lv_aload hx hb dL_act_266 (lv_at hl 0 rfl) ?_
          refine lv_iconst (v := nI 1) hx hb dL_act_268 (by decide) ?_
          refine o_pld hx hb hK 0 rfl hP hmem (j := 1) (by omega) (by decide) dL_act_269 ?_
          rw [e1]
          refine lv_aload hx hb dL_act_270 (lv_at hl 0 rfl) ?_
          refine lv_iconst (v := nI 2) hx hb dL_act_272 (by decide) ?_
          refine o_pld hx hb hK 0 rfl hP hmem (j := 2) (by omega) (by decide) dL_act_273 ?_
          rw [e2]
          refine lv_iload hx hb dL_act_274 (lv_at hl 1 rfl) ?_
          refine o_plw (X := (SM hs ao ap au (nI (T / 48)) (nI (T % 48)) qn (on + 1) pn) :: (Dk cI cZ hc a F qn on pn 0 nw)) (pl := va_pl L (va_up f (ro on) (.inl (cI, (13, .inl g5))))) (wr := [SM hs ao ap au (nI (T / 48)) (nI (T % 48)) qn (on + 1) pn]) (va_runV (As := [.int (nI q9), .int (nI a9), .int (nI b9), .int (nI k9)]) (rest := []) ⟨hx, hb, hml, hown, hts⟩ (c_X0_addOrder l G cI cZ hc a F qn on pn 0 nw H.size (nI q9) (nI a9) (nI b9) (nI k9) hqn hon (pin_nI hq9 (by omega)) (pin_nI hc9 (by omega)) (o_pwi4 (by omega)) (o_pwi4 (by omega)) (by omega)) (cwV 4 hts gL_act_X0_addOrder rfl rfl rfl (by decide +kernel) ⟨(Nat.le_of_ble_eq_true rfl), (Nat.le_of_ble_eq_true rfl)⟩) ⟨wPre_blind, va_recv hK hP (ci := 0) (q0 := 1) rfl rfl, w_preP hK2 hP hD [1, 2, 3, 4, 5, 6, 7, 8, 9, 10, 11, 12] (by decide) rfl rfl⟩ rfl rfl hl.1 rfl (lv_room (Nat.le_of_ble_eq_true rfl)) dL_act_276 ⟨by dsimp only; omega, by dsimp only; omega⟩) hM hP hD hS hA [1, 2, 3, 4, 5, 6, 7, 8, 9, 10, 11, 12] [0] rfl rfl rfl (by decide) (by decide) (fun r276 u276 H locs hw276 hP hD hS hM => ?_)
          have hP : va_P G vwCl (((SM hs ao ap au (nI (T / 48)) (nI (T % 48)) qn (on + 1) pn) :: (Dk cI cZ hc a (n_or F on (nI q9) (nI a9) (nI b9) (nI k9)) qn (on + 1) pn 0 nw)) ++ va_pl L (va_up f (ro on) (.inl (cI, (13, .inl g5))))) H := hP
          have hD : va_D A (((SM hs ao ap au (nI (T / 48)) (nI (T % 48)) qn (on + 1) pn) :: (Dk cI cZ hc a (n_or F on (nI q9) (nI a9) (nI b9) (nI k9)) qn (on + 1) pn 0 nw)) ++ va_pl L (va_up f (ro on) (.inl (cI, (13, .inl g5))))) := hD
          refine lv_aload_n hx hb dL_act_279 rfl (lv_at hl 6 rfl) ?_
          refine va_get (ci := 1) (v := .int (nI (on + 1))) (own := RL) (C := RX1) (T := TX1) (N := 9) hx hb hts wa_in hown hK hP 0 rfl rfl 4 (by decide) (hts _ wa_orders) (fun _ h9 => h9) rfl dL_act_280 ?_
          refine lv_iconst (v := 1) hx hb dL_act_283 (by decide) ?_
          refine lv_isub hx hb dL_act_284 ?_
          refine lv_icmp_ne (tgt := 292) hx hb dL_act_285 (by decide) (fun c8 => ?_) (fun c8 => ?_)
          · refine lv_iconst (v := 0) hx hb dL_act_292 (by decide) ?_
            exact o_zret (w1 := fun u : AC => (((SM hs ao ap au (nI (T / 48)) (nI (T % 48)) qn (on + 1) pn) :: (Dk cI cZ hc a u.1 qn (on + 1) pn 0 u.2.1)) ++ va_pl L u.2.2)) (n_or F on (nI q9) (nI a9) (nI b9) (nI k9), nw, va_up f (ro on) (.inl (cI, (13, .inl g5)))) hx hb hr hlocks hK hM hP hD hS (Nat.le_of_ble_eq_true rfl) (Nat.le_of_ble_eq_true rfl) dL_act_293 rfl ⟨Or.inl rfl, CI_or hF, OR_or hrow (by omega) e1 (by omega) e4⟩
          · refine lv_iconst (v := 1) hx hb dL_act_288 (by decide) ?_
            refine lv_goto (tgt := 293) hx hb dL_act_289 (by decide) ?_
            exact o_zret (w1 := fun u : AC => (((SM hs ao ap au (nI (T / 48)) (nI (T % 48)) qn (on + 1) pn) :: (Dk cI cZ hc a u.1 qn (on + 1) pn 0 u.2.1)) ++ va_pl L u.2.2)) (n_or F on (nI q9) (nI a9) (nI b9) (nI k9), nw, va_up f (ro on) (.inl (cI, (13, .inl g5)))) hx hb hr hlocks hK hM hP hD hS (Nat.le_of_ble_eq_true rfl) (Nat.le_of_ble_eq_true rfl) dL_act_293 rfl ⟨Or.inr rfl, CI_or hF, OR_or hrow (by omega) e1 (by omega) e4⟩
        · have h3 : on = 10 := (nI_eq (by omega) (by omega)).mp c9
          rw [if_pos h3] at hst
          cases hst
          refine lv_iconst (v := 1) hx hb dL_act_201 (by decide) ?_
          exact o_zret (w1 := fun u : AC => (((SM hs ao ap au (nI (T / 48)) (nI (T % 48)) qn on pn) :: (Dk cI cZ hc a u.1 qn on pn 0 u.2.1)) ++ va_pl L u.2.2)) (F, nw, f) hx hb hr hlocks hK hM hP hD hS (Nat.le_of_ble_eq_true rfl) (Nat.le_of_ble_eq_true rfl) dL_act_202 rfl ⟨Or.inr rfl, hF, hrow⟩
      have b294 : ¬ (o_sort x < 7 ∨ on = 0) → W pg l e ({ frames := 6, cells := 8200, slots := 162000, locals := 137 } : Room) s m ([.ref hc, .ref hs, .int x] : List Value).toArray below meth cd H locs (0 + 0 + 0 + 0 + 0) (0 + 0 + 0 + 0 + 0) (MQ below (va_Qi (fun (r : Int32) (u : AC) => (r = 0 ∨ r = 1) ∧ CI u.1 pn1 ∧ OR cI ro rp L u.2.2 on1) (fun u => oB G (ty3 cI cZ cR) (((SM hs ao ap au (nI (T1 / 48)) (nI (T1 % 48)) qn1 on1 pn1) :: (Dk cI cZ hc a u.1 qn1 on1 pn1 0 u.2.1)) ++ va_pl L u.2.2) A (K + dl)) A) ([.ref hc, .ref hs, .int x] : List Value).toArray s 8200 162000 A) (F0 m 294 ls []) := by
        intro h4
        rw [if_neg h4] at hst
        have h18 : 18 ≤ o_sort x := by
          by_cases h : 18 ≤ o_sort x
          · exact h
          · rw [if_neg h] at hst; cases hst
        rw [if_pos h18] at hst
        cases hst
        refine lv_iload_n hx hb dL_act_294 rfl (lv_at hl 6 rfl) ?_
        refine lv_iconst (v := 2) hx hb dL_act_295 (by decide) ?_
        refine lv_ishr hx hb dL_act_296 ?_
        refine lv_aload_n hx hb dL_act_297 rfl (lv_at hl 5 rfl) ?_
        refine va_get (ci := 1) (v := .int (nI on)) (own := RL) (C := RX1) (T := TX1) (N := 9) hx hb hts wa_in hown hK hP 0 rfl rfl 4 (by decide) (hts _ wa_orders) (fun _ h9 => h9) rfl dL_act_298 ?_
        refine o_st (va_runS (As := [.int (x >>> (2 &&& 31)), .int (nI on)]) (rest := []) ⟨hx, hb, hml, hown, hts⟩ (c_L_below l G _ (x >>> (2 &&& 31)) on (by omega) (by omega)) (va_cwS 2 hts gL_act_L_below rfl rfl rfl (by decide +kernel) ⟨(Nat.le_of_ble_eq_true rfl), (Nat.le_of_ble_eq_true rfl)⟩) ⟨wPre_blind, w_pre (hK.sub [] rfl) w_P0 (w_D0 (A := A))⟩ rfl rfl hl.1 rfl (lv_room (Nat.le_of_ble_eq_true rfl)) dL_act_301 ⟨by dsimp only; omega, by dsimp only; omega⟩) hM hP hS hA (fun r301 u301 H locs hw301 hP hS hM => ?_)
        subst hw301
        generalize onb (x >>> (2 &&& 31)) on = o9
        refine lv_istore (lv' := [(7, .int (nI o9)), (6, .int (nI k9)), (5, .int (nI p9)), (4, .int (nI q9)), (3, .int (nI (o_sort x))), (0, .ref hc), (1, .ref hs), (2, .int x)]) hx hb dL_act_304 hl (by decide) rfl (fun ls hl => ?_)
        refine lv_iload_n hx hb dL_act_306 rfl (lv_at hl 4 rfl) ?_
        refine lv_tableOut (tgt := 834) hx hb dL_act_307 (Or.inr (by rw [nI_toInt (by omega)]; omega)) (by decide) ?_
        have hl := lv_sub hl (l' := [(0, .ref hc), (1, .ref hs), (2, .int x)]) [5, 6, 7] rfl
        refine lv_iconst (v := 1) hx hb dL_act_834 (by decide) ?_
        refine lv_iload_n hx hb dL_act_835 rfl (lv_at hl 2 rfl) ?_
        refine lv_iconst (v := 2) hx hb dL_act_836 (by decide) ?_
        refine lv_ishr hx hb dL_act_837 ?_
        refine lv_iload_n hx hb dL_act_838 rfl (lv_at hl 2 rfl) ?_
        refine lv_iconst (v := nI 5) hx hb dL_act_839 (by decide) ?_
        refine o_st (va_runS (As := [.int (x), .int (nI 5)]) (rest := [.int (x >>> (2 &&& 31)), .int 1]) ⟨hx, hb, hml, hown, hts⟩ (c_L_below l G _ (x) 5 (by omega) (by omega)) (va_cwS 2 hts gL_act_L_below rfl rfl rfl (by decide +kernel) ⟨(Nat.le_of_ble_eq_true rfl), (Nat.le_of_ble_eq_true rfl)⟩) ⟨wPre_blind, w_pre (hK.sub [] rfl) w_P0 (w_D0 (A := A))⟩ rfl rfl hl.1 rfl (lv_room (Nat.le_of_ble_eq_true rfl)) dL_act_840 ⟨by dsimp only; omega, by dsimp only; omega⟩) hM hP hS hA (fun r840 u840 H locs hw840 hP hS hM => ?_)
        subst hw840
        have b854 : W pg l e ({ frames := 6, cells := 8200, slots := 162000, locals := 137 } : Room) s m ([.ref hc, .ref hs, .int x] : List Value).toArray below meth cd H locs (0 + 0 + 0 + 0 + 0 + 0 + 0) (0 + 0 + 0 + 0 + 0 + 0 + 0) (MQ below (va_Qi (fun (r : Int32) (u : AC) => (r = 0 ∨ r = 1) ∧ CI u.1 pn ∧ OR cI ro rp L u.2.2 on) (fun u => oB G (ty3 cI cZ cR) (((SM hs ao ap au (nI ((T + o_hv x) / 48)) (nI ((T + o_hv x) % 48)) qn on pn) :: (Dk cI cZ hc a u.1 qn on pn 0 u.2.1)) ++ va_pl L u.2.2) A (K + o_gs on T (o_hv x))) A) ([.ref hc, .ref hs, .int x] : List Value).toArray s 8200 162000 A) (F0 m 854 ls [.int (nI (o_hn x)), .int (x >>> (2 &&& 31)), .int 1]) := by
          have hhn : 0 < o_hn x ∧ o_hn x ≤ 200 := by unfold o_hn; split <;> omega
          refine o_st (va_runS (As := [.int (x >>> (2 &&& 31)), .int (nI (o_hn x))]) (rest := [.int 1]) ⟨hx, hb, hml, hown, hts⟩ (c_L_below l G _ (x >>> (2 &&& 31)) (o_hn x) hhn.1 (by omega)) (va_cwS 2 hts gL_act_L_below rfl rfl rfl (by decide +kernel) ⟨(Nat.le_of_ble_eq_true rfl), (Nat.le_of_ble_eq_true rfl)⟩) ⟨wPre_blind, w_pre (hK.sub [] rfl) w_P0 (w_D0 (A := A))⟩ rfl rfl hl.1 rfl (lv_room (Nat.le_of_ble_eq_true rfl)) dL_act_854 ⟨by dsimp only; omega, by dsimp only; omega⟩) hM hP hS hA (fun r854 u854 H locs hw854 hP hS hM => ?_)
          subst hw854
          refine lv_iadd hx hb dL_act_857 ?_
          rw [show (1 : Int32) + nI (onb (x >>> (2 &&& 31)) (o_hn x)) = nI (o_hv x) from nI_add 1 _]
          obtain ⟨hh1, hh2⟩ := o_hv_le x
          generalize o_hv x = hh at hh1 hh2 ⊢
          refine lv_istore (lv' := [(13, .int (nI hh)), (0, .ref hc), (1, .ref hs), (2, .int x)]) hx hb dL_act_858 hl (by decide) rfl (fun ls hl => ?_)
          refine lv_iconst (v := 0) hx hb dL_act_860 (by decide) ?_
          refine lv_istore (lv' := [(14, .int 0), (13, .int (nI hh)), (0, .ref hc), (1, .ref hs), (2, .int x)]) hx hb dL_act_861 hl (by decide) rfl (fun ls hl => ?_)
          refine lv_iconst (v := 0) hx hb dL_act_863 (by decide) ?_
          refine lv_istore (lv' := [(15, .int 0), (14, .int 0), (13, .int (nI hh)), (0, .ref hc), (1, .ref hs), (2, .int x)]) hx hb dL_act_864 hl (by decide) rfl (fun ls hl => ?_)
          have key : ∀ (n i : Nat), i ≤ hh → hh < i + n → ∀ (y : Int32) (H : Heap) (locs : List Loc), va_P G vwCl (((SM hs ao ap au (nI ((T + i) / 48)) (nI ((T + i) % 48)) qn on pn) :: (Dk cI cZ hc a F qn on pn 0 nw)) ++ va_pl L f) H → va_D A (((SM hs ao ap au (nI ((T + i) / 48)) (nI ((T + i) % 48)) qn on pn) :: (Dk cI cZ hc a F qn on pn 0 nw)) ++ va_pl L f) → va_S A s.heap H locs → K + o_gs on T i ≤ slotSum H → ∀ ls : Array Slot, lv_has ls 16 [(15, .int (nI i)), (14, .int y), (13, .int (nI hh)), (0, .ref hc), (1, .ref hs), (2, .int x)] → W pg l e ({ frames := 6, cells := 8200, slots := 162000, locals := 137 } : Room) s m ([.ref hc, .ref hs, .int x] : List Value).toArray below meth cd H locs (41 * i) (810 * i) (MQ below (va_Qi (fun (r : Int32) (u : AC) => (r = 0 ∨ r = 1) ∧ CI u.1 pn ∧ OR cI ro rp L u.2.2 on) (fun u => oB G (ty3 cI cZ cR) (((SM hs ao ap au (nI ((T + hh) / 48)) (nI ((T + hh) % 48)) qn on pn) :: (Dk cI cZ hc a u.1 qn on pn 0 u.2.1)) ++ va_pl L u.2.2) A (K + o_gs on T hh)) A) ([.ref hc, .ref hs, .int x] : List Value).toArray s 8200 162000 A) (F0 m 866 ls []) := by
            intro n
            induction n with
            | zero => intro i h1 h2; exact absurd h2 (by omega)
            | succ n ih =>
              intro i hi hn y H locs hP hD hS hM ls hl
              refine lv_iload hx hb dL_act_866 (lv_at hl 0 rfl) ?_
              refine lv_iload hx hb dL_act_868 (lv_at hl 2 rfl) ?_
              refine lv_icmp_ge (tgt := 888) hx hb dL_act_870 (by decide) (fun c9 => ?_) (fun c9 => ?_)
              · have h9 : hh ≤ i := (nI_leI (by omega) (by omega)).mp c9
                have ei : hh = i := by omega
                subst ei
                refine lv_aload_n hx hb dL_act_888 rfl (lv_at hl 3 rfl) ?_
                refine lv_iload hx hb dL_act_889 (lv_at hl 2 rfl) ?_
                refine o_plw (X := (SM hs ao ap au (nI ((T + hh) / 48)) (nI ((T + hh) % 48)) qn on pn) :: (Dk cI cZ hc a F qn on pn 0 nw)) (pl := va_pl L f) (wr := [SM hs ao ap au (nI ((T + hh) / 48)) (nI ((T + hh) % 48)) qn on pn]) (va_runV (As := [.int (nI hh)]) (rest := []) ⟨hx, hb, hml, hown, hts⟩ (c_X0_pass l G cI cZ hc a F qn on pn 0 nw H.size (nI hh) hon (o_pwi (a := 1) (n := 200) (by omega) (by omega))) (cwV 1 hts gL_act_X0_pass rfl rfl rfl (by decide +kernel) ⟨(Nat.le_of_ble_eq_true rfl), (Nat.le_of_ble_eq_true rfl)⟩) ⟨wPre_blind, va_recv hK hP (ci := 0) (q0 := 1) rfl rfl, w_preP hK2 hP hD [1, 2, 3, 4, 5, 6, 7, 8, 9, 10, 11, 12] (by decide) rfl rfl⟩ rfl rfl hl.1 rfl (lv_room (Nat.le_of_ble_eq_true rfl)) dL_act_891 ⟨by dsimp only; omega, by dsimp only; omega⟩) hM hP hD hS hA [1, 2, 3, 4, 5, 6, 7, 8, 9, 10, 11, 12] [0] rfl rfl rfl (by decide) (by decide) (fun r891 u891 H locs hw891 hP hD hS hM => ?_)
                have hP : va_P G vwCl (((SM hs ao ap au (nI ((T + hh) / 48)) (nI ((T + hh) % 48)) qn on pn) :: (Dk cI cZ hc a F qn on pn 0 (nw + nI hh))) ++ va_pl L f) H := hP
                have hD : va_D A (((SM hs ao ap au (nI ((T + hh) / 48)) (nI ((T + hh) % 48)) qn on pn) :: (Dk cI cZ hc a F qn on pn 0 (nw + nI hh))) ++ va_pl L f) := hD
                refine lv_iload hx hb dL_act_894 (lv_at hl 1 rfl) ?_
                refine lv_icmp_ne (tgt := 903) hx hb dL_act_896 (by decide) (fun c8 => ?_) (fun c8 => ?_)
                · refine lv_iconst (v := 0) hx hb dL_act_903 (by decide) ?_
                  exact o_zret (w1 := fun u : AC => (((SM hs ao ap au (nI ((T + hh) / 48)) (nI ((T + hh) % 48)) qn on pn) :: (Dk cI cZ hc a u.1 qn on pn 0 u.2.1)) ++ va_pl L u.2.2)) (F, nw + nI hh, f) hx hb hr hlocks hK hM hP hD hS (by omega) (by omega) dL_act_904 rfl ⟨Or.inl rfl, hF, hrow⟩
                · refine lv_iconst (v := 1) hx hb dL_act_899 (by decide) ?_
                  refine lv_goto (tgt := 904) hx hb dL_act_900 (by decide) ?_
                  exact o_zret (w1 := fun u : AC => (((SM hs ao ap au (nI ((T + hh) / 48)) (nI ((T + hh) % 48)) qn on pn) :: (Dk cI cZ hc a u.1 qn on pn 0 u.2.1)) ++ va_pl L u.2.2)) (F, nw + nI hh, f) hx hb hr hlocks hK hM hP hD hS (by omega) (by omega) dL_act_904 rfl ⟨Or.inr rfl, hF, hrow⟩
              · have h9 : i < hh := o_ge c9 (by omega) (by omega)
                refine lv_iload hx hb dL_act_873 (lv_at hl 1 rfl) ?_
                refine lv_aload_n hx hb dL_act_875 rfl (lv_at hl 4 rfl) ?_
                have hR9 : va_P G vwCl ([OA cR ao ro] ++ va_pl L f) H := ((o_keep hR hro hS).sub [0] rfl).app (hP.part (cx := []) [] rfl)
                refine o_pl (X := (SM hs ao ap au (nI ((T + i) / 48)) (nI ((T + i) % 48)) qn on pn) :: (Dk cI cZ hc a F qn on pn 0 nw)) (pl := va_pl L f) (wr := Dk cI cZ hc a F qn on pn 0 nw) (va_runV (As := []) (rest := [.int y]) ⟨hx, hb, hml, hown, hts⟩ (c_X1_pass l G cI cZ cR hs ao ap au (T + i) qn on pn ro L f H.size (K + o_gs on T i) hon hrow.1 (by omega)) (cwV 0 hts gL_act_X1_pass rfl rfl rfl (by decide +kernel) ⟨(Nat.le_of_ble_eq_true rfl), (Nat.le_of_ble_eq_true rfl)⟩) ⟨oPre_blind, va_recv hK hP (ci := 1) (q0 := 0) rfl rfl, o_pre hM hK (hP.sub [0] rfl) hR9 (hD.sub [0] (by decide) rfl) (o_apart hD (hro 0 _ rfl))⟩ rfl rfl hl.1 rfl (lv_room (Nat.le_of_ble_eq_true rfl)) dL_act_876 ⟨by dsimp only; omega, by dsimp only; omega⟩) hP hD hS hA [0] [1, 2, 3, 4, 5, 6, 7, 8, 9, 10, 11, 12] rfl rfl rfl (by decide) (by decide) (fun r876 u876 H locs hw876 hP hD hS hM => ?_)
                have hP : va_P G vwCl (((SM hs ao ap au (nI ((T + i + 1) / 48)) (nI ((T + i + 1) % 48)) qn on pn) :: (Dk cI cZ hc a F qn on pn 0 nw)) ++ va_pl L f) H := hP.part [12, 0, 1, 2, 3, 4, 5, 6, 7, 8, 9, 10, 11] rfl
                have hD : va_D A (((SM hs ao ap au (nI ((T + i + 1) / 48)) (nI ((T + i + 1) % 48)) qn on pn) :: (Dk cI cZ hc a F qn on pn 0 nw)) ++ va_pl L f) := hD.part [12, 0, 1, 2, 3, 4, 5, 6, 7, 8, 9, 10, 11] (by decide) rfl
                refine lv_iadd hx hb dL_act_879 ?_
                refine lv_istore (lv' := [(14, .int (y + r876)), (15, .int (nI i)), (13, .int (nI hh)), (0, .ref hc), (1, .ref hs), (2, .int x)]) hx hb dL_act_880 hl (by decide) rfl (fun ls hl => ?_)
                refine lv_iinc (v := nI i + 1) (lv' := [(15, .int (nI i + 1)), (14, .int (y + r876)), (13, .int (nI hh)), (0, .ref hc), (1, .ref hs), (2, .int x)]) hx hb dL_act_882 hl (k := 1) rfl rfl (by decide) rfl (fun ls hl => ?_)
                refine lv_goto (tgt := 866) hx hb dL_act_885 (by decide) ?_
                rw [nI_1] at hl
                exact W.widen (by omega) (by omega) (ih (i + 1) (by omega) (by omega) _ H locs hP hD hS (by show K + (o_gs on T i + o_pc on (T + i)) ≤ _; omega) ls hl)
          exact W.widen (by omega) (by omega) (key (hh + 1) 0 (by omega) (by omega) 0 H locs hP hD hS hM ls hl)
        refine lv_if_ne (tgt := 852) hx hb dL_act_843 (by decide) (fun c9 => ?_) (fun c9 => ?_)
        · have h9 : ¬ onb x 5 = 0 := fun h => c9 (by rw [h]; rfl)
          refine lv_bipush (v := nI (o_hn x)) hx hb dL_act_852 (by rw [o_hn, if_neg h9]; decide) ?_
          exact b854
        · have h9 : onb x 5 = 0 := (nI_eq (a := onb x 5) (b := 0) (by have := onb_lt (v := x) (n := 5) (by omega); omega) (by omega)).mp (Classical.byContradiction fun h => h c9)
          refine lv_sipush (v := nI (o_hn x)) hx hb dL_act_846 (by rw [o_hn, if_pos h9]; decide) ?_
          refine lv_goto (tgt := 854) hx hb dL_act_849 (by decide) ?_
          exact b854
      refine lv_iload_n hx hb dL_act_179 rfl (lv_at hl 3 rfl) ?_
      refine lv_bipush (v := nI 7) hx hb dL_act_180 (by decide) ?_
      refine lv_icmp_lt (tgt := 192) hx hb dL_act_182 (by decide) (fun c9 => b192 (Or.inl ((nI_ltI (by omega) (by omega)).mp c9))) (fun c9 => ?_)
      have h9 : ¬ o_sort x < 7 := fun h => c9 ((nI_ltI (by omega) (by omega)).mpr h)
      refine lv_aload_n hx hb dL_act_185 rfl (lv_at hl 5 rfl) ?_
      refine va_get (ci := 1) (v := .int (nI on)) (own := RL) (C := RX1) (T := TX1) (N := 9) hx hb hts wa_in hown hK hP 0 rfl rfl 4 (by decide) (hts _ wa_orders) (fun _ h9 => h9) rfl dL_act_186 ?_
      refine lv_if_ne (tgt := 294) hx hb dL_act_189 (by decide) (fun c8 => b294 (fun h => h.elim h9 (fun h => c8 (by rw [h]; rfl)))) (fun c8 => b192 (Or.inr ((nI_eq (a := on) (b := 0) (by omega) (by omega)).mp (Classical.byContradiction fun h => h c8))))
    refine lv_iload_n hx hb dL_act_73 rfl (lv_at hl 1 rfl) ?_
    refine lv_iconst (v := nI 4) hx hb dL_act_74 (by decide) ?_
    refine lv_icmp_lt (tgt := 85) hx hb dL_act_75 (by decide) (fun c9 => b85 (Or.inl ((nI_ltI (by omega) (by omega)).mp c9))) (fun c9 => ?_)
    have h9 : ¬ o_sort x < 4 := fun h => c9 ((nI_ltI (by omega) (by omega)).mpr h)
    refine lv_aload_n hx hb dL_act_78 rfl (lv_at hl 3 rfl) ?_
    refine va_get (ci := 1) (v := .int (nI pn)) (own := RL) (C := RX1) (T := TX1) (N := 9) hx hb hts wa_in hown hK hP 0 rfl rfl 5 (by decide) (hts _ wa_people) (fun _ h9 => h9) rfl dL_act_79 ?_
    refine lv_if_ne (tgt := 157) hx hb dL_act_82 (by decide) (fun c8 => b157 (fun h => h.elim h9 (fun h => c8 (by rw [h]; rfl)))) (fun c8 => b85 (Or.inr ((nI_eq (a := pn) (b := 0) (by omega) (by omega)).mp (Classical.byContradiction fun h => h c8))))
  refine lv_aload_n hx hb dL_act_10 rfl (lv_at hl 2 rfl) ?_
  refine va_get (ci := 1) (v := .int (nI qn)) (own := RL) (C := RX1) (T := TX1) (N := 9) hx hb hts wa_in hown hK hP 0 rfl rfl 3 (by decide) (hts _ wa_quarters) (fun _ h9 => h9) rfl dL_act_11 ?_
  refine lv_if_eq (tgt := 21) hx hb dL_act_14 (by decide) (fun c9 => b21 (Or.inl ((nI_eq (a := qn) (b := 0) (by omega) (by omega)).mp c9))) (fun c9 => ?_)
  refine lv_iload_n hx hb dL_act_17 rfl (lv_at hl 0 rfl) ?_
  refine lv_if_ne (tgt := 61) hx hb dL_act_18 (by decide) (fun c8 => b61 (fun h => h.elim (fun h => c9 (by rw [h]; rfl)) (fun h => c8 (by rw [h]; rfl)))) (fun c8 => b21 (Or.inr ((nI_eq (a := o_sort x) (b := 0) (by omega) (by omega)).mp (Classical.byContradiction fun h => h c8))))
end ACT
