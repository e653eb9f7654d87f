section SIM
/-! the law's own desk (Sim): its object, its two rows of rows; the rows themselves lie in a pool -/
def SM (hs ao ap au : Nat) (day half : Int32) (Q O P : Nat) : Nat × va_E := (hs, .inr (1, [.int day, .int half, .int 0, .int (nI Q), .int (nI O), .int (nI P), .ref ao, .ref ap, .ref au]))
def OA (cR : ClassId) (ao : Nat) (ro : Nat → Nat) : Nat × va_E := (ao, .inl (cR, 10, .inr (.inr (.inr (.inr (fun i => if i < 10 then some (ro i) else none))))))
def PA (cR : ClassId) (ap : Nat) (rp : Nat → Nat) : Nat × va_E := (ap, .inl (cR, 20, .inr (.inr (.inr (.inr (fun i => if i < 20 then some (rp i) else none))))))
abbrev ty3 (cI cZ cR : ClassId) : List (ClassId × FieldType) := [(cI, .int), (cZ, .boolean), (cR, .array .int)]
/-- an order's row: what lies ahead of dusk is 0 to 4; it is in force -/
def RO (cI : ClassId) (L : List Nat) (f : Nat → va_E) (r : Nat) : Prop := r ∈ L ∧ ∃ (g : Nat → Int32) (a1 : Nat), f r = .inl (cI, 13, .inl g) ∧ g 1 = nI a1 ∧ a1 ≤ 4 ∧ g 4 = 1
set_option maxHeartbeats 4000000 in
set_option maxRecDepth 100000 in
theorem c_X1_isAt (l : Launch) (G : va_G) (cI cZ cR : ClassId) (hs ao ap au : Nat) (day half : Int32) (Q O P : Nat) (ro : Nat → Nat) (L : List Nat) (f : Nat → va_E) (sz K o dd hh : Nat) (ho : o < 10) (hr0 : RO cI L f (ro o)) (hd : dd < 2 ^ 31) (hh48 : hh < 48) :
    Met l yX1_isAt wsX1_isAt ({ frames := 1, cells := 2, slots := 40, locals := 22 } : Room) (va_Pc [.ref hs, .int (nI o), .int (nI dd), .int (nI hh)] (oPre G (ty3 cI cZ cR) [] ([SM hs ao ap au day half Q O P, OA cR ao ro] ++ va_pl L f) sz K)) (va_Qi (fun (r : Int32) (_ : Unit) => r = 0 ∨ r = 1) (fun _ => oB G (ty3 cI cZ cR) [] (va_A [] sz) (K + o_dl hh)) (va_A [] sz)) 2 40 (va_A [] sz) := by
  refine o_met (cc := cX1_isAt) (maxL := 4) (ret := (some .boolean)) (by decide) rfl (Nat.le_of_ble_eq_true rfl) ?_
  intro pg e s m below meth cd hx hb hml hr hts hown hlocks hnm hK hM hP hro hsz _ hD hA hS ls hl
  have hown : s.vm.findClass RX1 = some m.cls := hown
  have hin : ∀ w ∈ wsX10, w ∈ wsX1_isAt := by decide +kernel
  have hl : lv_has ls 4 [(0, .ref hs), (1, .int (nI o)), (2, .int (nI dd)), (3, .int (nI hh))] := hl
  generalize hAe : va_A [] sz = A at hD hA hS ⊢
  obtain ⟨hmem, g, a1, hf, hg1, ha1, hg4⟩ := hr0
  obtain ⟨k9, hk9⟩ := va_pl_get (X := [SM hs ao ap au day half Q O P, OA cR ao ro]) (f := f) hmem
  rw [hf] at hk9
  refine lv_iload_n hx hb dX1_isAt_0 rfl (lv_at hl 3 rfl) ?_
  refine lv_aload_n hx hb dX1_isAt_1 rfl (lv_at hl 0 rfl) ?_
  refine va_get (ci := 1) (v := .ref ao) (C := RX1) (T := TX1) (N := 9) hx hb hts hin hown hK hP 0 rfl rfl 6 (by decide) (hts (.fieldLink RX1 9 "CurfewDeskLaw$Sim" "order" "[[I") (by decide +kernel)) (fun _ h9 => h9) rfl dX1_isAt_2 ?_
  refine lv_iload_n hx hb dX1_isAt_5 rfl (lv_at hl 1 rfl) ?_
  refine o_ald (q0 := 1) (t0 := 2) (r := ro o) hx hb hK hP rfl rfl ho (by decide) (if_pos ho) dX1_isAt_6 ?_
  refine lv_iconst (v := 1) hx hb dX1_isAt_7 (by decide) ?_
  refine w_iald (j := 1) hx hb hK hP k9 0 hk9 rfl (by omega) (by omega) dX1_isAt_8 ?_
  rw [hg1]
  refine lv_iadd hx hb dX1_isAt_9 ?_
  rw [nI_add]
  refine lv_bipush (v := 34) hx hb dX1_isAt_10 (by decide) ?_
  refine lv_iload_n hx hb dX1_isAt_12 rfl (lv_at hl 2 rfl) ?_
  refine o_in (va_runS (As := [.int (nI dd)]) (rest := [.int 34, .int (nI (hh + a1))]) ⟨hx, hb, hml, hown, hts⟩ (c_X1_tide l G cI s.heap.size K dd hd) (va_cwS 1 hts gX1_isAt_X1_tide rfl rfl rfl (by decide +kernel) ⟨(Nat.le_of_ble_eq_true rfl), (Nat.le_of_ble_eq_true rfl)⟩) ⟨oPre_blind, o_pre hM (hK.sub [0] rfl) w_P0 w_P0 (w_D0 (A := A)) o_x0⟩ rfl rfl hl.1 rfl (lv_room (Nat.le_of_ble_eq_true rfl)) dX1_isAt_13 ⟨(Nat.le_of_ble_eq_true rfl), (Nat.le_of_ble_eq_true rfl)⟩) hP hS hA (fun r13 u13 H locs hw13 hP hS hM => ?_)
  obtain ⟨t1, ht1, rfl⟩ := hw13
  refine lv_iadd hx hb dX1_isAt_16 ?_
  rw [show (34 : Int32) + nI t1 = nI (34 + t1) from nI_add 34 t1]
  refine lv_aload_n hx hb dX1_isAt_17 rfl (lv_at hl 0 rfl) ?_
  refine va_get (ci := 1) (v := .int 0) (C := RX1) (T := TX1) (N := 9) hx hb hts hin hown hK hP 0 rfl rfl 2 (by decide) (hts (.fieldLink RX1 25 "CurfewDeskLaw$Sim" "shift" "I") (by decide +kernel)) (fun _ h9 => h9) rfl dX1_isAt_18 ?_
  refine lv_iadd hx hb dX1_isAt_21 ?_
  rw [Int32.add_zero]
  refine lv_icmp_ge (tgt := 45) hx hb dX1_isAt_22 (by decide) (fun c22 => ?_) (fun c22 => ?_)
  · have h22 : 34 + t1 ≤ hh + a1 := (nI_leI (by omega) (by omega)).mp c22
    have hM : K + o_dl hh ≤ slotSum H := by
      have : o_dl hh = 20 := if_neg (by omega)
      omega
    refine lv_iconst (v := 1) hx hb dX1_isAt_45 (by decide) ?_
    refine lv_goto (tgt := 50) hx hb dX1_isAt_46 (by decide) ?_
    exact o_zret (w1 := fun _ => []) () hx hb hr hlocks hK hM w_P0 w_D0 hS (Nat.le_of_ble_eq_true rfl) (Nat.le_of_ble_eq_true rfl) dX1_isAt_50 rfl (Or.inr rfl)
  · refine lv_iload_n hx hb dX1_isAt_25 rfl (lv_at hl 3 rfl) ?_
    refine lv_aload_n hx hb dX1_isAt_26 rfl (lv_at hl 0 rfl) ?_
    refine va_get (ci := 1) (v := .ref ao) (C := RX1) (T := TX1) (N := 9) hx hb hts hin hown hK hP 0 rfl rfl 6 (by decide) (hts (.fieldLink RX1 9 "CurfewDeskLaw$Sim" "order" "[[I") (by decide +kernel)) (fun _ h9 => h9) rfl dX1_isAt_27 ?_
    refine lv_iload_n hx hb dX1_isAt_30 rfl (lv_at hl 1 rfl) ?_
    refine o_ald (q0 := 1) (t0 := 2) (r := ro o) hx hb hK hP rfl rfl ho (by decide) (if_pos ho) dX1_isAt_31 ?_
    refine lv_iconst (v := 2) hx hb dX1_isAt_32 (by decide) ?_
    refine w_iald (j := 2) hx hb hK hP k9 0 hk9 rfl (by omega) (by omega) dX1_isAt_33 ?_
    refine lv_isub hx hb dX1_isAt_34 ?_
    refine lv_bipush (v := 14) hx hb dX1_isAt_35 (by decide) ?_
    refine lv_iload_n hx hb dX1_isAt_37 rfl (lv_at hl 2 rfl) ?_
    refine o_in (va_runS (As := [.int (nI dd)]) (rest := [.int 14, .int (nI hh - g 2)]) ⟨hx, hb, hml, hown, hts⟩ (c_X1_tide l G cI H.size (K + 20) dd hd) (va_cwS 1 hts gX1_isAt_X1_tide rfl rfl rfl (by decide +kernel) ⟨(Nat.le_of_ble_eq_true rfl), (Nat.le_of_ble_eq_true rfl)⟩) ⟨oPre_blind, o_pre hM (hK.sub [0] rfl) w_P0 w_P0 (w_D0 (A := A)) o_x0⟩ rfl rfl hl.1 rfl (lv_room (Nat.le_of_ble_eq_true rfl)) dX1_isAt_38 ⟨(Nat.le_of_ble_eq_true rfl), (Nat.le_of_ble_eq_true rfl)⟩) hP hS hA (fun r38 u38 H locs hw38 hP hS hM => ?_)
    have hM : K + o_dl hh ≤ slotSum H := by
      have : o_dl hh ≤ 40 := by unfold o_dl; split <;> omega
      omega
    refine lv_isub hx hb dX1_isAt_41 ?_
    refine lv_icmp_ge (tgt := 49) hx hb dX1_isAt_42 (by decide) (fun c42 => ?_) (fun c42 => ?_)
    · refine lv_iconst (v := 0) hx hb dX1_isAt_49 (by decide) ?_
      exact o_zret (w1 := fun _ => []) () hx hb hr hlocks hK hM w_P0 w_D0 hS (Nat.le_of_ble_eq_true rfl) (Nat.le_of_ble_eq_true rfl) dX1_isAt_50 rfl (Or.inl rfl)
    · refine lv_iconst (v := 1) hx hb dX1_isAt_45 (by decide) ?_
      refine lv_goto (tgt := 50) hx hb dX1_isAt_46 (by decide) ?_
      exact o_zret (w1 := fun _ => []) () hx hb hr hlocks hK hM w_P0 w_D0 hS (Nat.le_of_ble_eq_true rfl) (Nat.le_of_ble_eq_true rfl) dX1_isAt_50 rfl (Or.inr rfl)
set_option maxHeartbeats 4000000 in
set_option maxRecDepth 100000 in
theorem c_X1_isOn (l : Launch) (G : va_G) (cI cZ cR : ClassId) (hs ao ap au T Q O P : Nat) (ro : Nat → Nat) (L : List Nat) (f : Nat → va_E) (sz K o : Nat) (ho : o < 10) (hr0 : RO cI L f (ro o)) (hT : T < 2 ^ 31) :
    Met l yX1_isOn wsX1_isOn ({ frames := 2, cells := 2, slots := 40, locals := 45 } : Room) (va_Pc [.ref hs, .int (nI o)] (oPre G (ty3 cI cZ cR) [] ([SM hs ao ap au (nI (T / 48)) (nI (T % 48)) Q O P, OA cR ao ro] ++ va_pl L f) sz K)) (va_Qi (fun (r : Int32) (_ : Unit) => r = 0 ∨ r = 1) (fun _ => oB G (ty3 cI cZ cR) [] (va_A [] sz) (K + o_dl (T % 48))) (va_A [] sz)) 2 40 (va_A [] sz) := by
  refine o_met (cc := cX1_isOn) (maxL := 2) (ret := (some .boolean)) (by decide) rfl (Nat.le_of_ble_eq_true rfl) ?_
  intro pg e s m below meth cd hx hb hml hr hts hown hlocks hnm hK hM hP hro hsz _ hD hA hS ls hl
  have hown : s.vm.findClass RX1 = some m.cls := hown
  have hin : ∀ w ∈ wsX10, w ∈ wsX1_isOn := by decide +kernel
  have hl : lv_has ls 2 [(0, .ref hs), (1, .int (nI o))] := hl
  generalize hAe : va_A [] sz = A at hD hA hS ⊢
  have hr1 := hr0
  obtain ⟨hmem, g, a1, hf, hg1, ha1, hg4⟩ := hr0
  obtain ⟨k9, hk9⟩ := va_pl_get (X := [SM hs ao ap au (nI (T / 48)) (nI (T % 48)) Q O P, OA cR ao ro]) (f := f) hmem
  rw [hf] at hk9
  have hdd : T / 48 < 2 ^ 31 := Nat.lt_of_le_of_lt (Nat.div_le_self _ _) hT
  have hhh : T % 48 < 48 := Nat.mod_lt _ (by decide)
  refine lv_aload_n hx hb dX1_isOn_0 rfl (lv_at hl 0 rfl) ?_
  refine va_get (ci := 1) (v := .ref ao) (C := RX1) (T := TX1) (N := 9) hx hb hts hin hown hK hP 0 rfl rfl 6 (by decide) (hts (.fieldLink RX1 9 "CurfewDeskLaw$Sim" "order" "[[I") (by decide +kernel)) (fun _ h9 => h9) rfl dX1_isOn_1 ?_
  refine lv_iload_n hx hb dX1_isOn_4 rfl (lv_at hl 1 rfl) ?_
  refine o_ald (q0 := 1) (t0 := 2) (r := ro o) hx hb hK hP rfl rfl ho (by decide) (if_pos ho) dX1_isOn_5 ?_
  refine lv_iconst (v := 4) hx hb dX1_isOn_6 (by decide) ?_
  refine w_iald (j := 4) hx hb hK hP k9 0 hk9 rfl (by omega) (by omega) dX1_isOn_7 ?_
  rw [hg4]
  refine lv_iconst (v := 1) hx hb dX1_isOn_8 (by decide) ?_
  refine lv_icmp_ne (tgt := 32) hx hb dX1_isOn_9 (by decide) (fun c9 => absurd rfl c9) (fun c9 => ?_)
  refine lv_aload_n hx hb dX1_isOn_12 rfl (lv_at hl 0 rfl) ?_
  refine lv_iload_n hx hb dX1_isOn_13 rfl (lv_at hl 1 rfl) ?_
  refine lv_aload_n hx hb dX1_isOn_14 rfl (lv_at hl 0 rfl) ?_
  refine va_get (ci := 1) (v := .int (nI (T / 48))) (C := RX1) (T := TX1) (N := 9) hx hb hts hin hown hK hP 0 rfl rfl 0 (by decide) (hts (.fieldLink RX1 29 "CurfewDeskLaw$Sim" "day" "I") (by decide +kernel)) (fun _ h9 => h9) rfl dX1_isOn_15 ?_
  refine lv_aload_n hx hb dX1_isOn_18 rfl (lv_at hl 0 rfl) ?_
  refine va_get (ci := 1) (v := .int (nI (T % 48))) (C := RX1) (T := TX1) (N := 9) hx hb hts hin hown hK hP 0 rfl rfl 1 (by decide) (hts (.fieldLink RX1 32 "CurfewDeskLaw$Sim" "half" "I") (by decide +kernel)) (fun _ h9 => h9) rfl dX1_isOn_19 ?_
  refine o_in (va_runV (As := [.int (nI o), .int (nI (T / 48)), .int (nI (T % 48))]) (rest := []) ⟨hx, hb, hml, hown, hts⟩ (c_X1_isAt l G cI cZ cR hs ao ap au (nI (T / 48)) (nI (T % 48)) Q O P ro L f s.heap.size K o (T / 48) (T % 48) ho hr1 hdd hhh) (cwV 3 hts gX1_isOn_X1_isAt rfl rfl rfl (by decide +kernel) ⟨(Nat.le_of_ble_eq_true rfl), (Nat.le_of_ble_eq_true rfl)⟩) ⟨oPre_blind, va_recv hK hP (ci := 1) (q0 := 0) rfl rfl, o_pre hM hK w_P0 hP (w_D0 (A := A)) o_x0⟩ rfl rfl hl.1 rfl (lv_room (Nat.le_of_ble_eq_true rfl)) dX1_isOn_22 ⟨(Nat.le_of_ble_eq_true rfl), (Nat.le_of_ble_eq_true rfl)⟩) hP hS hA (fun r22 u22 H locs hw22 hP hS hM => ?_)
  refine lv_if_eq (tgt := 32) hx hb dX1_isOn_25 (by decide) (fun c25 => ?_) (fun c25 => ?_)
  · refine lv_iconst (v := 0) hx hb dX1_isOn_32 (by decide) ?_
    exact o_zret (w1 := fun _ => []) () hx hb hr hlocks hK hM w_P0 w_D0 hS (Nat.le_of_ble_eq_true rfl) (Nat.le_of_ble_eq_true rfl) dX1_isOn_33 rfl (Or.inl rfl)
  · refine lv_iconst (v := 1) hx hb dX1_isOn_28 (by decide) ?_
    refine lv_goto (tgt := 33) hx hb dX1_isOn_29 (by decide) ?_
    exact o_zret (w1 := fun _ => []) () hx hb hr hlocks hK hM w_P0 w_D0 hS (Nat.le_of_ble_eq_true rfl) (Nat.le_of_ble_eq_true rfl) dX1_isOn_33 rfl (Or.inr rfl)
end SIM
