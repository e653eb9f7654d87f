section PAS
/-- what a half hour of the sim weighs at least, with O orders in force -/
def o_pc (O T : Nat) : Nat := O + O * o_dl (T % 48) + O * o_dl ((T + 1) % 48)
theorem o_dl40 (hh : Nat) : o_dl hh ≤ 40 := by unfold o_dl; split <;> omega
set_option maxHeartbeats 4000000 in
set_option maxRecDepth 100000 in
theorem c_X1_pass (l : Launch) (G : va_G) (cI cZ cR : ClassId) (hs ao ap au T Q O P : Nat) (ro : Nat → Nat) (L : List Nat) (f : Nat → va_E) (sz K : Nat) (hO : O ≤ 10) (hro2 : ∀ i, i < O → RO cI L f (ro i)) (hT : T + 1 < 2 ^ 31) :
    Met l yX1_pass wsX1_pass ({ frames := 3, cells := 41, slots := 810, locals := 66 } : Room) (va_Pc [.ref hs] (oPre G (ty3 cI cZ cR) [SM hs ao ap au (nI (T / 48)) (nI (T % 48)) Q O P] ([OA cR ao ro] ++ va_pl L f) sz K)) (va_Qi (fun (r : Int32) (_ : Unit) => True) (fun _ => oB G (ty3 cI cZ cR) [SM hs ao ap au (nI ((T + 1) / 48)) (nI ((T + 1) % 48)) Q O P] (va_A [SM hs ao ap au (nI (T / 48)) (nI (T % 48)) Q O P] sz) (K + o_pc O T)) (va_A [SM hs ao ap au (nI (T / 48)) (nI (T % 48)) Q O P] sz)) 41 810 (va_A [SM hs ao ap au (nI (T / 48)) (nI (T % 48)) Q O P] sz) := by
  refine o_met (cc := cX1_pass) (maxL := 4) (ret := (some .int)) (by decide) rfl (Nat.le_of_ble_eq_true rfl) ?_
  intro pg e s m below meth cd hx hb hml hr hts hown hlocks hnm hK hM hR hro hsz hP hD hA hS ls hl
  have hown : s.vm.findClass RX1 = some m.cls := hown
  have hin : ∀ w ∈ wsX10, w ∈ wsX1_pass := by decide +kernel
  have hl : lv_has ls 4 [(0, .ref hs)] := hl
  generalize hAe : va_A [SM hs ao ap au (nI (T / 48)) (nI (T % 48)) Q O P] sz = A at hD hA hS hro ⊢
  refine lv_aload_n hx hb dX1_pass_0 rfl (lv_at hl 0 rfl) ?_
  refine va_get (ci := 1) (v := .int (nI O)) (C := RX1) (T := TX1) (N := 9) hx hb hts hin hown hK hP 0 rfl rfl 4 (by decide) (hts (.fieldLink RX1 43 "CurfewDeskLaw$Sim" "orders" "I") (by decide +kernel)) (fun _ h9 => h9) rfl dX1_pass_1 ?_
  refine o_newa (N := O) (a0 := (O, .inl (fun _ => 0))) (ty := .boolean) (atype := .boolean) hx hb (hts (.arrayClass .boolean) (by decide +kernel)) rfl (hK.2 1 (cZ, .boolean) rfl).2 hP hD hS hA hM rfl (nI_pos (by omega)) (nI_clamp (by omega)) (by show O * 1 ≤ _; omega) (Nat.le_of_ble_eq_true rfl) (by dsimp only; omega) dX1_pass_4 (fun q H hAr _ hP hD hS hM => ?_)
  refine lv_astore_n (lv' := [(1, .ref q), (0, .ref hs)]) hx hb dX1_pass_6 rfl hl (by decide) rfl (fun ls hl => ?_)
  have tail : ∀ (w : Nat → Int32) (H : Heap) (locs : List Loc) (cells slots : Nat), cells ≤ 1 + 2 * O → slots ≤ O + 40 * O → va_P G vwCl [SM hs ao ap au (nI ((T + 1) / 48)) (nI ((T + 1) % 48)) Q O P, (q, .inl (cZ, O, .inl w))] H → va_D A [SM hs ao ap au (nI ((T + 1) / 48)) (nI ((T + 1) % 48)) Q O P, (q, .inl (cZ, O, .inl w))] → va_S A s.heap H locs → K + O + O * o_dl (T % 48) ≤ slotSum H → ∀ ls : Array Slot, lv_has ls 4 [(1, .ref q), (0, .ref hs)] → W pg l e ({ frames := 3, cells := 41, slots := 810, locals := 66 } : Room) s m ([.ref hs] : List Value).toArray below meth cd H locs (cells) (slots) (MQ below (va_Qi (fun (r : Int32) (_ : Unit) => True) (fun _ => oB G (ty3 cI cZ cR) [SM hs ao ap au (nI ((T + 1) / 48)) (nI ((T + 1) % 48)) Q O P] A (K + o_pc O T)) A) ([.ref hs] : List Value).toArray s 41 810 A) (F0 m 65 ls []) := by
    intro w H locs cells slots hc9 hs9 hP hD hS hM ls hl
    have key : ∀ (n i : Nat), i ≤ O → O < i + n → ∀ (x : Int32) (H : Heap) (locs : List Loc), va_P G vwCl [SM hs ao ap au (nI ((T + 1) / 48)) (nI ((T + 1) % 48)) Q O P, (q, .inl (cZ, O, .inl w))] H → va_D A [SM hs ao ap au (nI ((T + 1) / 48)) (nI ((T + 1) % 48)) Q O P, (q, .inl (cZ, O, .inl w))] → va_S A s.heap H locs → K + O + O * o_dl (T % 48) + i * o_dl ((T + 1) % 48) ≤ slotSum H → ∀ ls : Array Slot, lv_has ls 4 [(3, .int (nI i)), (2, .int x), (1, .ref q), (0, .ref hs)] → W pg l e ({ frames := 3, cells := 41, slots := 810, locals := 66 } : Room) s m ([.ref hs] : List Value).toArray below meth cd H locs (cells + 2 * i) (slots + 40 * i) (MQ below (va_Qi (fun (r : Int32) (_ : Unit) => True) (fun _ => oB G (ty3 cI cZ cR) [SM hs ao ap au (nI ((T + 1) / 48)) (nI ((T + 1) % 48)) Q O P] A (K + o_pc O T)) A) ([.ref hs] : List Value).toArray s 41 810 A) (F0 m 69 ls []) := by
      intro n
      induction n with
      | zero => intro i h1 h2; exact absurd h2 (by omega)
      | succ n ih =>
        intro i hi hn x H locs hP hD hS hM ls hl
        refine lv_iload_n hx hb dX1_pass_69 rfl (lv_at hl 0 rfl) ?_
        refine lv_aload_n hx hb dX1_pass_70 rfl (lv_at hl 3 rfl) ?_
        refine va_get (ci := 1) (v := .int (nI O)) (C := RX1) (T := TX1) (N := 9) hx hb hts hin hown hK hP 0 rfl rfl 4 (by decide) (hts (.fieldLink RX1 43 "CurfewDeskLaw$Sim" "orders" "I") (by decide +kernel)) (fun _ h9 => h9) rfl dX1_pass_71 ?_
        refine lv_icmp_ge (tgt := 105) hx hb dX1_pass_74 (by decide) (fun c74 => ?_) (fun c74 => ?_)
        · have h9 : O ≤ i := (nI_leI (by omega) (by omega)).mp c74
          have ei : O = i := by omega
          subst ei
          refine lv_iload_n hx hb dX1_pass_105 rfl (lv_at hl 1 rfl) ?_
          exact o_iret (w1 := fun _ => [SM hs ao ap au (nI ((T + 1) / 48)) (nI ((T + 1) % 48)) Q O P]) () hx hb hr hlocks hK (by unfold o_pc; omega) (hP.sub [0] rfl) (hD.sub [0] (by decide) rfl) hS (by omega) (by omega) dX1_pass_106 trivial
        · have h9 : i < O := o_ge c74 (by omega) (by omega)
          refine lv_iload_n hx hb dX1_pass_77 rfl (lv_at hl 1 rfl) ?_
          refine lv_aload_n hx hb dX1_pass_78 rfl (lv_at hl 3 rfl) ?_
          refine lv_iload_n hx hb dX1_pass_79 rfl (lv_at hl 0 rfl) ?_
          have hW : va_P G vwCl ([SM hs ao ap au (nI ((T + 1) / 48)) (nI ((T + 1) % 48)) Q O P, OA cR ao ro] ++ va_pl L f) H := (hP.sub [0] rfl).app (o_keep hR hro hS)
          refine o_in (va_runV (As := [.int (nI i)]) (rest := [.int x]) ⟨hx, hb, hml, hown, hts⟩ (c_X1_isOn l G cI cZ cR hs ao ap au ((T + 1)) Q O P ro L f H.size (K + O + O * o_dl (T % 48) + i * o_dl ((T + 1) % 48)) i (by omega) (hro2 i (by omega)) (by omega)) (cwV 1 hts gX1_pass_X1_isOn rfl rfl rfl (by decide +kernel) ⟨(Nat.le_of_ble_eq_true rfl), (Nat.le_of_ble_eq_true rfl)⟩) ⟨oPre_blind, va_recv hK hW (ci := 1) (q0 := 0) rfl rfl, o_pre hM hK w_P0 hW (w_D0 (A := A)) o_x0⟩ rfl rfl hl.1 rfl (lv_room (Nat.le_of_ble_eq_true rfl)) dX1_pass_80 ⟨by dsimp only; omega, by dsimp only; omega⟩) hP hS hA (fun r80 u80 H locs hw80 hP hS hM => ?_)
          have j97 : ∀ v : Int32, W pg l e ({ frames := 3, cells := 41, slots := 810, locals := 66 } : Room) s m ([.ref hs] : List Value).toArray below meth cd H locs (cells + 2 * i + 2) (slots + 40 * i + 40) (MQ below (va_Qi (fun (r : Int32) (_ : Unit) => True) (fun _ => oB G (ty3 cI cZ cR) [SM hs ao ap au (nI ((T + 1) / 48)) (nI ((T + 1) % 48)) Q O P] A (K + o_pc O T)) A) ([.ref hs] : List Value).toArray s 41 810 A) (F0 m 97 ls [.int v, .int x]) := by
            intro v
            refine lv_iadd hx hb dX1_pass_97 ?_
            refine lv_istore_n (lv' := [(2, .int (x + v)), (3, .int (nI i)), (1, .ref q), (0, .ref hs)]) hx hb dX1_pass_98 rfl hl (by decide) rfl (fun ls hl => ?_)
            refine lv_iinc (v := nI i + 1) (lv' := [(3, .int (nI i + 1)), (2, .int (x + v)), (1, .ref q), (0, .ref hs)]) hx hb dX1_pass_99 hl (k := 1) rfl rfl (by decide) rfl (fun ls hl => ?_)
            refine lv_goto (tgt := 69) hx hb dX1_pass_102 (by decide) ?_
            rw [nI_1] at hl
            exact W.widen (by omega) (by omega) (ih (i + 1) (by omega) (by omega) (x + v) H locs hP hD hS (by rw [Nat.succ_mul]; omega) ls hl)
          refine lv_if_eq (tgt := 96) hx hb dX1_pass_83 (by decide) (fun c83 => ?_) (fun c83 => ?_)
          · refine lv_iconst (v := 0) hx hb dX1_pass_96 (by decide) ?_
            exact j97 0
          · refine lv_aload_n hx hb dX1_pass_86 rfl (lv_at hl 2 rfl) ?_
            refine lv_iload_n hx hb dX1_pass_87 rfl (lv_at hl 0 rfl) ?_
            refine w_zald (f := w) (j := i) hx hb hK hP 1 1 rfl rfl h9 (by omega) dX1_pass_88 ?_
            refine lv_if_ne (tgt := 96) hx hb dX1_pass_89 (by decide) (fun c89 => ?_) (fun c89 => ?_)
            · refine lv_iconst (v := 0) hx hb dX1_pass_96 (by decide) ?_
              exact j97 0
            · refine lv_iconst (v := 1) hx hb dX1_pass_92 (by decide) ?_
              refine lv_goto (tgt := 97) hx hb dX1_pass_93 (by decide) ?_
              exact j97 1
    refine lv_iconst (v := 0) hx hb dX1_pass_65 (by decide) ?_
    refine lv_istore_n (lv' := [(2, .int 0), (1, .ref q), (0, .ref hs)]) hx hb dX1_pass_66 rfl hl (by decide) rfl (fun ls hl => ?_)
    refine lv_iconst (v := 0) hx hb dX1_pass_67 (by decide) ?_
    refine lv_istore_n (lv' := [(3, .int 0), (2, .int 0), (1, .ref q), (0, .ref hs)]) hx hb dX1_pass_68 rfl hl (by decide) rfl (fun ls hl => ?_)
    exact W.widen (by omega) (by omega) (key (O + 1) 0 (by omega) (by omega) 0 H locs hP hD hS (by omega) ls hl)
  have key : ∀ (n i : Nat), i ≤ O → O < i + n → ∀ (w : Nat → Int32) (H : Heap) (locs : List Loc), va_P G vwCl [SM hs ao ap au (nI (T / 48)) (nI (T % 48)) Q O P, (q, .inl (cZ, O, .inl w))] H → va_D A [SM hs ao ap au (nI (T / 48)) (nI (T % 48)) Q O P, (q, .inl (cZ, O, .inl w))] → va_S A s.heap H locs → K + O + i * o_dl (T % 48) ≤ slotSum H → ∀ ls : Array Slot, lv_has ls 4 [(2, .int (nI i)), (1, .ref q), (0, .ref hs)] → W pg l e ({ frames := 3, cells := 41, slots := 810, locals := 66 } : Room) s m ([.ref hs] : List Value).toArray below meth cd H locs (1 + 2 * i) (O + 40 * i) (MQ below (va_Qi (fun (r : Int32) (_ : Unit) => True) (fun _ => oB G (ty3 cI cZ cR) [SM hs ao ap au (nI ((T + 1) / 48)) (nI ((T + 1) % 48)) Q O P] A (K + o_pc O T)) A) ([.ref hs] : List Value).toArray s 41 810 A) (F0 m 9 ls []) := by
    intro n
    induction n with
    | zero => intro i h1 h2; exact absurd h2 (by omega)
    | succ n ih =>
      intro i hi hn w H locs hP hD hS hM ls hl
      refine lv_iload_n hx hb dX1_pass_9 rfl (lv_at hl 0 rfl) ?_
      refine lv_aload_n hx hb dX1_pass_10 rfl (lv_at hl 2 rfl) ?_
      refine va_get (ci := 1) (v := .int (nI O)) (C := RX1) (T := TX1) (N := 9) hx hb hts hin hown hK hP 0 rfl rfl 4 (by decide) (hts (.fieldLink RX1 43 "CurfewDeskLaw$Sim" "orders" "I") (by decide +kernel)) (fun _ h9 => h9) rfl dX1_pass_11 ?_
      refine lv_icmp_ge (tgt := 31) hx hb dX1_pass_14 (by decide) (fun c14 => ?_) (fun c14 => ?_)
      · have h9 : O ≤ i := (nI_leI (by omega) (by omega)).mp c14
        have ei : i = O := by omega
        rw [ei] at hM
        have hl := lv_sub hl (l' := [(1, .ref q), (0, .ref hs)]) [1, 2] rfl
        refine lv_aload_n hx hb dX1_pass_31 rfl (lv_at hl 1 rfl) ?_
        refine lv_dup hx hb dX1_pass_32 rfl ?_
        refine va_get (ci := 1) (v := .int (nI (T % 48))) (C := RX1) (T := TX1) (N := 9) hx hb hts hin hown hK hP 0 rfl rfl 1 (by decide) (hts (.fieldLink RX1 32 "CurfewDeskLaw$Sim" "half" "I") (by decide +kernel)) (fun _ h9 => h9) rfl dX1_pass_33 ?_
        refine lv_iconst (v := 1) hx hb dX1_pass_36 (by decide) ?_
        refine lv_iadd hx hb dX1_pass_37 ?_
        rw [nI_1]
        refine W_up hM (va_put (ci := 1) (v := .int (nI (T % 48 + 1))) (ty := .int) (C := RX1) (T := TX1) (N := 9) hx hb hts hin tyX1 tyX1_ok nmX1 hown hK hP hD hS 0 rfl rfl 1 (by decide) (hts (.fieldLink RX1 32 "CurfewDeskLaw$Sim" "half" "I") (by decide +kernel)) (fun _ h9 => h9) rfl (by decide +kernel) rfl rfl (Nat.le_of_ble_eq_true rfl) dX1_pass_38 (fun H locs hP hD hS => W_dn (fun hM => ?_)))
        have hP : va_P G vwCl [SM hs ao ap au (nI (T / 48)) (nI (T % 48 + 1)) Q O P, (q, .inl (cZ, O, .inl w))] H := hP
        have hD : va_D A [SM hs ao ap au (nI (T / 48)) (nI (T % 48 + 1)) Q O P, (q, .inl (cZ, O, .inl w))] := hD
        refine lv_aload_n hx hb dX1_pass_41 rfl (lv_at hl 1 rfl) ?_
        refine va_get (ci := 1) (v := .int (nI (T % 48 + 1))) (C := RX1) (T := TX1) (N := 9) hx hb hts hin hown hK hP 0 rfl rfl 1 (by decide) (hts (.fieldLink RX1 32 "CurfewDeskLaw$Sim" "half" "I") (by decide +kernel)) (fun _ h9 => h9) rfl dX1_pass_42 ?_
        refine lv_bipush (v := 48) hx hb dX1_pass_45 (by decide) ?_
        have hm48 : T % 48 < 48 := Nat.mod_lt _ (by decide)
        refine lv_icmp_ne (tgt := 65) hx hb dX1_pass_47 (by decide) (fun c47 => ?_) (fun c47 => ?_)
        · have h48 : T % 48 + 1 ≠ 48 := fun h => c47 (by rw [h]; rfl)
          have e1 : (T + 1) % 48 = T % 48 + 1 := by omega
          have e2 : (T + 1) / 48 = T / 48 := by omega
          refine tail w H locs _ _ (by omega) (by omega) (by rw [e1, e2]; exact hP) (by rw [e1, e2]; exact hD) hS hM ls hl
        · have h48 : T % 48 + 1 = 48 := (nI_eq (a := T % 48 + 1) (b := 48) (by omega) (by omega)).mp (Classical.byContradiction fun h => h c47)
          have e1 : (T + 1) % 48 = 0 := by omega
          have e2 : (T + 1) / 48 = T / 48 + 1 := by omega
          refine lv_aload_n hx hb dX1_pass_50 rfl (lv_at hl 1 rfl) ?_
          refine lv_iconst (v := 0) hx hb dX1_pass_51 (by decide) ?_
          refine W_up hM (va_put (ci := 1) (v := .int 0) (ty := .int) (C := RX1) (T := TX1) (N := 9) hx hb hts hin tyX1 tyX1_ok nmX1 hown hK hP hD hS 0 rfl rfl 1 (by decide) (hts (.fieldLink RX1 32 "CurfewDeskLaw$Sim" "half" "I") (by decide +kernel)) (fun _ h9 => h9) rfl (by decide +kernel) rfl rfl (Nat.le_of_ble_eq_true rfl) dX1_pass_52 (fun H locs hP hD hS => W_dn (fun hM => ?_)))
          have hP : va_P G vwCl [SM hs ao ap au (nI (T / 48)) (0) Q O P, (q, .inl (cZ, O, .inl w))] H := hP
          have hD : va_D A [SM hs ao ap au (nI (T / 48)) (0) Q O P, (q, .inl (cZ, O, .inl w))] := hD
          refine lv_aload_n hx hb dX1_pass_55 rfl (lv_at hl 1 rfl) ?_
          refine lv_dup hx hb dX1_pass_56 rfl ?_
          refine va_get (ci := 1) (v := .int (nI (T / 48))) (C := RX1) (T := TX1) (N := 9) hx hb hts hin hown hK hP 0 rfl rfl 0 (by decide) (hts (.fieldLink RX1 29 "CurfewDeskLaw$Sim" "day" "I") (by decide +kernel)) (fun _ h9 => h9) rfl dX1_pass_57 ?_
          refine lv_iconst (v := 1) hx hb dX1_pass_60 (by decide) ?_
          refine lv_iadd hx hb dX1_pass_61 ?_
          rw [nI_1]
          refine W_up hM (va_put (ci := 1) (v := .int (nI (T / 48 + 1))) (ty := .int) (C := RX1) (T := TX1) (N := 9) hx hb hts hin tyX1 tyX1_ok nmX1 hown hK hP hD hS 0 rfl rfl 0 (by decide) (hts (.fieldLink RX1 29 "CurfewDeskLaw$Sim" "day" "I") (by decide +kernel)) (fun _ h9 => h9) rfl (by decide +kernel) rfl rfl (Nat.le_of_ble_eq_true rfl) dX1_pass_62 (fun H locs hP hD hS => W_dn (fun hM => ?_)))
          have hP : va_P G vwCl [SM hs ao ap au (nI (T / 48 + 1)) (0) Q O P, (q, .inl (cZ, O, .inl w))] H := hP
          have hD : va_D A [SM hs ao ap au (nI (T / 48 + 1)) (0) Q O P, (q, .inl (cZ, O, .inl w))] := hD
          refine tail w H locs _ _ (by omega) (by omega) (by rw [e1, e2]; exact hP) (by rw [e1, e2]; exact hD) hS hM ls hl
      · have h9 : i < O := o_ge c14 (by omega) (by omega)
        refine lv_aload_n hx hb dX1_pass_17 rfl (lv_at hl 1 rfl) ?_
        refine lv_iload_n hx hb dX1_pass_18 rfl (lv_at hl 0 rfl) ?_
        refine lv_aload_n hx hb dX1_pass_19 rfl (lv_at hl 2 rfl) ?_
        refine lv_iload_n hx hb dX1_pass_20 rfl (lv_at hl 0 rfl) ?_
        have hW : va_P G vwCl ([SM hs ao ap au (nI (T / 48)) (nI (T % 48)) Q O P, OA cR ao ro] ++ va_pl L f) H := (hP.sub [0] rfl).app (o_keep hR hro hS)
        refine o_in (va_runV (As := [.int (nI i)]) (rest := [.int (nI i), .ref q]) ⟨hx, hb, hml, hown, hts⟩ (c_X1_isOn l G cI cZ cR hs ao ap au T Q O P ro L f H.size (K + O + i * o_dl (T % 48)) i (by omega) (hro2 i (by omega)) (by omega)) (cwV 1 hts gX1_pass_X1_isOn rfl rfl rfl (by decide +kernel) ⟨(Nat.le_of_ble_eq_true rfl), (Nat.le_of_ble_eq_true rfl)⟩) ⟨oPre_blind, va_recv hK hW (ci := 1) (q0 := 0) rfl rfl, o_pre hM hK w_P0 hW (w_D0 (A := A)) o_x0⟩ rfl rfl hl.1 rfl (lv_room (Nat.le_of_ble_eq_true rfl)) dX1_pass_21 ⟨by dsimp only; omega, by dsimp only; omega⟩) hP hS hA (fun r21 u21 H locs hw21 hP hS hM => ?_)
        refine W_up hM (va_zast hx hb hK hP hD hS 1 1 rfl rfl (vp_in_nI h9 (by omega)) dX1_pass_24 (fun H locs hP hD hS => W_dn (fun hM => ?_)))
        refine lv_iinc (v := nI i + 1) (lv' := [(2, .int (nI i + 1)), (1, .ref q), (0, .ref hs)]) hx hb dX1_pass_25 hl (k := 0) rfl rfl (by decide) rfl (fun ls hl => ?_)
        refine lv_goto (tgt := 9) hx hb dX1_pass_28 (by decide) ?_
        rw [nI_1] at hl
        exact W.widen (by omega) (by omega) (ih (i + 1) (by omega) (by omega) _ H locs hP hD hS (by rw [Nat.succ_mul]; omega) ls hl)
  refine lv_iconst (v := 0) hx hb dX1_pass_7 (by decide) ?_
  refine lv_istore_n (lv' := [(2, .int 0), (1, .ref q), (0, .ref hs)]) hx hb dX1_pass_8 rfl hl (by decide) rfl (fun ls hl => ?_)
  exact W.widen (by omega) (by omega) (key (O + 1) 0 (by omega) (by omega) (fun _ => 0) H [] hP hD hS (by omega) ls hl)
end PAS
