set_option maxHeartbeats 4000000 in
set_option maxRecDepth 100000 in
theorem c_X0_day (l : Launch) (G : va_G) (cI cZ : ClassId) (h : Nat) (a : Nat → Nat) (F : Nat → Nat → Int32) (nq no np : Nat) (sh nw : Int32) (sz : Nat) : Met l yX0_day wsX0_day ({ frames := 0, cells := 0, slots := 0, locals := 0 } : Room) (va_Pc [.ref h] (wPre G (ty2 cI cZ) (Dk cI cZ h a F nq no np sh nw) sz)) (va_Qi (fun (r : Int32) (_ : Unit) => r = nw / 48) (fun _ => wP G (ty2 cI cZ) (Dk cI cZ h a F nq no np sh nw) (va_A (Dk cI cZ h a F nq no np sh nw) sz)) (va_A (Dk cI cZ h a F nq no np sh nw) sz)) 0 0 (va_A (Dk cI cZ h a F nq no np sh nw) sz) := by
  refine w_met (cc := cX0_day) (maxL := 1) (ret := (some .int)) (by decide) rfl (Nat.le_of_ble_eq_true rfl) ?_
  intro pg e s m below meth cd hx hb hml hr hts hown hlocks hnm hK hsz hP hD hA hS ls hl
  have hown : s.vm.findClass RX0 = some m.cls := hown
  have hin : ∀ w ∈ wsX00, w ∈ wsX0_day := by decide +kernel
  have hl : lv_has ls 1 [(0, .ref h)] := hl
  generalize hAe : va_A (Dk cI cZ h a F nq no np sh nw) sz = A at hD hA hS ⊢
  refine lv_aload_n hx hb dX0_day_0 rfl (lv_at hl 0 rfl) ?_
  refine va_get (ci := 0) (v := .int nw) (C := RX0) (T := TX0) (N := 16) hx hb hts hin hown hK hP 0 rfl rfl 15 (by decide) (hts (.fieldLink RX0 101 "CurfewDesk" "now" "I") (by decide +kernel)) (fun _ h9 => h9) rfl dX0_day_1 ?_
  refine lv_bipush (v := 48) hx hb dX0_day_4 (by decide) ?_
  refine lv_idiv hx hb dX0_day_6 (by decide) ?_
  exact w_iret () hx hb hr hlocks hK hP hD hS (Nat.le_of_ble_eq_true rfl) (Nat.le_of_ble_eq_true rfl) dX0_day_7 (show (nw / 48) = nw / 48 from by rfl)
set_option maxHeartbeats 4000000 in
set_option maxRecDepth 100000 in
theorem c_X0_halfHour (l : Launch) (G : va_G) (cI cZ : ClassId) (h : Nat) (a : Nat → Nat) (F : Nat → Nat → Int32) (nq no np : Nat) (sh nw : Int32) (sz : Nat) : Met l yX0_halfHour wsX0_halfHour ({ frames := 0, cells := 0, slots := 0, locals := 0 } : Room) (va_Pc [.ref h] (wPre G (ty2 cI cZ) (Dk cI cZ h a F nq no np sh nw) sz)) (va_Qi (fun (r : Int32) (_ : Unit) => r = nw - nw / 48 * 48) (fun _ => wP G (ty2 cI cZ) (Dk cI cZ h a F nq no np sh nw) (va_A (Dk cI cZ h a F nq no np sh nw) sz)) (va_A (Dk cI cZ h a F nq no np sh nw) sz)) 0 0 (va_A (Dk cI cZ h a F nq no np sh nw) sz) := by
  refine w_met (cc := cX0_halfHour) (maxL := 1) (ret := (some .int)) (by decide) rfl (Nat.le_of_ble_eq_true rfl) ?_
  intro pg e s m below meth cd hx hb hml hr hts hown hlocks hnm hK hsz hP hD hA hS ls hl
  have hown : s.vm.findClass RX0 = some m.cls := hown
  have hin : ∀ w ∈ wsX00, w ∈ wsX0_halfHour := by decide +kernel
  have hl : lv_has ls 1 [(0, .ref h)] := hl
  generalize hAe : va_A (Dk cI cZ h a F nq no np sh nw) sz = A at hD hA hS ⊢
  refine lv_aload_n hx hb dX0_halfHour_0 rfl (lv_at hl 0 rfl) ?_
  refine va_get (ci := 0) (v := .int nw) (C := RX0) (T := TX0) (N := 16) hx hb hts hin hown hK hP 0 rfl rfl 15 (by decide) (hts (.fieldLink RX0 101 "CurfewDesk" "now" "I") (by decide +kernel)) (fun _ h9 => h9) rfl dX0_halfHour_1 ?_
  refine lv_bipush (v := 48) hx hb dX0_halfHour_4 (by decide) ?_
  refine lv_irem hx hb dX0_halfHour_6 (by decide) ?_
  exact w_iret () hx hb hr hlocks hK hP hD hS (Nat.le_of_ble_eq_true rfl) (Nat.le_of_ble_eq_true rfl) dX0_halfHour_7 (show (nw - nw / 48 * 48) = nw - nw / 48 * 48 from by rfl)
set_option maxHeartbeats 4000000 in
set_option maxRecDepth 100000 in
theorem c_X0_duskIn (l : Launch) (G : va_G) (cI cZ : ClassId) (h : Nat) (a : Nat → Nat) (F : Nat → Nat → Int32) (nq no np : Nat) (sh nw : Int32) (sz : Nat) (x : Int32) (hx9 : p_wi x 0 99 = true) : Met l yX0_duskIn wsX0_duskIn ({ frames := 2, cells := 0, slots := 0, locals := 42 } : Room) (va_Pc [.ref h, .int x] (wPre G (ty2 cI cZ) (Dk cI cZ h a F nq no np sh nw) sz)) (va_Qi (fun (r : Int32) (_ : Unit) => r = p_dusk (nw / 48 + x) sh) (fun _ => wP G (ty2 cI cZ) (Dk cI cZ h a F nq no np sh nw) (va_A (Dk cI cZ h a F nq no np sh nw) sz)) (va_A (Dk cI cZ h a F nq no np sh nw) sz)) 0 0 (va_A (Dk cI cZ h a F nq no np sh nw) sz) := by
  refine w_met (cc := cX0_duskIn) (maxL := 2) (ret := (some .int)) (by decide) rfl (Nat.le_of_ble_eq_true rfl) ?_
  intro pg e s m below meth cd hx hb hml hr hts hown hlocks hnm hK hsz hP hD hA hS ls hl
  have hown : s.vm.findClass RX0 = some m.cls := hown
  have hl : lv_has ls 2 [(0, .ref h), (1, .int x)] := hl
  generalize hAe : va_A (Dk cI cZ h a F nq no np sh nw) sz = A at hD hA hS ⊢
  refine lv_iload_n hx hb dX0_duskIn_0 rfl (lv_at hl 1 rfl) ?_
  refine lv_iconst (v := 0) hx hb dX0_duskIn_1 (by decide) ?_
  refine lv_bipush (v := 99) hx hb dX0_duskIn_2 (by decide) ?_
  refine w_st_v (va_runS (As := [.int x, .int 0, .int 99]) (rest := []) ⟨hx, hb, hml, hown, hts⟩ (c_X0_requireWithin l G s.heap.size x 0 99 (hx9)) (va_cwS 3 hts gX0_duskIn_X0_requireWithin rfl rfl rfl (by decide +kernel) ⟨(Nat.le_of_ble_eq_true rfl), (Nat.le_of_ble_eq_true rfl)⟩) ⟨wPre_blind, w_pre (hK.sub [] rfl) w_P0 (w_D0 (A := A))⟩ rfl rfl hl.1 rfl (lv_room (Nat.le_of_ble_eq_true rfl)) dX0_duskIn_4 ⟨(Nat.le_of_ble_eq_true rfl), (Nat.le_of_ble_eq_true rfl)⟩) hP hS hA (fun u4 H locs hw4 hP hS => ?_)
  refine lv_aload_n hx hb dX0_duskIn_7 rfl (lv_at hl 0 rfl) ?_
  refine lv_aload_n hx hb dX0_duskIn_8 rfl (lv_at hl 0 rfl) ?_
  refine w_in_i (va_runV (As := []) (rest := [.ref h]) ⟨hx, hb, hml, hown, hts⟩ (c_X0_day l G cI cZ h a F nq no np sh nw H.size ) (cwV 0 hts gX0_duskIn_X0_day rfl rfl rfl (by decide +kernel) ⟨(Nat.le_of_ble_eq_true rfl), (Nat.le_of_ble_eq_true rfl)⟩) ⟨wPre_blind, va_recv hK hP (ci := 0) (q0 := 0) rfl rfl, w_pre hK hP hD⟩ rfl rfl hl.1 rfl (lv_room (Nat.le_of_ble_eq_true rfl)) dX0_duskIn_9 ⟨(Nat.le_of_ble_eq_true rfl), (Nat.le_of_ble_eq_true rfl)⟩) hD hS hA (fun r9 u9 H locs hw9 hP hD hS => ?_)
  have hP : va_P G vwCl (Dk cI cZ h a F nq no np sh nw) H := hP
  have hD : va_D A (Dk cI cZ h a F nq no np sh nw) := hD
  have hw9 : r9 = nw / 48 := hw9
  subst hw9
  refine lv_iload_n hx hb dX0_duskIn_12 rfl (lv_at hl 1 rfl) ?_
  refine lv_iadd hx hb dX0_duskIn_13 ?_
  refine w_in_i (va_runV (As := [.int ((nw / 48) + x)]) (rest := []) ⟨hx, hb, hml, hown, hts⟩ (c_X0_duskOf l G cI cZ h a F nq no np sh nw H.size ((nw / 48) + x) ) (cwV 1 hts gX0_duskIn_X0_duskOf rfl rfl rfl (by decide +kernel) ⟨(Nat.le_of_ble_eq_true rfl), (Nat.le_of_ble_eq_true rfl)⟩) ⟨wPre_blind, va_recv hK hP (ci := 0) (q0 := 0) rfl rfl, w_pre hK hP hD⟩ rfl rfl hl.1 rfl (lv_room (Nat.le_of_ble_eq_true rfl)) dX0_duskIn_14 ⟨(Nat.le_of_ble_eq_true rfl), (Nat.le_of_ble_eq_true rfl)⟩) hD hS hA (fun r14 u14 H locs hw14 hP hD hS => ?_)
  have hP : va_P G vwCl (Dk cI cZ h a F nq no np sh nw) H := hP
  have hD : va_D A (Dk cI cZ h a F nq no np sh nw) := hD
  have hw14 : r14 = p_dusk ((nw / 48) + x) sh := hw14
  subst hw14
  exact w_iret () hx hb hr hlocks hK hP hD hS (Nat.le_of_ble_eq_true rfl) (Nat.le_of_ble_eq_true rfl) dX0_duskIn_17 (show (p_dusk ((nw / 48) + x) sh) = p_dusk (nw / 48 + x) sh from by first | exact ⟨by rw [hw4]; rfl, rfl⟩ | rfl)
set_option maxHeartbeats 4000000 in
set_option maxRecDepth 100000 in
theorem c_X0_dawnIn (l : Launch) (G : va_G) (cI cZ : ClassId) (h : Nat) (a : Nat → Nat) (F : Nat → Nat → Int32) (nq no np : Nat) (sh nw : Int32) (sz : Nat) (x : Int32) (hx9 : p_wi x 0 99 = true) : Met l yX0_dawnIn wsX0_dawnIn ({ frames := 2, cells := 0, slots := 0, locals := 41 } : Room) (va_Pc [.ref h, .int x] (wPre G (ty2 cI cZ) (Dk cI cZ h a F nq no np sh nw) sz)) (va_Qi (fun (r : Int32) (_ : Unit) => r = p_dawn (nw / 48 + x)) (fun _ => wP G (ty2 cI cZ) (Dk cI cZ h a F nq no np sh nw) (va_A (Dk cI cZ h a F nq no np sh nw) sz)) (va_A (Dk cI cZ h a F nq no np sh nw) sz)) 0 0 (va_A (Dk cI cZ h a F nq no np sh nw) sz) := by
  refine w_met (cc := cX0_dawnIn) (maxL := 2) (ret := (some .int)) (by decide) rfl (Nat.le_of_ble_eq_true rfl) ?_
  intro pg e s m below meth cd hx hb hml hr hts hown hlocks hnm hK hsz hP hD hA hS ls hl
  have hown : s.vm.findClass RX0 = some m.cls := hown
  have hl : lv_has ls 2 [(0, .ref h), (1, .int x)] := hl
  generalize hAe : va_A (Dk cI cZ h a F nq no np sh nw) sz = A at hD hA hS ⊢
  refine lv_iload_n hx hb dX0_dawnIn_0 rfl (lv_at hl 1 rfl) ?_
  refine lv_iconst (v := 0) hx hb dX0_dawnIn_1 (by decide) ?_
  refine lv_bipush (v := 99) hx hb dX0_dawnIn_2 (by decide) ?_
  refine w_st_v (va_runS (As := [.int x, .int 0, .int 99]) (rest := []) ⟨hx, hb, hml, hown, hts⟩ (c_X0_requireWithin l G s.heap.size x 0 99 (hx9)) (va_cwS 3 hts gX0_dawnIn_X0_requireWithin rfl rfl rfl (by decide +kernel) ⟨(Nat.le_of_ble_eq_true rfl), (Nat.le_of_ble_eq_true rfl)⟩) ⟨wPre_blind, w_pre (hK.sub [] rfl) w_P0 (w_D0 (A := A))⟩ rfl rfl hl.1 rfl (lv_room (Nat.le_of_ble_eq_true rfl)) dX0_dawnIn_4 ⟨(Nat.le_of_ble_eq_true rfl), (Nat.le_of_ble_eq_true rfl)⟩) hP hS hA (fun u4 H locs hw4 hP hS => ?_)
  refine lv_aload_n hx hb dX0_dawnIn_7 rfl (lv_at hl 0 rfl) ?_
  refine w_in_i (va_runV (As := []) (rest := []) ⟨hx, hb, hml, hown, hts⟩ (c_X0_day l G cI cZ h a F nq no np sh nw H.size ) (cwV 0 hts gX0_dawnIn_X0_day rfl rfl rfl (by decide +kernel) ⟨(Nat.le_of_ble_eq_true rfl), (Nat.le_of_ble_eq_true rfl)⟩) ⟨wPre_blind, va_recv hK hP (ci := 0) (q0 := 0) rfl rfl, w_pre hK hP hD⟩ rfl rfl hl.1 rfl (lv_room (Nat.le_of_ble_eq_true rfl)) dX0_dawnIn_8 ⟨(Nat.le_of_ble_eq_true rfl), (Nat.le_of_ble_eq_true rfl)⟩) hD hS hA (fun r8 u8 H locs hw8 hP hD hS => ?_)
  have hP : va_P G vwCl (Dk cI cZ h a F nq no np sh nw) H := hP
  have hD : va_D A (Dk cI cZ h a F nq no np sh nw) := hD
  have hw8 : r8 = nw / 48 := hw8
  subst hw8
  refine lv_iload_n hx hb dX0_dawnIn_11 rfl (lv_at hl 1 rfl) ?_
  refine lv_iadd hx hb dX0_dawnIn_12 ?_
  refine w_st_i (va_runS (As := [.int ((nw / 48) + x)]) (rest := []) ⟨hx, hb, hml, hown, hts⟩ (c_X0_dawnOf l G H.size ((nw / 48) + x) ) (va_cwS 1 hts gX0_dawnIn_X0_dawnOf rfl rfl rfl (by decide +kernel) ⟨(Nat.le_of_ble_eq_true rfl), (Nat.le_of_ble_eq_true rfl)⟩) ⟨wPre_blind, w_pre (hK.sub [] rfl) w_P0 (w_D0 (A := A))⟩ rfl rfl hl.1 rfl (lv_room (Nat.le_of_ble_eq_true rfl)) dX0_dawnIn_13 ⟨(Nat.le_of_ble_eq_true rfl), (Nat.le_of_ble_eq_true rfl)⟩) hP hS hA (fun r13 u13 H locs hw13 hP hS => ?_)
  have hw13 : r13 = p_dawn ((nw / 48) + x) := hw13
  subst hw13
  exact w_iret () hx hb hr hlocks hK hP hD hS (Nat.le_of_ble_eq_true rfl) (Nat.le_of_ble_eq_true rfl) dX0_dawnIn_16 (show (p_dawn ((nw / 48) + x)) = p_dawn (nw / 48 + x) from by first | exact ⟨by rw [hw4]; rfl, rfl⟩ | rfl)
set_option maxHeartbeats 4000000 in
set_option maxRecDepth 100000 in
theorem c_X0_quarters (l : Launch) (G : va_G) (cI cZ : ClassId) (h : Nat) (a : Nat → Nat) (F : Nat → Nat → Int32) (nq no np : Nat) (sh nw : Int32) (sz : Nat) : Met l yX0_quarters wsX0_quarters ({ frames := 0, cells := 0, slots := 0, locals := 0 } : Room) (va_Pc [.ref h] (wPre G (ty2 cI cZ) (Dk cI cZ h a F nq no np sh nw) sz)) (va_Qi (fun (r : Int32) (_ : Unit) => r = nI nq) (fun _ => wP G (ty2 cI cZ) (Dk cI cZ h a F nq no np sh nw) (va_A (Dk cI cZ h a F nq no np sh nw) sz)) (va_A (Dk cI cZ h a F nq no np sh nw) sz)) 0 0 (va_A (Dk cI cZ h a F nq no np sh nw) sz) := by
  refine w_met (cc := cX0_quarters) (maxL := 1) (ret := (some .int)) (by decide) rfl (Nat.le_of_ble_eq_true rfl) ?_
  intro pg e s m below meth cd hx hb hml hr hts hown hlocks hnm hK hsz hP hD hA hS ls hl
  have hown : s.vm.findClass RX0 = some m.cls := hown
  have hin : ∀ w ∈ wsX00, w ∈ wsX0_quarters := by decide +kernel
  have hl : lv_has ls 1 [(0, .ref h)] := hl
  generalize hAe : va_A (Dk cI cZ h a F nq no np sh nw) sz = A at hD hA hS ⊢
  refine lv_aload_n hx hb dX0_quarters_0 rfl (lv_at hl 0 rfl) ?_
  refine va_get (ci := 0) (v := .int (nI nq)) (C := RX0) (T := TX0) (N := 16) hx hb hts hin hown hK hP 0 rfl rfl 11 (by decide) (hts (.fieldLink RX0 44 "CurfewDesk" "quarterCount" "I") (by decide +kernel)) (fun _ h9 => h9) rfl dX0_quarters_1 ?_
  exact w_iret () hx hb hr hlocks hK hP hD hS (Nat.le_of_ble_eq_true rfl) (Nat.le_of_ble_eq_true rfl) dX0_quarters_4 (show (nI nq) = nI nq from by rfl)
set_option maxHeartbeats 4000000 in
set_option maxRecDepth 100000 in
theorem c_X0_orders (l : Launch) (G : va_G) (cI cZ : ClassId) (h : Nat) (a : Nat → Nat) (F : Nat → Nat → Int32) (nq no np : Nat) (sh nw : Int32) (sz : Nat) : Met l yX0_orders wsX0_orders ({ frames := 0, cells := 0, slots := 0, locals := 0 } : Room) (va_Pc [.ref h] (wPre G (ty2 cI cZ) (Dk cI cZ h a F nq no np sh nw) sz)) (va_Qi (fun (r : Int32) (_ : Unit) => r = nI no) (fun _ => wP G (ty2 cI cZ) (Dk cI cZ h a F nq no np sh nw) (va_A (Dk cI cZ h a F nq no np sh nw) sz)) (va_A (Dk cI cZ h a F nq no np sh nw) sz)) 0 0 (va_A (Dk cI cZ h a F nq no np sh nw) sz) := by
  refine w_met (cc := cX0_orders) (maxL := 1) (ret := (some .int)) (by decide) rfl (Nat.le_of_ble_eq_true rfl) ?_
  intro pg e s m below meth cd hx hb hml hr hts hown hlocks hnm hK hsz hP hD hA hS ls hl
  have hown : s.vm.findClass RX0 = some m.cls := hown
  have hin : ∀ w ∈ wsX00, w ∈ wsX0_orders := by decide +kernel
  have hl : lv_has ls 1 [(0, .ref h)] := hl
  generalize hAe : va_A (Dk cI cZ h a F nq no np sh nw) sz = A at hD hA hS ⊢
  refine lv_aload_n hx hb dX0_orders_0 rfl (lv_at hl 0 rfl) ?_
  refine va_get (ci := 0) (v := .int (nI no)) (C := RX0) (T := TX0) (N := 16) hx hb hts hin hown hK hP 0 rfl rfl 12 (by decide) (hts (.fieldLink RX0 74 "CurfewDesk" "orderCount" "I") (by decide +kernel)) (fun _ h9 => h9) rfl dX0_orders_1 ?_
  exact w_iret () hx hb hr hlocks hK hP hD hS (Nat.le_of_ble_eq_true rfl) (Nat.le_of_ble_eq_true rfl) dX0_orders_4 (show (nI no) = nI no from by rfl)
set_option maxHeartbeats 4000000 in
set_option maxRecDepth 100000 in
theorem c_X0_people (l : Launch) (G : va_G) (cI cZ : ClassId) (h : Nat) (a : Nat → Nat) (F : Nat → Nat → Int32) (nq no np : Nat) (sh nw : Int32) (sz : Nat) : Met l yX0_people wsX0_people ({ frames := 0, cells := 0, slots := 0, locals := 0 } : Room) (va_Pc [.ref h] (wPre G (ty2 cI cZ) (Dk cI cZ h a F nq no np sh nw) sz)) (va_Qi (fun (r : Int32) (_ : Unit) => r = nI np) (fun _ => wP G (ty2 cI cZ) (Dk cI cZ h a F nq no np sh nw) (va_A (Dk cI cZ h a F nq no np sh nw) sz)) (va_A (Dk cI cZ h a F nq no np sh nw) sz)) 0 0 (va_A (Dk cI cZ h a F nq no np sh nw) sz) := by
  refine w_met (cc := cX0_people) (maxL := 1) (ret := (some .int)) (by decide) rfl (Nat.le_of_ble_eq_true rfl) ?_
  intro pg e s m below meth cd hx hb hml hr hts hown hlocks hnm hK hsz hP hD hA hS ls hl
  have hown : s.vm.findClass RX0 = some m.cls := hown
  have hin : ∀ w ∈ wsX00, w ∈ wsX0_people := by decide +kernel
  have hl : lv_has ls 1 [(0, .ref h)] := hl
  generalize hAe : va_A (Dk cI cZ h a F nq no np sh nw) sz = A at hD hA hS ⊢
  refine lv_aload_n hx hb dX0_people_0 rfl (lv_at hl 0 rfl) ?_
  refine va_get (ci := 0) (v := .int (nI np)) (C := RX0) (T := TX0) (N := 16) hx hb hts hin hown hK hP 0 rfl rfl 13 (by decide) (hts (.fieldLink RX0 59 "CurfewDesk" "personCount" "I") (by decide +kernel)) (fun _ h9 => h9) rfl dX0_people_1 ?_
  exact w_iret () hx hb hr hlocks hK hP hD hS (Nat.le_of_ble_eq_true rfl) (Nat.le_of_ble_eq_true rfl) dX0_people_4 (show (nI np) = nI np from by rfl)
set_option maxHeartbeats 4000000 in
set_option maxRecDepth 100000 in
theorem c_X0_shift (l : Launch) (G : va_G) (cI cZ : ClassId) (h : Nat) (a : Nat → Nat) (F : Nat → Nat → Int32) (nq no np : Nat) (sh nw : Int32) (sz : Nat) : Met l yX0_shift wsX0_shift ({ frames := 0, cells := 0, slots := 0, locals := 0 } : Room) (va_Pc [.ref h] (wPre G (ty2 cI cZ) (Dk cI cZ h a F nq no np sh nw) sz)) (va_Qi (fun (r : Int32) (_ : Unit) => r = sh) (fun _ => wP G (ty2 cI cZ) (Dk cI cZ h a F nq no np sh nw) (va_A (Dk cI cZ h a F nq no np sh nw) sz)) (va_A (Dk cI cZ h a F nq no np sh nw) sz)) 0 0 (va_A (Dk cI cZ h a F nq no np sh nw) sz) := by
  refine w_met (cc := cX0_shift) (maxL := 1) (ret := (some .int)) (by decide) rfl (Nat.le_of_ble_eq_true rfl) ?_
  intro pg e s m below meth cd hx hb hml hr hts hown hlocks hnm hK hsz hP hD hA hS ls hl
  have hown : s.vm.findClass RX0 = some m.cls := hown
  have hin : ∀ w ∈ wsX00, w ∈ wsX0_shift := by decide +kernel
  have hl : lv_has ls 1 [(0, .ref h)] := hl
  generalize hAe : va_A (Dk cI cZ h a F nq no np sh nw) sz = A at hD hA hS ⊢
  refine lv_aload_n hx hb dX0_shift_0 rfl (lv_at hl 0 rfl) ?_
  refine va_get (ci := 0) (v := .int sh) (C := RX0) (T := TX0) (N := 16) hx hb hts hin hown hK hP 0 rfl rfl 14 (by decide) (hts (.fieldLink RX0 86 "CurfewDesk" "duskShift" "I") (by decide +kernel)) (fun _ h9 => h9) rfl dX0_shift_1 ?_
  exact w_iret () hx hb hr hlocks hK hP hD hS (Nat.le_of_ble_eq_true rfl) (Nat.le_of_ble_eq_true rfl) dX0_shift_4 (show sh = sh from by rfl)
set_option maxHeartbeats 4000000 in
set_option maxRecDepth 100000 in
theorem c_X0_ordersOn (l : Launch) (G : va_G) (cI cZ : ClassId) (h : Nat) (a : Nat → Nat) (F : Nat → Nat → Int32) (nq no np : Nat) (sh nw : Int32) (sz : Nat) (hno : no ≤ 10) : Met l yX0_ordersOn wsX0_ordersOn ({ frames := 4, cells := 0, slots := 0, locals := 88 } : Room) (va_Pc [.ref h] (wPre G (ty2 cI cZ) (Dk cI cZ h a F nq no np sh nw) sz)) (va_Qi (fun (r : Int32) (_ : Unit) => r = nI (p_mo F sh no nw)) (fun _ => wP G (ty2 cI cZ) (Dk cI cZ h a F nq no np sh nw) (va_A (Dk cI cZ h a F nq no np sh nw) sz)) (va_A (Dk cI cZ h a F nq no np sh nw) sz)) 0 0 (va_A (Dk cI cZ h a F nq no np sh nw) sz) := by
  refine w_met (cc := cX0_ordersOn) (maxL := 3) (ret := (some .int)) (by decide) rfl (Nat.le_of_ble_eq_true rfl) ?_
  intro pg e s m below meth cd hx hb hml hr hts hown hlocks hnm hK hsz hP hD hA hS ls hl
  have hown : s.vm.findClass RX0 = some m.cls := hown
  have hin : ∀ w ∈ wsX00, w ∈ wsX0_ordersOn := by decide +kernel
  have hl : lv_has ls 3 [(0, .ref h)] := hl
  generalize hAe : va_A (Dk cI cZ h a F nq no np sh nw) sz = A at hD hA hS ⊢
  refine lv_iconst (v := 0) hx hb dX0_ordersOn_0 (by decide) ?_
  refine lv_istore_n (lv' := [(1, .int 0), (0, .ref h)]) hx hb dX0_ordersOn_1 rfl hl (by decide) rfl (fun ls hl => ?_)
  refine lv_iconst (v := 0) hx hb dX0_ordersOn_2 (by decide) ?_
  refine lv_istore_n (lv' := [(2, .int 0), (1, .int 0), (0, .ref h)]) hx hb dX0_ordersOn_3 rfl hl (by decide) rfl (fun ls hl => ?_)
  have key4 : ∀ (n i4 : Nat), i4 ≤ no → no < i4 + n → ∀ (x1 : Int32) (x2 : Int32), x1 = nI (p_ct (fun o => p_on F sh o nw) i4) → x2 = nI i4 → ∀ (H : Heap) (locs : List Loc), va_P G vwCl (Dk cI cZ h a F nq no np sh nw) H → va_D A (Dk cI cZ h a F nq no np sh nw) → va_S A s.heap H locs → ∀ ls : Array Slot, lv_has ls 3 [(0, .ref h), (1, .int x1), (2, .int x2)] → W pg l e ({ frames := 4, cells := 0, slots := 0, locals := 88 } : Room) s m ([.ref h] : List Value).toArray below meth cd H locs (0) (0) (MQ below (va_Qi (fun (r : Int32) (_ : Unit) => r = nI (p_mo F sh no nw)) (fun _ => wP G (ty2 cI cZ) (Dk cI cZ h a F nq no np sh nw) A) A) ([.ref h] : List Value).toArray s 0 0 A) (F0 m 4 ls []) := by
    intro n
    induction n with
    | zero => intro i4 h1 h2; exact absurd h2 (by omega)
    | succ n ih4 =>
      intro i4 hi_i4 hn_i4 x1 x2 e1 e2 H locs hP hD hS ls hl
      subst e1 e2
      refine lv_iload_n hx hb dX0_ordersOn_4 rfl (lv_at hl 2 rfl) ?_
      refine lv_aload_n hx hb dX0_ordersOn_5 rfl (lv_at hl 0 rfl) ?_
      refine va_get (ci := 0) (v := .int (nI no)) (C := RX0) (T := TX0) (N := 16) hx hb hts hin hown hK hP 0 rfl rfl 12 (by decide) (hts (.fieldLink RX0 74 "CurfewDesk" "orderCount" "I") (by decide +kernel)) (fun _ h9 => h9) rfl dX0_ordersOn_6 ?_
      refine lv_icmp_ge (tgt := 33) hx hb dX0_ordersOn_9 (by decide) (fun c9 => ?_) (fun c9 => ?_)
      · have c9 := (nI_leI (a := no) (b := i4) (by omega) (by omega)).mp c9
        have ei : no = i4 := by omega
        subst ei
        refine lv_iload_n hx hb dX0_ordersOn_33 rfl (lv_at hl 1 rfl) ?_
        exact w_iret () hx hb hr hlocks hK hP hD hS (Nat.le_of_ble_eq_true rfl) (Nat.le_of_ble_eq_true rfl) dX0_ordersOn_34 (show (nI (p_ct (fun o => p_on F sh o nw) no)) = nI (p_mo F sh no nw) from by rfl)
      · have c9 := mt (nI_leI (a := no) (b := i4) (by omega) (by omega)).mpr c9
        have hlt_i4 : i4 < no := by omega
        refine lv_aload_n hx hb dX0_ordersOn_12 rfl (lv_at hl 0 rfl) ?_
        refine lv_iload_n hx hb dX0_ordersOn_13 rfl (lv_at hl 2 rfl) ?_
        refine lv_aload_n hx hb dX0_ordersOn_14 rfl (lv_at hl 0 rfl) ?_
        refine va_get (ci := 0) (v := .int nw) (C := RX0) (T := TX0) (N := 16) hx hb hts hin hown hK hP 0 rfl rfl 15 (by decide) (hts (.fieldLink RX0 101 "CurfewDesk" "now" "I") (by decide +kernel)) (fun _ h9 => h9) rfl dX0_ordersOn_15 ?_
        refine w_in_i (va_runV (As := [.int (nI i4), .int nw]) (rest := []) ⟨hx, hb, hml, hown, hts⟩ (c_X0_isOnAt l G cI cZ h a F nq no np sh nw H.size i4 nw (by omega)) (cwV 2 hts gX0_ordersOn_X0_isOnAt rfl rfl rfl (by decide +kernel) ⟨(Nat.le_of_ble_eq_true rfl), (Nat.le_of_ble_eq_true rfl)⟩) ⟨wPre_blind, va_recv hK hP (ci := 0) (q0 := 0) rfl rfl, w_pre hK hP hD⟩ rfl rfl hl.1 rfl (lv_room (Nat.le_of_ble_eq_true rfl)) dX0_ordersOn_18 ⟨(Nat.le_of_ble_eq_true rfl), (Nat.le_of_ble_eq_true rfl)⟩) hD hS hA (fun r18 u18 H locs hw18 hP hD hS => ?_)
        have hP : va_P G vwCl (Dk cI cZ h a F nq no np sh nw) H := hP
        have hD : va_D A (Dk cI cZ h a F nq no np sh nw) := hD
        have hw18 : r18 = b2i (p_on F sh i4 nw) := hw18
        subst hw18
        refine lv_if_eq (tgt := 27) hx hb dX0_ordersOn_21 (by decide) (fun c21 => ?_) (fun c21 => ?_)
        · have c21 := b2i_0.mp c21
          refine lv_iinc (v := nI i4 + 1) (lv' := [(2, .int (nI i4 + 1)), (0, .ref h), (1, .int (nI (p_ct (fun o => p_on F sh o nw) i4)))]) hx hb dX0_ordersOn_27 hl (k := 2) rfl rfl (by decide) rfl (fun ls hl => ?_)
          refine lv_goto (tgt := 4) hx hb dX0_ordersOn_30 (by decide) ?_
          exact ih4 (i4 + 1) (by omega) (by omega) (nI (p_ct (fun o => p_on F sh o nw) i4)) (nI i4 + 1) (by first | exact nI_1 _ | exact nct_t (by assumption) | exact nct_f (by assumption) | exact nct_b | rfl) (by first | exact nI_1 _ | exact nct_t (by assumption) | exact nct_f (by assumption) | exact nct_b | rfl) _ _ hP hD hS _ (lv_sub hl [1, 2, 0] rfl)
        · have c21 := b2i_1.mp c21
          refine lv_iinc (v := nI (p_ct (fun o => p_on F sh o nw) i4) + 1) (lv' := [(1, .int (nI (p_ct (fun o => p_on F sh o nw) i4) + 1)), (0, .ref h), (2, .int (nI i4))]) hx hb dX0_ordersOn_24 hl (k := 1) rfl rfl (by decide) rfl (fun ls hl => ?_)
          refine lv_iinc (v := nI i4 + 1) (lv' := [(2, .int (nI i4 + 1)), (1, .int (nI (p_ct (fun o => p_on F sh o nw) i4) + 1)), (0, .ref h)]) hx hb dX0_ordersOn_27 hl (k := 2) rfl rfl (by decide) rfl (fun ls hl => ?_)
          refine lv_goto (tgt := 4) hx hb dX0_ordersOn_30 (by decide) ?_
          exact ih4 (i4 + 1) (by omega) (by omega) (nI (p_ct (fun o => p_on F sh o nw) i4) + 1) (nI i4 + 1) (by first | exact nI_1 _ | exact nct_t (by assumption) | exact nct_f (by assumption) | exact nct_b | rfl) (by first | exact nI_1 _ | exact nct_t (by assumption) | exact nct_f (by assumption) | exact nct_b | rfl) _ _ hP hD hS _ (lv_sub hl [2, 1, 0] rfl)
  exact key4 (no + 1) 0 (by omega) (by omega) 0 0 (by first | rfl | simp [p_ct, p_sm, p_fl, p_fg, nI_0]) (by first | rfl | simp [p_ct, p_sm, p_fl, p_fg, nI_0]) _ _ hP hD hS _ (lv_sub hl [2, 1, 0] rfl)
set_option maxHeartbeats 4000000 in
set_option maxRecDepth 100000 in
theorem c_X0_allOwe (l : Launch) (G : va_G) (cI cZ : ClassId) (h : Nat) (a : Nat → Nat) (F : Nat → Nat → Int32) (nq no np : Nat) (sh nw : Int32) (sz : Nat) (hnp : np ≤ 20) : Met l yX0_allOwe wsX0_allOwe ({ frames := 0, cells := 0, slots := 0, locals := 0 } : Room) (va_Pc [.ref h] (wPre G (ty2 cI cZ) (Dk cI cZ h a F nq no np sh nw) sz)) (va_Qi (fun (r : Int32) (_ : Unit) => r = p_sm (F 8) np) (fun _ => wP G (ty2 cI cZ) (Dk cI cZ h a F nq no np sh nw) (va_A (Dk cI cZ h a F nq no np sh nw) sz)) (va_A (Dk cI cZ h a F nq no np sh nw) sz)) 0 0 (va_A (Dk cI cZ h a F nq no np sh nw) sz) := by
  refine w_met (cc := cX0_allOwe) (maxL := 3) (ret := (some .int)) (by decide) rfl (Nat.le_of_ble_eq_true rfl) ?_
  intro pg e s m below meth cd hx hb hml hr hts hown hlocks hnm hK hsz hP hD hA hS ls hl
  have hown : s.vm.findClass RX0 = some m.cls := hown
  have hin : ∀ w ∈ wsX00, w ∈ wsX0_allOwe := by decide +kernel
  have hl : lv_has ls 3 [(0, .ref h)] := hl
  generalize hAe : va_A (Dk cI cZ h a F nq no np sh nw) sz = A at hD hA hS ⊢
  refine lv_iconst (v := 0) hx hb dX0_allOwe_0 (by decide) ?_
  refine lv_istore_n (lv' := [(1, .int 0), (0, .ref h)]) hx hb dX0_allOwe_1 rfl hl (by decide) rfl (fun ls hl => ?_)
  refine lv_iconst (v := 0) hx hb dX0_allOwe_2 (by decide) ?_
  refine lv_istore_n (lv' := [(2, .int 0), (1, .int 0), (0, .ref h)]) hx hb dX0_allOwe_3 rfl hl (by decide) rfl (fun ls hl => ?_)
  have key4 : ∀ (n i4 : Nat), i4 ≤ np → np < i4 + n → ∀ (x1 : Int32) (x2 : Int32), x1 = p_sm (F 8) i4 → x2 = nI i4 → ∀ (H : Heap) (locs : List Loc), va_P G vwCl (Dk cI cZ h a F nq no np sh nw) H → va_D A (Dk cI cZ h a F nq no np sh nw) → va_S A s.heap H locs → ∀ ls : Array Slot, lv_has ls 3 [(0, .ref h), (1, .int x1), (2, .int x2)] → W pg l e ({ frames := 0, cells := 0, slots := 0, locals := 0 } : Room) s m ([.ref h] : List Value).toArray below meth cd H locs (0) (0) (MQ below (va_Qi (fun (r : Int32) (_ : Unit) => r = p_sm (F 8) np) (fun _ => wP G (ty2 cI cZ) (Dk cI cZ h a F nq no np sh nw) A) A) ([.ref h] : List Value).toArray s 0 0 A) (F0 m 4 ls []) := by
    intro n
    induction n with
    | zero => intro i4 h1 h2; exact absurd h2 (by omega)
    | succ n ih4 =>
      intro i4 hi_i4 hn_i4 x1 x2 e1 e2 H locs hP hD hS ls hl
      subst e1 e2
      refine lv_iload_n hx hb dX0_allOwe_4 rfl (lv_at hl 2 rfl) ?_
      refine lv_aload_n hx hb dX0_allOwe_5 rfl (lv_at hl 0 rfl) ?_
      refine va_get (ci := 0) (v := .int (nI np)) (C := RX0) (T := TX0) (N := 16) hx hb hts hin hown hK hP 0 rfl rfl 13 (by decide) (hts (.fieldLink RX0 59 "CurfewDesk" "personCount" "I") (by decide +kernel)) (fun _ h9 => h9) rfl dX0_allOwe_6 ?_
      refine lv_icmp_ge (tgt := 27) hx hb dX0_allOwe_9 (by decide) (fun c9 => ?_) (fun c9 => ?_)
      · have c9 := (nI_leI (a := np) (b := i4) (by omega) (by omega)).mp c9
        have ei : np = i4 := by omega
        subst ei
        refine lv_iload_n hx hb dX0_allOwe_27 rfl (lv_at hl 1 rfl) ?_
        exact w_iret () hx hb hr hlocks hK hP hD hS (Nat.le_of_ble_eq_true rfl) (Nat.le_of_ble_eq_true rfl) dX0_allOwe_28 (show (p_sm (F 8) np) = p_sm (F 8) np from by rfl)
      · have c9 := mt (nI_leI (a := np) (b := i4) (by omega) (by omega)).mpr c9
        have hlt_i4 : i4 < np := by omega
        refine lv_iload_n hx hb dX0_allOwe_12 rfl (lv_at hl 1 rfl) ?_
        refine lv_aload_n hx hb dX0_allOwe_13 rfl (lv_at hl 0 rfl) ?_
        refine va_get (ci := 0) (v := .ref (a 8)) (C := RX0) (T := TX0) (N := 16) hx hb hts hin hown hK hP 0 rfl rfl 8 (by decide) (hts (.fieldLink RX0 35 "CurfewDesk" "personOwes" "[I") (by decide +kernel)) (fun _ h9 => h9) rfl dX0_allOwe_14 ?_
        refine lv_iload_n hx hb dX0_allOwe_17 rfl (lv_at hl 2 rfl) ?_
        refine w_iald hx hb hK hP 9 0 rfl rfl (f := (F 8)) (j := i4) (by omega) (by omega) dX0_allOwe_18 ?_
        refine lv_iadd hx hb dX0_allOwe_19 ?_
        refine lv_istore_n (lv' := [(1, .int ((p_sm (F 8) i4) + ((F 8) i4))), (0, .ref h), (2, .int (nI i4))]) hx hb dX0_allOwe_20 rfl hl (by decide) rfl (fun ls hl => ?_)
        refine lv_iinc (v := nI i4 + 1) (lv' := [(2, .int (nI i4 + 1)), (1, .int ((p_sm (F 8) i4) + ((F 8) i4))), (0, .ref h)]) hx hb dX0_allOwe_21 hl (k := 2) rfl rfl (by decide) rfl (fun ls hl => ?_)
        refine lv_goto (tgt := 4) hx hb dX0_allOwe_24 (by decide) ?_
        exact ih4 (i4 + 1) (by omega) (by omega) ((p_sm (F 8) i4) + ((F 8) i4)) (nI i4 + 1) (by rfl) (by first | exact nI_1 _ | exact nct_t (by assumption) | exact nct_f (by assumption) | exact nct_b | rfl) _ _ hP hD hS _ (lv_sub hl [2, 1, 0] rfl)
  exact key4 (np + 1) 0 (by omega) (by omega) 0 0 (by first | rfl | simp [p_ct, p_sm, p_fl, p_fg, nI_0]) (by first | rfl | simp [p_ct, p_sm, p_fl, p_fg, nI_0]) _ _ hP hD hS _ (lv_sub hl [2, 1, 0] rfl)
set_option maxHeartbeats 4000000 in
set_option maxRecDepth 100000 in
theorem c_X0_barredBy (l : Launch) (G : va_G) (cI cZ : ClassId) (h : Nat) (a : Nat → Nat) (F : Nat → Nat → Int32) (nq no np : Nat) (sh nw : Int32) (sz : Nat) (x : Int32) (hno : no ≤ 10) (hnp : np ≤ 20) (hx9 : p_in x no = true) : Met l yX0_barredBy wsX0_barredBy ({ frames := 4, cells := 0, slots := 0, locals := 90 } : Room) (va_Pc [.ref h, .int x] (wPre G (ty2 cI cZ) (Dk cI cZ h a F nq no np sh nw) sz)) (va_Qi (fun (r : Int32) (_ : Unit) => r = nI (p_bd F sh np x.toNatClampNeg nw)) (fun _ => wP G (ty2 cI cZ) (Dk cI cZ h a F nq no np sh nw) (va_A (Dk cI cZ h a F nq no np sh nw) sz)) (va_A (Dk cI cZ h a F nq no np sh nw) sz)) 0 0 (va_A (Dk cI cZ h a F nq no np sh nw) sz) := by
  refine w_met (cc := cX0_barredBy) (maxL := 4) (ret := (some .int)) (by decide) rfl (Nat.le_of_ble_eq_true rfl) ?_
  intro pg e s m below meth cd hx hb hml hr hts hown hlocks hnm hK hsz hP hD hA hS ls hl
  have hown : s.vm.findClass RX0 = some m.cls := hown
  have hin : ∀ w ∈ wsX00, w ∈ wsX0_barredBy := by decide +kernel
  have hl : lv_has ls 4 [(0, .ref h), (1, .int x)] := hl
  generalize hAe : va_A (Dk cI cZ h a F nq no np sh nw) sz = A at hD hA hS ⊢
  refine lv_aload_n hx hb dX0_barredBy_0 rfl (lv_at hl 0 rfl) ?_
  refine lv_iload_n hx hb dX0_barredBy_1 rfl (lv_at hl 1 rfl) ?_
  refine w_in_v (va_runV (As := [.int x]) (rest := []) ⟨hx, hb, hml, hown, hts⟩ (c_X0_requireOrder l G cI cZ h a F nq no np sh nw s.heap.size x (by omega) (hx9)) (cwV 1 hts gX0_barredBy_X0_requireOrder rfl rfl rfl (by decide +kernel) ⟨(Nat.le_of_ble_eq_true rfl), (Nat.le_of_ble_eq_true rfl)⟩) ⟨wPre_blind, va_recv hK hP (ci := 0) (q0 := 0) rfl rfl, w_pre hK hP hD⟩ rfl rfl hl.1 rfl (lv_room (Nat.le_of_ble_eq_true rfl)) dX0_barredBy_2 ⟨(Nat.le_of_ble_eq_true rfl), (Nat.le_of_ble_eq_true rfl)⟩) hD hS hA (fun u2 H locs hw2 hP hD hS => ?_)
  have hP : va_P G vwCl (Dk cI cZ h a F nq no np sh nw) H := hP
  have hD : va_D A (Dk cI cZ h a F nq no np sh nw) := hD
  obtain ⟨j, hj, rfl⟩ := pin_of hx9
  refine lv_iconst (v := 0) hx hb dX0_barredBy_5 (by decide) ?_
  refine lv_istore_n (lv' := [(2, .int 0), (0, .ref h), (1, .int (nI j))]) hx hb dX0_barredBy_6 rfl hl (by decide) rfl (fun ls hl => ?_)
  refine lv_iconst (v := 0) hx hb dX0_barredBy_7 (by decide) ?_
  refine lv_istore_n (lv' := [(3, .int 0), (2, .int 0), (0, .ref h), (1, .int (nI j))]) hx hb dX0_barredBy_8 rfl hl (by decide) rfl (fun ls hl => ?_)
  have key9 : ∀ (n i9 : Nat), i9 ≤ np → np < i9 + n → ∀ (x2 : Int32) (x3 : Int32), x2 = nI (p_ct (fun p => p_bars F sh j p (F 0 j) nw) i9) → x3 = nI i9 → ∀ (H : Heap) (locs : List Loc), va_P G vwCl (Dk cI cZ h a F nq no np sh nw) H → va_D A (Dk cI cZ h a F nq no np sh nw) → va_S A s.heap H locs → ∀ ls : Array Slot, lv_has ls 4 [(0, .ref h), (1, .int (nI j)), (2, .int x2), (3, .int x3)] → W pg l e ({ frames := 4, cells := 0, slots := 0, locals := 90 } : Room) s m ([.ref h, .int (nI j)] : List Value).toArray below meth cd H locs (0 + 0) (0 + 0) (MQ below (va_Qi (fun (r : Int32) (_ : Unit) => r = nI (p_bd F sh np (nI j).toNatClampNeg nw)) (fun _ => wP G (ty2 cI cZ) (Dk cI cZ h a F nq no np sh nw) A) A) ([.ref h, .int (nI j)] : List Value).toArray s 0 0 A) (F0 m 9 ls []) := by
    intro n
    induction n with
    | zero => intro i9 h1 h2; exact absurd h2 (by omega)
    | succ n ih9 =>
      intro i9 hi_i9 hn_i9 x2 x3 e2 e3 H locs hP hD hS ls hl
      subst e2 e3
      refine lv_iload_n hx hb dX0_barredBy_9 rfl (lv_at hl 3 rfl) ?_
      refine lv_aload_n hx hb dX0_barredBy_10 rfl (lv_at hl 0 rfl) ?_
      refine va_get (ci := 0) (v := .int (nI np)) (C := RX0) (T := TX0) (N := 16) hx hb hts hin hown hK hP 0 rfl rfl 13 (by decide) (hts (.fieldLink RX0 59 "CurfewDesk" "personCount" "I") (by decide +kernel)) (fun _ h9 => h9) rfl dX0_barredBy_11 ?_
      refine lv_icmp_ge (tgt := 45) hx hb dX0_barredBy_14 (by decide) (fun c14 => ?_) (fun c14 => ?_)
      · have c14 := (nI_leI (a := np) (b := i9) (by omega) (by omega)).mp c14
        have ei : np = i9 := by omega
        subst ei
        refine lv_iload_n hx hb dX0_barredBy_45 rfl (lv_at hl 2 rfl) ?_
        exact w_iret () hx hb hr hlocks hK hP hD hS (Nat.le_of_ble_eq_true rfl) (Nat.le_of_ble_eq_true rfl) dX0_barredBy_46 (show (nI (p_ct (fun p => p_bars F sh j p (F 0 j) nw) np)) = nI (p_bd F sh np (nI j).toNatClampNeg nw) from by first | exact ⟨by rw [hw2]; rfl, by simp only [nI_clamp (show j < 2 ^ 31 by omega)]; rfl⟩ | (simp only [nI_clamp (show j < 2 ^ 31 by omega)]; rfl))
      · have c14 := mt (nI_leI (a := np) (b := i9) (by omega) (by omega)).mpr c14
        have hlt_i9 : i9 < np := by omega
        refine lv_aload_n hx hb dX0_barredBy_17 rfl (lv_at hl 0 rfl) ?_
        refine lv_iload_n hx hb dX0_barredBy_18 rfl (lv_at hl 1 rfl) ?_
        refine lv_iload_n hx hb dX0_barredBy_19 rfl (lv_at hl 3 rfl) ?_
        refine lv_aload_n hx hb dX0_barredBy_20 rfl (lv_at hl 0 rfl) ?_
        refine va_get (ci := 0) (v := .ref (a 0)) (C := RX0) (T := TX0) (N := 16) hx hb hts hin hown hK hP 0 rfl rfl 0 (by decide) (hts (.fieldLink RX0 9 "CurfewDesk" "orderQuarter" "[I") (by decide +kernel)) (fun _ h9 => h9) rfl dX0_barredBy_21 ?_
        refine lv_iload_n hx hb dX0_barredBy_24 rfl (lv_at hl 1 rfl) ?_
        refine w_iald hx hb hK hP 1 0 rfl rfl (f := (F 0)) (j := j) (by omega) (by omega) dX0_barredBy_25 ?_
        refine lv_aload_n hx hb dX0_barredBy_26 rfl (lv_at hl 0 rfl) ?_
        refine va_get (ci := 0) (v := .int nw) (C := RX0) (T := TX0) (N := 16) hx hb hts hin hown hK hP 0 rfl rfl 15 (by decide) (hts (.fieldLink RX0 101 "CurfewDesk" "now" "I") (by decide +kernel)) (fun _ h9 => h9) rfl dX0_barredBy_27 ?_
        refine w_in_i (va_runV (As := [.int (nI j), .int (nI i9), .int ((F 0) j), .int nw]) (rest := []) ⟨hx, hb, hml, hown, hts⟩ (c_X0_bars l G cI cZ h a F nq no np sh nw H.size j i9 ((F 0) j) nw (by omega) (by omega)) (cwV 4 hts gX0_barredBy_X0_bars rfl rfl rfl (by decide +kernel) ⟨(Nat.le_of_ble_eq_true rfl), (Nat.le_of_ble_eq_true rfl)⟩) ⟨wPre_blind, va_recv hK hP (ci := 0) (q0 := 0) rfl rfl, w_pre hK hP hD⟩ rfl rfl hl.1 rfl (lv_room (Nat.le_of_ble_eq_true rfl)) dX0_barredBy_30 ⟨(Nat.le_of_ble_eq_true rfl), (Nat.le_of_ble_eq_true rfl)⟩) hD hS hA (fun r30 u30 H locs hw30 hP hD hS => ?_)
        have hP : va_P G vwCl (Dk cI cZ h a F nq no np sh nw) H := hP
        have hD : va_D A (Dk cI cZ h a F nq no np sh nw) := hD
        have hw30 : r30 = b2i (p_bars F sh j i9 ((F 0) j) nw) := hw30
        subst hw30
        refine lv_if_eq (tgt := 39) hx hb dX0_barredBy_33 (by decide) (fun c33 => ?_) (fun c33 => ?_)
        · have c33 := b2i_0.mp c33
          refine lv_iinc (v := nI i9 + 1) (lv' := [(3, .int (nI i9 + 1)), (0, .ref h), (1, .int (nI j)), (2, .int (nI (p_ct (fun p => p_bars F sh j p (F 0 j) nw) i9)))]) hx hb dX0_barredBy_39 hl (k := 3) rfl rfl (by decide) rfl (fun ls hl => ?_)
          refine lv_goto (tgt := 9) hx hb dX0_barredBy_42 (by decide) ?_
          exact ih9 (i9 + 1) (by omega) (by omega) (nI (p_ct (fun p => p_bars F sh j p (F 0 j) nw) i9)) (nI i9 + 1) (by first | exact nI_1 _ | exact nct_t (by assumption) | exact nct_f (by assumption) | exact nct_b | rfl) (by first | exact nI_1 _ | exact nct_t (by assumption) | exact nct_f (by assumption) | exact nct_b | rfl) _ _ hP hD hS _ (lv_sub hl [1, 2, 3, 0] rfl)
        · have c33 := b2i_1.mp c33
          refine lv_iinc (v := nI (p_ct (fun p => p_bars F sh j p (F 0 j) nw) i9) + 1) (lv' := [(2, .int (nI (p_ct (fun p => p_bars F sh j p (F 0 j) nw) i9) + 1)), (0, .ref h), (1, .int (nI j)), (3, .int (nI i9))]) hx hb dX0_barredBy_36 hl (k := 2) rfl rfl (by decide) rfl (fun ls hl => ?_)
          refine lv_iinc (v := nI i9 + 1) (lv' := [(3, .int (nI i9 + 1)), (2, .int (nI (p_ct (fun p => p_bars F sh j p (F 0 j) nw) i9) + 1)), (0, .ref h), (1, .int (nI j))]) hx hb dX0_barredBy_39 hl (k := 3) rfl rfl (by decide) rfl (fun ls hl => ?_)
          refine lv_goto (tgt := 9) hx hb dX0_barredBy_42 (by decide) ?_
          exact ih9 (i9 + 1) (by omega) (by omega) (nI (p_ct (fun p => p_bars F sh j p (F 0 j) nw) i9) + 1) (nI i9 + 1) (by first | exact nI_1 _ | exact nct_t (by assumption) | exact nct_f (by assumption) | exact nct_b | rfl) (by first | exact nI_1 _ | exact nct_t (by assumption) | exact nct_f (by assumption) | exact nct_b | rfl) _ _ hP hD hS _ (lv_sub hl [2, 3, 1, 0] rfl)
  exact key9 (np + 1) 0 (by omega) (by omega) 0 0 (by first | rfl | simp [p_ct, p_sm, p_fl, p_fg, nI_0]) (by first | rfl | simp [p_ct, p_sm, p_fl, p_fg, nI_0]) _ _ hP hD hS _ (lv_sub hl [2, 3, 1, 0] rfl)
set_option maxHeartbeats 4000000 in
set_option maxRecDepth 100000 in
theorem c_X0_ordersAgainst (l : Launch) (G : va_G) (cI cZ : ClassId) (h : Nat) (a : Nat → Nat) (F : Nat → Nat → Int32) (nq no np : Nat) (sh nw : Int32) (sz : Nat) (x : Int32) (y : Int32) (hnq : nq ≤ 6) (hno : no ≤ 10) (hnp : np ≤ 20) (hx9 : p_in x np = true) (hy9 : p_in y nq = true) : Met l yX0_ordersAgainst wsX0_ordersAgainst ({ frames := 4, cells := 0, slots := 0, locals := 90 } : Room) (va_Pc [.ref h, .int x, .int y] (wPre G (ty2 cI cZ) (Dk cI cZ h a F nq no np sh nw) sz)) (va_Qi (fun (r : Int32) (_ : Unit) => r = nI (p_ag F sh no x.toNatClampNeg y nw)) (fun _ => wP G (ty2 cI cZ) (Dk cI cZ h a F nq no np sh nw) (va_A (Dk cI cZ h a F nq no np sh nw) sz)) (va_A (Dk cI cZ h a F nq no np sh nw) sz)) 0 0 (va_A (Dk cI cZ h a F nq no np sh nw) sz) := by
  refine w_met (cc := cX0_ordersAgainst) (maxL := 5) (ret := (some .int)) (by decide) rfl (Nat.le_of_ble_eq_true rfl) ?_
  intro pg e s m below meth cd hx hb hml hr hts hown hlocks hnm hK hsz hP hD hA hS ls hl
  have hown : s.vm.findClass RX0 = some m.cls := hown
  have hin : ∀ w ∈ wsX00, w ∈ wsX0_ordersAgainst := by decide +kernel
  have hl : lv_has ls 5 [(0, .ref h), (1, .int x), (2, .int y)] := hl
  generalize hAe : va_A (Dk cI cZ h a F nq no np sh nw) sz = A at hD hA hS ⊢
  refine lv_aload_n hx hb dX0_ordersAgainst_0 rfl (lv_at hl 0 rfl) ?_
  refine lv_iload_n hx hb dX0_ordersAgainst_1 rfl (lv_at hl 1 rfl) ?_
  refine w_in_v (va_runV (As := [.int x]) (rest := []) ⟨hx, hb, hml, hown, hts⟩ (c_X0_requirePerson l G cI cZ h a F nq no np sh nw s.heap.size x (by omega) (hx9)) (cwV 1 hts gX0_ordersAgainst_X0_requirePerson rfl rfl rfl (by decide +kernel) ⟨(Nat.le_of_ble_eq_true rfl), (Nat.le_of_ble_eq_true rfl)⟩) ⟨wPre_blind, va_recv hK hP (ci := 0) (q0 := 0) rfl rfl, w_pre hK hP hD⟩ rfl rfl hl.1 rfl (lv_room (Nat.le_of_ble_eq_true rfl)) dX0_ordersAgainst_2 ⟨(Nat.le_of_ble_eq_true rfl), (Nat.le_of_ble_eq_true rfl)⟩) hD hS hA (fun u2 H locs hw2 hP hD hS => ?_)
  have hP : va_P G vwCl (Dk cI cZ h a F nq no np sh nw) H := hP
  have hD : va_D A (Dk cI cZ h a F nq no np sh nw) := hD
  obtain ⟨j, hj, rfl⟩ := pin_of hx9
  refine lv_aload_n hx hb dX0_ordersAgainst_5 rfl (lv_at hl 0 rfl) ?_
  refine lv_iload_n hx hb dX0_ordersAgainst_6 rfl (lv_at hl 2 rfl) ?_
  refine w_in_v (va_runV (As := [.int y]) (rest := []) ⟨hx, hb, hml, hown, hts⟩ (c_X0_requireQuarter l G cI cZ h a F nq no np sh nw H.size y (by omega) (hy9)) (cwV 1 hts gX0_ordersAgainst_X0_requireQuarter rfl rfl rfl (by decide +kernel) ⟨(Nat.le_of_ble_eq_true rfl), (Nat.le_of_ble_eq_true rfl)⟩) ⟨wPre_blind, va_recv hK hP (ci := 0) (q0 := 0) rfl rfl, w_pre hK hP hD⟩ rfl rfl hl.1 rfl (lv_room (Nat.le_of_ble_eq_true rfl)) dX0_ordersAgainst_7 ⟨(Nat.le_of_ble_eq_true rfl), (Nat.le_of_ble_eq_true rfl)⟩) hD hS hA (fun u7 H locs hw7 hP hD hS => ?_)
  have hP : va_P G vwCl (Dk cI cZ h a F nq no np sh nw) H := hP
  have hD : va_D A (Dk cI cZ h a F nq no np sh nw) := hD
  refine lv_iconst (v := 0) hx hb dX0_ordersAgainst_10 (by decide) ?_
  refine lv_istore_n (lv' := [(3, .int 0), (0, .ref h), (1, .int (nI j)), (2, .int y)]) hx hb dX0_ordersAgainst_11 rfl hl (by decide) rfl (fun ls hl => ?_)
  refine lv_iconst (v := 0) hx hb dX0_ordersAgainst_12 (by decide) ?_
  refine lv_istore (lv' := [(4, .int 0), (3, .int 0), (0, .ref h), (1, .int (nI j)), (2, .int y)]) hx hb dX0_ordersAgainst_13 hl (by decide) rfl (fun ls hl => ?_)
  have key15 : ∀ (n i15 : Nat), i15 ≤ no → no < i15 + n → ∀ (x3 : Int32) (x4 : Int32), x3 = nI (p_ct (fun o => p_bars F sh o j y nw) i15) → x4 = nI i15 → ∀ (H : Heap) (locs : List Loc), va_P G vwCl (Dk cI cZ h a F nq no np sh nw) H → va_D A (Dk cI cZ h a F nq no np sh nw) → va_S A s.heap H locs → ∀ ls : Array Slot, lv_has ls 5 [(0, .ref h), (1, .int (nI j)), (2, .int y), (3, .int x3), (4, .int x4)] → W pg l e ({ frames := 4, cells := 0, slots := 0, locals := 90 } : Room) s m ([.ref h, .int (nI j), .int y] : List Value).toArray below meth cd H locs (0 + 0 + 0) (0 + 0 + 0) (MQ below (va_Qi (fun (r : Int32) (_ : Unit) => r = nI (p_ag F sh no (nI j).toNatClampNeg y nw)) (fun _ => wP G (ty2 cI cZ) (Dk cI cZ h a F nq no np sh nw) A) A) ([.ref h, .int (nI j), .int y] : List Value).toArray s 0 0 A) (F0 m 15 ls []) := by
    intro n
    induction n with
    | zero => intro i15 h1 h2; exact absurd h2 (by omega)
    | succ n ih15 =>
      intro i15 hi_i15 hn_i15 x3 x4 e3 e4 H locs hP hD hS ls hl
      subst e3 e4
      refine lv_iload hx hb dX0_ordersAgainst_15 (lv_at hl 4 rfl) ?_
      refine lv_aload_n hx hb dX0_ordersAgainst_17 rfl (lv_at hl 0 rfl) ?_
      refine va_get (ci := 0) (v := .int (nI no)) (C := RX0) (T := TX0) (N := 16) hx hb hts hin hown hK hP 0 rfl rfl 12 (by decide) (hts (.fieldLink RX0 74 "CurfewDesk" "orderCount" "I") (by decide +kernel)) (fun _ h9 => h9) rfl dX0_ordersAgainst_18 ?_
      refine lv_icmp_ge (tgt := 48) hx hb dX0_ordersAgainst_21 (by decide) (fun c21 => ?_) (fun c21 => ?_)
      · have c21 := (nI_leI (a := no) (b := i15) (by omega) (by omega)).mp c21
        have ei : no = i15 := by omega
        subst ei
        refine lv_iload_n hx hb dX0_ordersAgainst_48 rfl (lv_at hl 3 rfl) ?_
        exact w_iret () hx hb hr hlocks hK hP hD hS (Nat.le_of_ble_eq_true rfl) (Nat.le_of_ble_eq_true rfl) dX0_ordersAgainst_49 (show (nI (p_ct (fun o => p_bars F sh o j y nw) no)) = nI (p_ag F sh no (nI j).toNatClampNeg y nw) from by first | exact ⟨by rw [hw2, hw7]; rfl, by simp only [nI_clamp (show j < 2 ^ 31 by omega)]; rfl⟩ | (simp only [nI_clamp (show j < 2 ^ 31 by omega)]; rfl))
      · have c21 := mt (nI_leI (a := no) (b := i15) (by omega) (by omega)).mpr c21
        have hlt_i15 : i15 < no := by omega
        refine lv_aload_n hx hb dX0_ordersAgainst_24 rfl (lv_at hl 0 rfl) ?_
        refine lv_iload hx hb dX0_ordersAgainst_25 (lv_at hl 4 rfl) ?_
        refine lv_iload_n hx hb dX0_ordersAgainst_27 rfl (lv_at hl 1 rfl) ?_
        refine lv_iload_n hx hb dX0_ordersAgainst_28 rfl (lv_at hl 2 rfl) ?_
        refine lv_aload_n hx hb dX0_ordersAgainst_29 rfl (lv_at hl 0 rfl) ?_
        refine va_get (ci := 0) (v := .int nw) (C := RX0) (T := TX0) (N := 16) hx hb hts hin hown hK hP 0 rfl rfl 15 (by decide) (hts (.fieldLink RX0 101 "CurfewDesk" "now" "I") (by decide +kernel)) (fun _ h9 => h9) rfl dX0_ordersAgainst_30 ?_
        refine w_in_i (va_runV (As := [.int (nI i15), .int (nI j), .int y, .int nw]) (rest := []) ⟨hx, hb, hml, hown, hts⟩ (c_X0_bars l G cI cZ h a F nq no np sh nw H.size i15 j y nw (by omega) (by omega)) (cwV 4 hts gX0_ordersAgainst_X0_bars rfl rfl rfl (by decide +kernel) ⟨(Nat.le_of_ble_eq_true rfl), (Nat.le_of_ble_eq_true rfl)⟩) ⟨wPre_blind, va_recv hK hP (ci := 0) (q0 := 0) rfl rfl, w_pre hK hP hD⟩ rfl rfl hl.1 rfl (lv_room (Nat.le_of_ble_eq_true rfl)) dX0_ordersAgainst_33 ⟨(Nat.le_of_ble_eq_true rfl), (Nat.le_of_ble_eq_true rfl)⟩) hD hS hA (fun r33 u33 H locs hw33 hP hD hS => ?_)
        have hP : va_P G vwCl (Dk cI cZ h a F nq no np sh nw) H := hP
        have hD : va_D A (Dk cI cZ h a F nq no np sh nw) := hD
        have hw33 : r33 = b2i (p_bars F sh i15 j y nw) := hw33
        subst hw33
        refine lv_if_eq (tgt := 42) hx hb dX0_ordersAgainst_36 (by decide) (fun c36 => ?_) (fun c36 => ?_)
        · have c36 := b2i_0.mp c36
          refine lv_iinc (v := nI i15 + 1) (lv' := [(4, .int (nI i15 + 1)), (0, .ref h), (1, .int (nI j)), (2, .int y), (3, .int (nI (p_ct (fun o => p_bars F sh o j y nw) i15)))]) hx hb dX0_ordersAgainst_42 hl (k := 4) rfl rfl (by decide) rfl (fun ls hl => ?_)
          refine lv_goto (tgt := 15) hx hb dX0_ordersAgainst_45 (by decide) ?_
          exact ih15 (i15 + 1) (by omega) (by omega) (nI (p_ct (fun o => p_bars F sh o j y nw) i15)) (nI i15 + 1) (by first | exact nI_1 _ | exact nct_t (by assumption) | exact nct_f (by assumption) | exact nct_b | rfl) (by first | exact nI_1 _ | exact nct_t (by assumption) | exact nct_f (by assumption) | exact nct_b | rfl) _ _ hP hD hS _ (lv_sub hl [1, 2, 3, 4, 0] rfl)
        · have c36 := b2i_1.mp c36
          refine lv_iinc (v := nI (p_ct (fun o => p_bars F sh o j y nw) i15) + 1) (lv' := [(3, .int (nI (p_ct (fun o => p_bars F sh o j y nw) i15) + 1)), (0, .ref h), (1, .int (nI j)), (2, .int y), (4, .int (nI i15))]) hx hb dX0_ordersAgainst_39 hl (k := 3) rfl rfl (by decide) rfl (fun ls hl => ?_)
          refine lv_iinc (v := nI i15 + 1) (lv' := [(4, .int (nI i15 + 1)), (3, .int (nI (p_ct (fun o => p_bars F sh o j y nw) i15) + 1)), (0, .ref h), (1, .int (nI j)), (2, .int y)]) hx hb dX0_ordersAgainst_42 hl (k := 4) rfl rfl (by decide) rfl (fun ls hl => ?_)
          refine lv_goto (tgt := 15) hx hb dX0_ordersAgainst_45 (by decide) ?_
          exact ih15 (i15 + 1) (by omega) (by omega) (nI (p_ct (fun o => p_bars F sh o j y nw) i15) + 1) (nI i15 + 1) (by first | exact nI_1 _ | exact nct_t (by assumption) | exact nct_f (by assumption) | exact nct_b | rfl) (by first | exact nI_1 _ | exact nct_t (by assumption) | exact nct_f (by assumption) | exact nct_b | rfl) _ _ hP hD hS _ (lv_sub hl [2, 3, 4, 1, 0] rfl)
  exact key15 (no + 1) 0 (by omega) (by omega) 0 0 (by first | rfl | simp [p_ct, p_sm, p_fl, p_fg, nI_0]) (by first | rfl | simp [p_ct, p_sm, p_fl, p_fg, nI_0]) _ _ hP hD hS _ (lv_sub hl [2, 3, 4, 1, 0] rfl)
set_option maxHeartbeats 4000000 in
set_option maxRecDepth 100000 in
theorem c_X0_bestLift (l : Launch) (G : va_G) (cI cZ : ClassId) (h : Nat) (a : Nat → Nat) (F : Nat → Nat → Int32) (nq no np : Nat) (sh nw : Int32) (sz : Nat) (hno : no ≤ 10) (hnp : np ≤ 20) : Met l yX0_bestLift wsX0_bestLift ({ frames := 6, cells := 0, slots := 0, locals := 141 } : Room) (va_Pc [.ref h] (wPre G (ty2 cI cZ) (Dk cI cZ h a F nq no np sh nw) sz)) (va_Qi (fun (r : Int32) (_ : Unit) => r = (p_bl (p_bf F sh nw no np) no).1) (fun _ => wP G (ty2 cI cZ) (Dk cI cZ h a F nq no np sh nw) (va_A (Dk cI cZ h a F nq no np sh nw) sz)) (va_A (Dk cI cZ h a F nq no np sh nw) sz)) 0 0 (va_A (Dk cI cZ h a F nq no np sh nw) sz) := by
  refine w_met (cc := cX0_bestLift) (maxL := 5) (ret := (some .int)) (by decide) rfl (Nat.le_of_ble_eq_true rfl) ?_
  intro pg e s m below meth cd hx hb hml hr hts hown hlocks hnm hK hsz hP hD hA hS ls hl
  have hown : s.vm.findClass RX0 = some m.cls := hown
  have hin : ∀ w ∈ wsX00, w ∈ wsX0_bestLift := by decide +kernel
  have hl : lv_has ls 5 [(0, .ref h)] := hl
  generalize hAe : va_A (Dk cI cZ h a F nq no np sh nw) sz = A at hD hA hS ⊢
  refine lv_iconst (v := (-1)) hx hb dX0_bestLift_0 (by decide) ?_
  refine lv_istore_n (lv' := [(1, .int (-1)), (0, .ref h)]) hx hb dX0_bestLift_1 rfl hl (by decide) rfl (fun ls hl => ?_)
  refine lv_iconst (v := 0) hx hb dX0_bestLift_2 (by decide) ?_
  refine lv_istore_n (lv' := [(2, .int 0), (1, .int (-1)), (0, .ref h)]) hx hb dX0_bestLift_3 rfl hl (by decide) rfl (fun ls hl => ?_)
  refine lv_iconst (v := 0) hx hb dX0_bestLift_4 (by decide) ?_
  refine lv_istore_n (lv' := [(3, .int 0), (2, .int 0), (1, .int (-1)), (0, .ref h)]) hx hb dX0_bestLift_5 rfl hl (by decide) rfl (fun ls hl => ?_)
  have key6 : ∀ (n i6 : Nat), i6 ≤ no → no < i6 + n → ∀ (x1 : Int32) (x2 : Int32) (x3 : Int32), x1 = (p_bl (p_bf F sh nw no np) i6).1 → x2 = nI (p_bl (p_bf F sh nw no np) i6).2 → x3 = nI i6 → ∀ (H : Heap) (locs : List Loc), va_P G vwCl (Dk cI cZ h a F nq no np sh nw) H → va_D A (Dk cI cZ h a F nq no np sh nw) → va_S A s.heap H locs → ∀ ls : Array Slot, lv_has ls 5 [(0, .ref h), (1, .int x1), (2, .int x2), (3, .int x3)] → W pg l e ({ frames := 6, cells := 0, slots := 0, locals := 141 } : Room) s m ([.ref h] : List Value).toArray below meth cd H locs (0) (0) (MQ below (va_Qi (fun (r : Int32) (_ : Unit) => r = (p_bl (p_bf F sh nw no np) no).1) (fun _ => wP G (ty2 cI cZ) (Dk cI cZ h a F nq no np sh nw) A) A) ([.ref h] : List Value).toArray s 0 0 A) (F0 m 6 ls []) := by
    intro n
    induction n with
    | zero => intro i6 h1 h2; exact absurd h2 (by omega)
    | succ n ih6 =>
      intro i6 hi_i6 hn_i6 x1 x2 x3 e1 e2 e3 H locs hP hD hS ls hl
      subst e1 e2 e3
      have hb2 := bl_le (f := p_bf F sh nw no np) (b := np) (fun o => ct_le _ _) i6
      have hb1 : p_bf F sh nw no np i6 ≤ np := ct_le _ _
      refine lv_iload_n hx hb dX0_bestLift_6 rfl (lv_at hl 3 rfl) ?_
      refine lv_aload_n hx hb dX0_bestLift_7 rfl (lv_at hl 0 rfl) ?_
      refine va_get (ci := 0) (v := .int (nI no)) (C := RX0) (T := TX0) (N := 16) hx hb hts hin hown hK hP 0 rfl rfl 12 (by decide) (hts (.fieldLink RX0 74 "CurfewDesk" "orderCount" "I") (by decide +kernel)) (fun _ h9 => h9) rfl dX0_bestLift_8 ?_
      refine lv_icmp_ge (tgt := 38) hx hb dX0_bestLift_11 (by decide) (fun c11 => ?_) (fun c11 => ?_)
      · have c11 := (nI_leI (a := no) (b := i6) (by omega) (by omega)).mp c11
        have ei : no = i6 := by omega
        subst ei
        refine lv_iload_n hx hb dX0_bestLift_38 rfl (lv_at hl 1 rfl) ?_
        exact w_iret () hx hb hr hlocks hK hP hD hS (Nat.le_of_ble_eq_true rfl) (Nat.le_of_ble_eq_true rfl) dX0_bestLift_39 (show ((p_bl (p_bf F sh nw no np) no).1) = (p_bl (p_bf F sh nw no np) no).1 from by rfl)
      · have c11 := mt (nI_leI (a := no) (b := i6) (by omega) (by omega)).mpr c11
        have hlt_i6 : i6 < no := by omega
        refine lv_aload_n hx hb dX0_bestLift_14 rfl (lv_at hl 0 rfl) ?_
        refine lv_iload_n hx hb dX0_bestLift_15 rfl (lv_at hl 3 rfl) ?_
        refine w_in_i (va_runV (As := [.int (nI i6)]) (rest := []) ⟨hx, hb, hml, hown, hts⟩ (c_X0_pairsFreedBy l G cI cZ h a F nq no np sh nw H.size i6 (by omega) (by omega) (by omega)) (cwV 1 hts gX0_bestLift_X0_pairsFreedBy rfl rfl rfl (by decide +kernel) ⟨(Nat.le_of_ble_eq_true rfl), (Nat.le_of_ble_eq_true rfl)⟩) ⟨wPre_blind, va_recv hK hP (ci := 0) (q0 := 0) rfl rfl, w_pre hK hP hD⟩ rfl rfl hl.1 rfl (lv_room (Nat.le_of_ble_eq_true rfl)) dX0_bestLift_16 ⟨(Nat.le_of_ble_eq_true rfl), (Nat.le_of_ble_eq_true rfl)⟩) hD hS hA (fun r16 u16 H locs hw16 hP hD hS => ?_)
        have hP : va_P G vwCl (Dk cI cZ h a F nq no np sh nw) H := hP
        have hD : va_D A (Dk cI cZ h a F nq no np sh nw) := hD
        have hw16 : r16 = nI (p_ct (p_fr F sh no nw i6) np) := hw16
        subst hw16
        refine lv_istore (lv' := [(4, .int (nI (p_ct (p_fr F sh no nw i6) np))), (0, .ref h), (1, .int ((p_bl (p_bf F sh nw no np) i6).1)), (2, .int (nI (p_bl (p_bf F sh nw no np) i6).2)), (3, .int (nI i6))]) hx hb dX0_bestLift_19 hl (by decide) rfl (fun ls hl => ?_)
        refine lv_iload hx hb dX0_bestLift_21 (lv_at hl 0 rfl) ?_
        refine lv_iload_n hx hb dX0_bestLift_23 rfl (lv_at hl 3 rfl) ?_
        refine lv_icmp_le (tgt := 32) hx hb dX0_bestLift_24 (by decide) (fun c24 => ?_) (fun c24 => ?_)
        · have c24 : p_bf F sh nw no np i6 ≤ (p_bl (p_bf F sh nw no np) i6).2 := (nI_leI (by have := hb1; rw [p_bf] at this; omega) (by omega)).mp c24
          refine lv_iinc (v := nI i6 + 1) (lv' := [(3, .int (nI i6 + 1)), (4, .int (nI (p_ct (p_fr F sh no nw i6) np))), (0, .ref h), (1, .int ((p_bl (p_bf F sh nw no np) i6).1)), (2, .int (nI (p_bl (p_bf F sh nw no np) i6).2))]) hx hb dX0_bestLift_32 hl (k := 4) rfl rfl (by decide) rfl (fun ls hl => ?_)
          refine lv_goto (tgt := 6) hx hb dX0_bestLift_35 (by decide) ?_
          exact ih6 (i6 + 1) (by omega) (by omega) ((p_bl (p_bf F sh nw no np) i6).1) (nI (p_bl (p_bf F sh nw no np) i6).2) (nI i6 + 1) (by first | rw [bl_t (by omega)] | rw [bl_f (by omega)]) (by first | (rw [bl_t (by omega)]; rfl) | rw [bl_f (by omega)]) (by first | exact nI_1 _ | exact nct_t (by assumption) | exact nct_f (by assumption) | exact nct_b | rfl) _ _ hP hD hS _ (lv_sub hl [2, 3, 4, 0] rfl)
        · have c24 : ¬ p_bf F sh nw no np i6 ≤ (p_bl (p_bf F sh nw no np) i6).2 := mt (nI_leI (by have := hb1; rw [p_bf] at this; omega) (by omega)).mpr c24
          refine lv_iload hx hb dX0_bestLift_27 (lv_at hl 0 rfl) ?_
          refine lv_istore_n (lv' := [(2, .int (nI (p_ct (p_fr F sh no nw i6) np))), (4, .int (nI (p_ct (p_fr F sh no nw i6) np))), (0, .ref h), (1, .int ((p_bl (p_bf F sh nw no np) i6).1)), (3, .int (nI i6))]) hx hb dX0_bestLift_29 rfl hl (by decide) rfl (fun ls hl => ?_)
          refine lv_iload_n hx hb dX0_bestLift_30 rfl (lv_at hl 4 rfl) ?_
          refine lv_istore_n (lv' := [(1, .int (nI i6)), (2, .int (nI (p_ct (p_fr F sh no nw i6) np))), (4, .int (nI (p_ct (p_fr F sh no nw i6) np))), (0, .ref h), (3, .int (nI i6))]) hx hb dX0_bestLift_31 rfl hl (by decide) rfl (fun ls hl => ?_)
          refine lv_iinc (v := nI i6 + 1) (lv' := [(3, .int (nI i6 + 1)), (1, .int (nI i6)), (2, .int (nI (p_ct (p_fr F sh no nw i6) np))), (4, .int (nI (p_ct (p_fr F sh no nw i6) np))), (0, .ref h)]) hx hb dX0_bestLift_32 hl (k := 4) rfl rfl (by decide) rfl (fun ls hl => ?_)
          refine lv_goto (tgt := 6) hx hb dX0_bestLift_35 (by decide) ?_
          exact ih6 (i6 + 1) (by omega) (by omega) (nI i6) (nI (p_ct (p_fr F sh no nw i6) np)) (nI i6 + 1) (by first | rw [bl_t (by omega)] | rw [bl_f (by omega)]) (by first | (rw [bl_t (by omega)]; rfl) | rw [bl_f (by omega)]) (by first | exact nI_1 _ | exact nct_t (by assumption) | exact nct_f (by assumption) | exact nct_b | rfl) _ _ hP hD hS _ (lv_sub hl [4, 1, 2, 0] rfl)
  exact key6 (no + 1) 0 (by omega) (by omega) (-1) 0 0 (by first | rfl | simp [p_ct, p_sm, p_fl, p_fg, nI_0]) (by first | rfl | simp [p_ct, p_sm, p_fl, p_fg, nI_0]) (by first | rfl | simp [p_ct, p_sm, p_fl, p_fg, nI_0]) _ _ hP hD hS _ (lv_sub hl [3, 2, 1, 0] rfl)
set_option maxHeartbeats 4000000 in
set_option maxRecDepth 100000 in
theorem c_X0_meanDebt (l : Launch) (G : va_G) (cI cZ : ClassId) (h : Nat) (a : Nat → Nat) (F : Nat → Nat → Int32) (nq no np : Nat) (sh nw : Int32) (sz : Nat) (hnp : np ≤ 20) : Met l yX0_meanDebt wsX0_meanDebt ({ frames := 1, cells := 0, slots := 0, locals := 22 } : Room) (va_Pc [.ref h] (wPre G (ty2 cI cZ) (Dk cI cZ h a F nq no np sh nw) sz)) (va_Qd (fun (r : UInt64) (_ : Unit) => r = a_me F np) (fun _ => wP G (ty2 cI cZ) (Dk cI cZ h a F nq no np sh nw) (va_A (Dk cI cZ h a F nq no np sh nw) sz)) (va_A (Dk cI cZ h a F nq no np sh nw) sz)) 0 0 (va_A (Dk cI cZ h a F nq no np sh nw) sz) := by
  refine w_met (cc := cX0_meanDebt) (maxL := 1) (ret := (some .double)) (by decide) rfl (Nat.le_of_ble_eq_true rfl) ?_
  intro pg e s m below meth cd hx hb hml hr hts hown hlocks hnm hK hsz hP hD hA hS ls hl
  have hown : s.vm.findClass RX0 = some m.cls := hown
  have hin : ∀ w ∈ wsX00, w ∈ wsX0_meanDebt := by decide +kernel
  have hl : lv_has ls 1 [(0, .ref h)] := hl
  generalize hAe : va_A (Dk cI cZ h a F nq no np sh nw) sz = A at hD hA hS ⊢
  refine lv_aload_n hx hb dX0_meanDebt_0 rfl (lv_at hl 0 rfl) ?_
  refine va_get (ci := 0) (v := .int (nI np)) (C := RX0) (T := TX0) (N := 16) hx hb hts hin hown hK hP 0 rfl rfl 13 (by decide) (hts (.fieldLink RX0 59 "CurfewDesk" "personCount" "I") (by decide +kernel)) (fun _ h9 => h9) rfl dX0_meanDebt_1 ?_
  refine lv_if_ne (tgt := 9) hx hb dX0_meanDebt_4 (by decide) (fun c4 => ?_) (fun c4 => ?_)
  · refine lv_aload_n hx hb dX0_meanDebt_9 rfl (lv_at hl 0 rfl) ?_
    refine w_in_i (va_runV (As := []) (rest := []) ⟨hx, hb, hml, hown, hts⟩ (c_X0_allOwe l G cI cZ h a F nq no np sh nw s.heap.size (by omega)) (cwV 0 hts gX0_meanDebt_X0_allOwe rfl rfl rfl (by decide +kernel) ⟨(Nat.le_of_ble_eq_true rfl), (Nat.le_of_ble_eq_true rfl)⟩) ⟨wPre_blind, va_recv hK hP (ci := 0) (q0 := 0) rfl rfl, w_pre hK hP hD⟩ rfl rfl hl.1 rfl (lv_room (Nat.le_of_ble_eq_true rfl)) dX0_meanDebt_10 ⟨(Nat.le_of_ble_eq_true rfl), (Nat.le_of_ble_eq_true rfl)⟩) hD hS hA (fun r10 u10 H locs hw10 hP hD hS => ?_)
    have hP : va_P G vwCl (Dk cI cZ h a F nq no np sh nw) H := hP
    have hD : va_D A (Dk cI cZ h a F nq no np sh nw) := hD
    have hw10 : r10 = p_sm (F 8) np := hw10
    subst hw10
    refine lv_i2d hx hb dX0_meanDebt_13 ?_
    refine lv_aload_n hx hb dX0_meanDebt_14 rfl (lv_at hl 0 rfl) ?_
    refine va_get (ci := 0) (v := .int (nI np)) (C := RX0) (T := TX0) (N := 16) hx hb hts hin hown hK hP 0 rfl rfl 13 (by decide) (hts (.fieldLink RX0 59 "CurfewDesk" "personCount" "I") (by decide +kernel)) (fun _ h9 => h9) rfl dX0_meanDebt_15 ?_
    refine lv_i2d hx hb dX0_meanDebt_18 ?_
    refine lv_ddiv hx hb dX0_meanDebt_19 (nn_vf (nn_div _ c4)) ?_
    exact w_dret () hx hb hr hlocks hK hP hD hS (Nat.le_of_ble_eq_true rfl) (Nat.le_of_ble_eq_true rfl) dX0_meanDebt_20 (show (FP.ddiv (FP.i2d (p_sm (F 8) np)) (FP.i2d (nI np))) = a_me F np from by rw [a_me, if_neg (mt (nI_eq (a := np) (b := 0) (by omega) (by omega)).mpr c4)])
  · refine lv_dconst0 hx hb dX0_meanDebt_7 ?_
    exact w_dret () hx hb hr hlocks hK hP hD hS (Nat.le_of_ble_eq_true rfl) (Nat.le_of_ble_eq_true rfl) dX0_meanDebt_8 (show FP.dconst0 = a_me F np from by rw [a_me, if_pos ((nI_eq (a := np) (b := 0) (by omega) (by omega)).mp c4)])
set_option maxHeartbeats 4000000 in
set_option maxRecDepth 100000 in
theorem c_X0_foldOrder (l : Launch) (G : va_G) (cI cZ : ClassId) (h : Nat) (a : Nat → Nat) (F : Nat → Nat → Int32) (nq no np : Nat) (sh nw : Int32) (sz : Nat) (d : Int64) (o : Nat) (hon : o < no) (hno : no ≤ 10) (hnp : np ≤ 20) : Met l yX0_foldOrder wsX0_foldOrder ({ frames := 5, cells := 0, slots := 0, locals := 113 } : Room) (va_Pc [.ref h, .long d, .int (nI o)] (wPre G (ty2 cI cZ) (Dk cI cZ h a F nq no np sh nw) sz)) (va_Ql (fun (r : Int64) (_ : Unit) => r = p_fo F sh np nw o d) (fun _ => wP G (ty2 cI cZ) (Dk cI cZ h a F nq no np sh nw) (va_A (Dk cI cZ h a F nq no np sh nw) sz)) (va_A (Dk cI cZ h a F nq no np sh nw) sz)) 0 0 (va_A (Dk cI cZ h a F nq no np sh nw) sz) := by
  refine w_met (cc := cX0_foldOrder) (maxL := 7) (ret := (some .long)) (by decide) rfl (Nat.le_of_ble_eq_true rfl) ?_
  intro pg e s m below meth cd hx hb hml hr hts hown hlocks hnm hK hsz hP hD hA hS ls hl
  have hown : s.vm.findClass RX0 = some m.cls := hown
  have hin : ∀ w ∈ wsX00, w ∈ wsX0_foldOrder := by decide +kernel
  have hl : lv_has ls 7 [(0, .ref h), (1, .long d), (3, .int (nI o))] := hl
  generalize hAe : va_A (Dk cI cZ h a F nq no np sh nw) sz = A at hD hA hS ⊢
  refine lv_lload_n hx hb dX0_foldOrder_0 rfl (lv_at hl 1 rfl) ?_
  refine lv_lstore (lv' := [(4, .long d), (0, .ref h), (1, .long d), (3, .int (nI o))]) hx hb dX0_foldOrder_1 hl (by decide) rfl (fun ls hl => ?_)
  refine lv_lload hx hb dX0_foldOrder_3 (lv_at hl 0 rfl) ?_
  refine lv_aload_n hx hb dX0_foldOrder_5 rfl (lv_at hl 1 rfl) ?_
  refine va_get (ci := 0) (v := .ref (a 0)) (C := RX0) (T := TX0) (N := 16) hx hb hts hin hown hK hP 0 rfl rfl 0 (by decide) (hts (.fieldLink RX0 9 "CurfewDesk" "orderQuarter" "[I") (by decide +kernel)) (fun _ h9 => h9) rfl dX0_foldOrder_6 ?_
  refine lv_iload_n hx hb dX0_foldOrder_9 rfl (lv_at hl 3 rfl) ?_
  refine w_iald hx hb hK hP 1 0 rfl rfl (f := (F 0)) (j := o) (by omega) (by omega) dX0_foldOrder_10 ?_
  refine w_st_l (va_runS (As := [.long d, .int ((F 0) o)]) (rest := []) ⟨hx, hb, hml, hown, hts⟩ (c_X0_fold l G s.heap.size d ((F 0) o) ) (va_cwS 2 hts gX0_foldOrder_X0_fold rfl rfl rfl (by decide +kernel) ⟨(Nat.le_of_ble_eq_true rfl), (Nat.le_of_ble_eq_true rfl)⟩) ⟨wPre_blind, w_pre (hK.sub [] rfl) w_P0 (w_D0 (A := A))⟩ rfl rfl hl.1 rfl (lv_room (Nat.le_of_ble_eq_true rfl)) dX0_foldOrder_11 ⟨(Nat.le_of_ble_eq_true rfl), (Nat.le_of_ble_eq_true rfl)⟩) hP hS hA (fun r11 u11 H locs hw11 hP hS => ?_)
  have hw11 : r11 = p_fold d ((F 0) o) := hw11
  subst hw11
  refine lv_lstore (lv' := [(4, .long (p_fold d ((F 0) o))), (0, .ref h), (1, .long d), (3, .int (nI o))]) hx hb dX0_foldOrder_14 hl (by decide) rfl (fun ls hl => ?_)
  refine lv_lload hx hb dX0_foldOrder_16 (lv_at hl 0 rfl) ?_
  refine lv_aload_n hx hb dX0_foldOrder_18 rfl (lv_at hl 1 rfl) ?_
  refine va_get (ci := 0) (v := .ref (a 3)) (C := RX0) (T := TX0) (N := 16) hx hb hts hin hown hK hP 0 rfl rfl 3 (by decide) (hts (.fieldLink RX0 19 "CurfewDesk" "orderColour" "[I") (by decide +kernel)) (fun _ h9 => h9) rfl dX0_foldOrder_19 ?_
  refine lv_iload_n hx hb dX0_foldOrder_22 rfl (lv_at hl 3 rfl) ?_
  refine w_iald hx hb hK hP 4 0 rfl rfl (f := (F 3)) (j := o) (by omega) (by omega) dX0_foldOrder_23 ?_
  refine w_st_l (va_runS (As := [.long (p_fold d ((F 0) o)), .int ((F 3) o)]) (rest := []) ⟨hx, hb, hml, hown, hts⟩ (c_X0_fold l G H.size (p_fold d ((F 0) o)) ((F 3) o) ) (va_cwS 2 hts gX0_foldOrder_X0_fold rfl rfl rfl (by decide +kernel) ⟨(Nat.le_of_ble_eq_true rfl), (Nat.le_of_ble_eq_true rfl)⟩) ⟨wPre_blind, w_pre (hK.sub [] rfl) w_P0 (w_D0 (A := A))⟩ rfl rfl hl.1 rfl (lv_room (Nat.le_of_ble_eq_true rfl)) dX0_foldOrder_24 ⟨(Nat.le_of_ble_eq_true rfl), (Nat.le_of_ble_eq_true rfl)⟩) hP hS hA (fun r24 u24 H locs hw24 hP hS => ?_)
  have hw24 : r24 = p_fold (p_fold d ((F 0) o)) ((F 3) o) := hw24
  subst hw24
  refine lv_lstore (lv' := [(4, .long (p_fold (p_fold d ((F 0) o)) ((F 3) o))), (0, .ref h), (1, .long d), (3, .int (nI o))]) hx hb dX0_foldOrder_27 hl (by decide) rfl (fun ls hl => ?_)
  refine lv_lload hx hb dX0_foldOrder_29 (lv_at hl 0 rfl) ?_
  refine lv_aload_n hx hb dX0_foldOrder_31 rfl (lv_at hl 1 rfl) ?_
  refine va_get (ci := 0) (v := .ref (a 4)) (C := RX0) (T := TX0) (N := 16) hx hb hts hin hown hK hP 0 rfl rfl 4 (by decide) (hts (.fieldLink RX0 22 "CurfewDesk" "orderInForce" "[Z") (by decide +kernel)) (fun _ h9 => h9) rfl dX0_foldOrder_32 ?_
  refine lv_iload_n hx hb dX0_foldOrder_35 rfl (lv_at hl 3 rfl) ?_
  refine w_zald hx hb hK hP 5 1 rfl rfl (f := (F 4)) (j := o) (by omega) (by omega) dX0_foldOrder_36 ?_
  refine w_st_i (va_runS (As := [.int ((F 4) o)]) (rest := [.long (p_fold (p_fold d ((F 0) o)) ((F 3) o))]) ⟨hx, hb, hml, hown, hts⟩ (c_X0_oneIf l G H.size ((F 4) o) ) (va_cwS 1 hts gX0_foldOrder_X0_oneIf rfl rfl rfl (by decide +kernel) ⟨(Nat.le_of_ble_eq_true rfl), (Nat.le_of_ble_eq_true rfl)⟩) ⟨wPre_blind, w_pre (hK.sub [] rfl) w_P0 (w_D0 (A := A))⟩ rfl rfl hl.1 rfl (lv_room (Nat.le_of_ble_eq_true rfl)) dX0_foldOrder_37 ⟨(Nat.le_of_ble_eq_true rfl), (Nat.le_of_ble_eq_true rfl)⟩) hP hS hA (fun r37 u37 H locs hw37 hP hS => ?_)
  have hw37 : r37 = b2i (!decide (((F 4) o) = 0)) := hw37
  subst hw37
  refine w_st_l (va_runS (As := [.long (p_fold (p_fold d ((F 0) o)) ((F 3) o)), .int (b2i (!decide (((F 4) o) = 0)))]) (rest := []) ⟨hx, hb, hml, hown, hts⟩ (c_X0_fold l G H.size (p_fold (p_fold d ((F 0) o)) ((F 3) o)) (b2i (!decide (((F 4) o) = 0))) ) (va_cwS 2 hts gX0_foldOrder_X0_fold rfl rfl rfl (by decide +kernel) ⟨(Nat.le_of_ble_eq_true rfl), (Nat.le_of_ble_eq_true rfl)⟩) ⟨wPre_blind, w_pre (hK.sub [] rfl) w_P0 (w_D0 (A := A))⟩ rfl rfl hl.1 rfl (lv_room (Nat.le_of_ble_eq_true rfl)) dX0_foldOrder_40 ⟨(Nat.le_of_ble_eq_true rfl), (Nat.le_of_ble_eq_true rfl)⟩) hP hS hA (fun r40 u40 H locs hw40 hP hS => ?_)
  have hw40 : r40 = p_fold (p_fold (p_fold d ((F 0) o)) ((F 3) o)) (b2i (!decide (((F 4) o) = 0))) := hw40
  subst hw40
  refine lv_lstore (lv' := [(4, .long (p_fold (p_fold (p_fold d ((F 0) o)) ((F 3) o)) (b2i (!decide (((F 4) o) = 0))))), (0, .ref h), (1, .long d), (3, .int (nI o))]) hx hb dX0_foldOrder_43 hl (by decide) rfl (fun ls hl => ?_)
  refine lv_lload hx hb dX0_foldOrder_45 (lv_at hl 0 rfl) ?_
  refine lv_aload_n hx hb dX0_foldOrder_47 rfl (lv_at hl 1 rfl) ?_
  refine lv_iload_n hx hb dX0_foldOrder_48 rfl (lv_at hl 3 rfl) ?_
  refine lv_aload_n hx hb dX0_foldOrder_49 rfl (lv_at hl 1 rfl) ?_
  refine va_get (ci := 0) (v := .int nw) (C := RX0) (T := TX0) (N := 16) hx hb hts hin hown hK hP 0 rfl rfl 15 (by decide) (hts (.fieldLink RX0 101 "CurfewDesk" "now" "I") (by decide +kernel)) (fun _ h9 => h9) rfl dX0_foldOrder_50 ?_
  refine w_in_i (va_runV (As := [.int (nI o), .int nw]) (rest := [.long (p_fold (p_fold (p_fold d ((F 0) o)) ((F 3) o)) (b2i (!decide (((F 4) o) = 0))))]) ⟨hx, hb, hml, hown, hts⟩ (c_X0_isOnAt l G cI cZ h a F nq no np sh nw H.size o nw (by omega)) (cwV 2 hts gX0_foldOrder_X0_isOnAt rfl rfl rfl (by decide +kernel) ⟨(Nat.le_of_ble_eq_true rfl), (Nat.le_of_ble_eq_true rfl)⟩) ⟨wPre_blind, va_recv hK hP (ci := 0) (q0 := 0) rfl rfl, w_pre hK hP hD⟩ rfl rfl hl.1 rfl (lv_room (Nat.le_of_ble_eq_true rfl)) dX0_foldOrder_53 ⟨(Nat.le_of_ble_eq_true rfl), (Nat.le_of_ble_eq_true rfl)⟩) hD hS hA (fun r53 u53 H locs hw53 hP hD hS => ?_)
  have hP : va_P G vwCl (Dk cI cZ h a F nq no np sh nw) H := hP
  have hD : va_D A (Dk cI cZ h a F nq no np sh nw) := hD
  have hw53 : r53 = b2i (p_on F sh o nw) := hw53
  subst hw53
  refine w_st_i (va_runS (As := [.int (b2i (p_on F sh o nw))]) (rest := [.long (p_fold (p_fold (p_fold d ((F 0) o)) ((F 3) o)) (b2i (!decide (((F 4) o) = 0))))]) ⟨hx, hb, hml, hown, hts⟩ (c_X0_oneIf l G H.size (b2i (p_on F sh o nw)) ) (va_cwS 1 hts gX0_foldOrder_X0_oneIf rfl rfl rfl (by decide +kernel) ⟨(Nat.le_of_ble_eq_true rfl), (Nat.le_of_ble_eq_true rfl)⟩) ⟨wPre_blind, w_pre (hK.sub [] rfl) w_P0 (w_D0 (A := A))⟩ rfl rfl hl.1 rfl (lv_room (Nat.le_of_ble_eq_true rfl)) dX0_foldOrder_56 ⟨(Nat.le_of_ble_eq_true rfl), (Nat.le_of_ble_eq_true rfl)⟩) hP hS hA (fun r56 u56 H locs hw56 hP hS => ?_)
  have hw56 : r56 = b2i (!decide ((b2i (p_on F sh o nw)) = 0)) := hw56
  subst hw56
  rw [b2i_o]
  refine w_st_l (va_runS (As := [.long (p_fold (p_fold (p_fold d ((F 0) o)) ((F 3) o)) (b2i (!decide (((F 4) o) = 0)))), .int (b2i (p_on F sh o nw))]) (rest := []) ⟨hx, hb, hml, hown, hts⟩ (c_X0_fold l G H.size (p_fold (p_fold (p_fold d ((F 0) o)) ((F 3) o)) (b2i (!decide (((F 4) o) = 0)))) (b2i (p_on F sh o nw)) ) (va_cwS 2 hts gX0_foldOrder_X0_fold rfl rfl rfl (by decide +kernel) ⟨(Nat.le_of_ble_eq_true rfl), (Nat.le_of_ble_eq_true rfl)⟩) ⟨wPre_blind, w_pre (hK.sub [] rfl) w_P0 (w_D0 (A := A))⟩ rfl rfl hl.1 rfl (lv_room (Nat.le_of_ble_eq_true rfl)) dX0_foldOrder_59 ⟨(Nat.le_of_ble_eq_true rfl), (Nat.le_of_ble_eq_true rfl)⟩) hP hS hA (fun r59 u59 H locs hw59 hP hS => ?_)
  have hw59 : r59 = p_fold (p_fold (p_fold (p_fold d ((F 0) o)) ((F 3) o)) (b2i (!decide (((F 4) o) = 0)))) (b2i (p_on F sh o nw)) := hw59
  subst hw59
  refine lv_lstore (lv' := [(4, .long (p_fold (p_fold (p_fold (p_fold d ((F 0) o)) ((F 3) o)) (b2i (!decide (((F 4) o) = 0)))) (b2i (p_on F sh o nw)))), (0, .ref h), (1, .long d), (3, .int (nI o))]) hx hb dX0_foldOrder_62 hl (by decide) rfl (fun ls hl => ?_)
  refine lv_lload hx hb dX0_foldOrder_64 (lv_at hl 0 rfl) ?_
  refine lv_aload_n hx hb dX0_foldOrder_66 rfl (lv_at hl 1 rfl) ?_
  refine lv_iload_n hx hb dX0_foldOrder_67 rfl (lv_at hl 3 rfl) ?_
  refine w_in_i (va_runV (As := [.int (nI o)]) (rest := [.long (p_fold (p_fold (p_fold (p_fold d ((F 0) o)) ((F 3) o)) (b2i (!decide (((F 4) o) = 0)))) (b2i (p_on F sh o nw)))]) ⟨hx, hb, hml, hown, hts⟩ (c_X0_barredBy l G cI cZ h a F nq no np sh nw H.size (nI o) (by omega) (by omega) (pin_nI hon (by omega))) (cwV 1 hts gX0_foldOrder_X0_barredBy rfl rfl rfl (by decide +kernel) ⟨(Nat.le_of_ble_eq_true rfl), (Nat.le_of_ble_eq_true rfl)⟩) ⟨wPre_blind, va_recv hK hP (ci := 0) (q0 := 0) rfl rfl, w_pre hK hP hD⟩ rfl rfl hl.1 rfl (lv_room (Nat.le_of_ble_eq_true rfl)) dX0_foldOrder_68 ⟨(Nat.le_of_ble_eq_true rfl), (Nat.le_of_ble_eq_true rfl)⟩) hD hS hA (fun r68 u68 H locs hw68 hP hD hS => ?_)
  have hP : va_P G vwCl (Dk cI cZ h a F nq no np sh nw) H := hP
  have hD : va_D A (Dk cI cZ h a F nq no np sh nw) := hD
  have hw68 := (show r68 = nI (p_bd F sh np ((nI o).toNatClampNeg) nw) from hw68)
  rw [nI_clamp (n := o) (by omega)] at hw68
  have hw68 : r68 = nI (p_bd F sh np o nw) := hw68
  subst hw68
  refine w_st_l (va_runS (As := [.long (p_fold (p_fold (p_fold (p_fold d ((F 0) o)) ((F 3) o)) (b2i (!decide (((F 4) o) = 0)))) (b2i (p_on F sh o nw))), .int (nI (p_bd F sh np o nw))]) (rest := []) ⟨hx, hb, hml, hown, hts⟩ (c_X0_fold l G H.size (p_fold (p_fold (p_fold (p_fold d ((F 0) o)) ((F 3) o)) (b2i (!decide (((F 4) o) = 0)))) (b2i (p_on F sh o nw))) (nI (p_bd F sh np o nw)) ) (va_cwS 2 hts gX0_foldOrder_X0_fold rfl rfl rfl (by decide +kernel) ⟨(Nat.le_of_ble_eq_true rfl), (Nat.le_of_ble_eq_true rfl)⟩) ⟨wPre_blind, w_pre (hK.sub [] rfl) w_P0 (w_D0 (A := A))⟩ rfl rfl hl.1 rfl (lv_room (Nat.le_of_ble_eq_true rfl)) dX0_foldOrder_71 ⟨(Nat.le_of_ble_eq_true rfl), (Nat.le_of_ble_eq_true rfl)⟩) hP hS hA (fun r71 u71 H locs hw71 hP hS => ?_)
  have hw71 : r71 = p_fold (p_fold (p_fold (p_fold (p_fold d ((F 0) o)) ((F 3) o)) (b2i (!decide (((F 4) o) = 0)))) (b2i (p_on F sh o nw))) (nI (p_bd F sh np o nw)) := hw71
  subst hw71
  refine lv_lstore (lv' := [(4, .long (p_fold (p_fold (p_fold (p_fold (p_fold d ((F 0) o)) ((F 3) o)) (b2i (!decide (((F 4) o) = 0)))) (b2i (p_on F sh o nw))) (nI (p_bd F sh np o nw)))), (0, .ref h), (1, .long d), (3, .int (nI o))]) hx hb dX0_foldOrder_74 hl (by decide) rfl (fun ls hl => ?_)
  refine lv_iconst (v := 0) hx hb dX0_foldOrder_76 (by decide) ?_
  refine lv_istore (lv' := [(6, .int 0), (4, .long (p_fold (p_fold (p_fold (p_fold (p_fold d ((F 0) o)) ((F 3) o)) (b2i (!decide (((F 4) o) = 0)))) (b2i (p_on F sh o nw))) (nI (p_bd F sh np o nw)))), (0, .ref h), (1, .long d), (3, .int (nI o))]) hx hb dX0_foldOrder_77 hl (by decide) rfl (fun ls hl => ?_)
  have key79 : ∀ (n i79 : Nat), i79 ≤ 8 → 8 < i79 + n → ∀ (x4 : Int64) (x6 : Int32), x4 = p_fl (fun tr => b2i (p_ex F o (nI tr))) (p_fold (p_fold (p_fold (p_fold (p_fold d (F 0 o)) (F 3 o)) (b2i (!decide (F 4 o = 0)))) (b2i (p_on F sh o nw))) (nI (p_bd F sh np o nw))) i79 → x6 = nI i79 → ∀ (H : Heap) (locs : List Loc), va_P G vwCl (Dk cI cZ h a F nq no np sh nw) H → va_D A (Dk cI cZ h a F nq no np sh nw) → va_S A s.heap H locs → ∀ ls : Array Slot, lv_has ls 7 [(0, .ref h), (1, .long d), (3, .int (nI o)), (4, .long x4), (6, .int x6)] → W pg l e ({ frames := 5, cells := 0, slots := 0, locals := 113 } : Room) s m ([.ref h, .long d, .int (nI o)] : List Value).toArray below meth cd H locs (0 + 0 + 0 + 0 + 0 + 0 + 0 + 0 + 0 + 0) (0 + 0 + 0 + 0 + 0 + 0 + 0 + 0 + 0 + 0) (MQ below (va_Ql (fun (r : Int64) (_ : Unit) => r = p_fo F sh np nw o d) (fun _ => wP G (ty2 cI cZ) (Dk cI cZ h a F nq no np sh nw) A) A) ([.ref h, .long d, .int (nI o)] : List Value).toArray s 0 0 A) (F0 m 79 ls []) := by
    intro n
    induction n with
    | zero => intro i79 h1 h2; exact absurd h2 (by omega)
    | succ n ih79 =>
      intro i79 hi_i79 hn_i79 x4 x6 e4 e6 H locs hP hD hS ls hl
      subst e4 e6
      refine lv_iload hx hb dX0_foldOrder_79 (lv_at hl 4 rfl) ?_
      refine lv_bipush (v := 8) hx hb dX0_foldOrder_81 (by decide) ?_
      refine lv_icmp_ge (tgt := 109) hx hb dX0_foldOrder_83 (by decide) (fun c83 => ?_) (fun c83 => ?_)
      · have c83 := (nI_leI (a := 8) (b := i79) (by omega) (by omega)).mp c83
        have ei : 8 = i79 := by omega
        subst ei
        refine lv_lload hx hb dX0_foldOrder_109 (lv_at hl 3 rfl) ?_
        exact w_lret () hx hb hr hlocks hK hP hD hS (Nat.le_of_ble_eq_true rfl) (Nat.le_of_ble_eq_true rfl) dX0_foldOrder_111 (show (p_fl (fun tr => b2i (p_ex F o (nI tr))) (p_fold (p_fold (p_fold (p_fold (p_fold d (F 0 o)) (F 3 o)) (b2i (!decide (F 4 o = 0)))) (b2i (p_on F sh o nw))) (nI (p_bd F sh np o nw))) 8) = p_fo F sh np nw o d from by rfl)
      · have c83 := mt (nI_leI (a := 8) (b := i79) (by omega) (by omega)).mpr c83
        have hlt_i79 : i79 < 8 := by omega
        refine lv_lload hx hb dX0_foldOrder_86 (lv_at hl 3 rfl) ?_
        refine lv_aload_n hx hb dX0_foldOrder_88 rfl (lv_at hl 0 rfl) ?_
        refine lv_iload_n hx hb dX0_foldOrder_89 rfl (lv_at hl 2 rfl) ?_
        refine lv_iload hx hb dX0_foldOrder_90 (lv_at hl 4 rfl) ?_
        refine w_in_i (va_runV (As := [.int (nI o), .int (nI i79)]) (rest := [.long (p_fl (fun tr => b2i (p_ex F o (nI tr))) (p_fold (p_fold (p_fold (p_fold (p_fold d (F 0 o)) (F 3 o)) (b2i (!decide (F 4 o = 0)))) (b2i (p_on F sh o nw))) (nI (p_bd F sh np o nw))) i79)]) ⟨hx, hb, hml, hown, hts⟩ (c_X0_exempts l G cI cZ h a F nq no np sh nw H.size o (nI i79) (by omega)) (cwV 2 hts gX0_foldOrder_X0_exempts rfl rfl rfl (by decide +kernel) ⟨(Nat.le_of_ble_eq_true rfl), (Nat.le_of_ble_eq_true rfl)⟩) ⟨wPre_blind, va_recv hK hP (ci := 0) (q0 := 0) rfl rfl, w_pre hK hP hD⟩ rfl rfl hl.1 rfl (lv_room (Nat.le_of_ble_eq_true rfl)) dX0_foldOrder_92 ⟨(Nat.le_of_ble_eq_true rfl), (Nat.le_of_ble_eq_true rfl)⟩) hD hS hA (fun r92 u92 H locs hw92 hP hD hS => ?_)
        have hP : va_P G vwCl (Dk cI cZ h a F nq no np sh nw) H := hP
        have hD : va_D A (Dk cI cZ h a F nq no np sh nw) := hD
        have hw92 : r92 = b2i (p_ex F o (nI i79)) := hw92
        subst hw92
        refine w_st_i (va_runS (As := [.int (b2i (p_ex F o (nI i79)))]) (rest := [.long (p_fl (fun tr => b2i (p_ex F o (nI tr))) (p_fold (p_fold (p_fold (p_fold (p_fold d (F 0 o)) (F 3 o)) (b2i (!decide (F 4 o = 0)))) (b2i (p_on F sh o nw))) (nI (p_bd F sh np o nw))) i79)]) ⟨hx, hb, hml, hown, hts⟩ (c_X0_oneIf l G H.size (b2i (p_ex F o (nI i79))) ) (va_cwS 1 hts gX0_foldOrder_X0_oneIf rfl rfl rfl (by decide +kernel) ⟨(Nat.le_of_ble_eq_true rfl), (Nat.le_of_ble_eq_true rfl)⟩) ⟨wPre_blind, w_pre (hK.sub [] rfl) w_P0 (w_D0 (A := A))⟩ rfl rfl hl.1 rfl (lv_room (Nat.le_of_ble_eq_true rfl)) dX0_foldOrder_95 ⟨(Nat.le_of_ble_eq_true rfl), (Nat.le_of_ble_eq_true rfl)⟩) hP hS hA (fun r95 u95 H locs hw95 hP hS => ?_)
        have hw95 : r95 = b2i (!decide ((b2i (p_ex F o (nI i79))) = 0)) := hw95
        subst hw95
        rw [b2i_o]
        refine w_st_l (va_runS (As := [.long (p_fl (fun tr => b2i (p_ex F o (nI tr))) (p_fold (p_fold (p_fold (p_fold (p_fold d (F 0 o)) (F 3 o)) (b2i (!decide (F 4 o = 0)))) (b2i (p_on F sh o nw))) (nI (p_bd F sh np o nw))) i79), .int (b2i (p_ex F o (nI i79)))]) (rest := []) ⟨hx, hb, hml, hown, hts⟩ (c_X0_fold l G H.size (p_fl (fun tr => b2i (p_ex F o (nI tr))) (p_fold (p_fold (p_fold (p_fold (p_fold d (F 0 o)) (F 3 o)) (b2i (!decide (F 4 o = 0)))) (b2i (p_on F sh o nw))) (nI (p_bd F sh np o nw))) i79) (b2i (p_ex F o (nI i79))) ) (va_cwS 2 hts gX0_foldOrder_X0_fold rfl rfl rfl (by decide +kernel) ⟨(Nat.le_of_ble_eq_true rfl), (Nat.le_of_ble_eq_true rfl)⟩) ⟨wPre_blind, w_pre (hK.sub [] rfl) w_P0 (w_D0 (A := A))⟩ rfl rfl hl.1 rfl (lv_room (Nat.le_of_ble_eq_true rfl)) dX0_foldOrder_98 ⟨(Nat.le_of_ble_eq_true rfl), (Nat.le_of_ble_eq_true rfl)⟩) hP hS hA (fun r98 u98 H locs hw98 hP hS => ?_)
        have hw98 : r98 = p_fold (p_fl (fun tr => b2i (p_ex F o (nI tr))) (p_fold (p_fold (p_fold (p_fold (p_fold d (F 0 o)) (F 3 o)) (b2i (!decide (F 4 o = 0)))) (b2i (p_on F sh o nw))) (nI (p_bd F sh np o nw))) i79) (b2i (p_ex F o (nI i79))) := hw98
        subst hw98
        refine lv_lstore (lv' := [(4, .long (p_fold (p_fl (fun tr => b2i (p_ex F o (nI tr))) (p_fold (p_fold (p_fold (p_fold (p_fold d (F 0 o)) (F 3 o)) (b2i (!decide (F 4 o = 0)))) (b2i (p_on F sh o nw))) (nI (p_bd F sh np o nw))) i79) (b2i (p_ex F o (nI i79))))), (0, .ref h), (1, .long d), (3, .int (nI o)), (6, .int (nI i79))]) hx hb dX0_foldOrder_101 hl (by decide) rfl (fun ls hl => ?_)
        refine lv_iinc (v := nI i79 + 1) (lv' := [(6, .int (nI i79 + 1)), (4, .long (p_fold (p_fl (fun tr => b2i (p_ex F o (nI tr))) (p_fold (p_fold (p_fold (p_fold (p_fold d (F 0 o)) (F 3 o)) (b2i (!decide (F 4 o = 0)))) (b2i (p_on F sh o nw))) (nI (p_bd F sh np o nw))) i79) (b2i (p_ex F o (nI i79))))), (0, .ref h), (1, .long d), (3, .int (nI o))]) hx hb dX0_foldOrder_103 hl (k := 4) rfl rfl (by decide) rfl (fun ls hl => ?_)
        refine lv_goto (tgt := 79) hx hb dX0_foldOrder_106 (by decide) ?_
        exact ih79 (i79 + 1) (by omega) (by omega) (p_fold (p_fl (fun tr => b2i (p_ex F o (nI tr))) (p_fold (p_fold (p_fold (p_fold (p_fold d (F 0 o)) (F 3 o)) (b2i (!decide (F 4 o = 0)))) (b2i (p_on F sh o nw))) (nI (p_bd F sh np o nw))) i79) (b2i (p_ex F o (nI i79)))) (nI i79 + 1) (by rfl) (by first | exact nI_1 _ | exact nct_t (by assumption) | exact nct_f (by assumption) | exact nct_b | rfl) _ _ hP hD hS _ (lv_sub hl [2, 3, 4, 1, 0] rfl)
  exact key79 (8 + 1) 0 (by omega) (by omega) (p_fold (p_fold (p_fold (p_fold (p_fold d ((F 0) o)) ((F 3) o)) (b2i (!decide (((F 4) o) = 0)))) (b2i (p_on F sh o nw))) (nI (p_bd F sh np o nw))) 0 (by first | rfl | simp [p_ct, p_sm, p_fl, p_fg, nI_0]) (by first | rfl | simp [p_ct, p_sm, p_fl, p_fg, nI_0]) _ _ hP hD hS _ (lv_sub hl [2, 3, 4, 1, 0] rfl)
set_option maxHeartbeats 4000000 in
set_option maxRecDepth 100000 in
theorem c_X0_foldPerson (l : Launch) (G : va_G) (cI cZ : ClassId) (h : Nat) (a : Nat → Nat) (F : Nat → Nat → Int32) (nq no np : Nat) (sh nw : Int32) (sz : Nat) (d : Int64) (p : Nat) (hpn : p < np) (hnq : nq ≤ 6) (hno : no ≤ 10) (hnp : np ≤ 20) : Met l yX0_foldPerson wsX0_foldPerson ({ frames := 5, cells := 0, slots := 0, locals := 114 } : Room) (va_Pc [.ref h, .long d, .int (nI p)] (wPre G (ty2 cI cZ) (Dk cI cZ h a F nq no np sh nw) sz)) (va_Ql (fun (r : Int64) (_ : Unit) => r = p_fp F sh nq no nw p d) (fun _ => wP G (ty2 cI cZ) (Dk cI cZ h a F nq no np sh nw) (va_A (Dk cI cZ h a F nq no np sh nw) sz)) (va_A (Dk cI cZ h a F nq no np sh nw) sz)) 0 0 (va_A (Dk cI cZ h a F nq no np sh nw) sz) := by
  refine w_met (cc := cX0_foldPerson) (maxL := 7) (ret := (some .long)) (by decide) rfl (Nat.le_of_ble_eq_true rfl) ?_
  intro pg e s m below meth cd hx hb hml hr hts hown hlocks hnm hK hsz hP hD hA hS ls hl
  have hown : s.vm.findClass RX0 = some m.cls := hown
  have hin : ∀ w ∈ wsX00, w ∈ wsX0_foldPerson := by decide +kernel
  have hl : lv_has ls 7 [(0, .ref h), (1, .long d), (3, .int (nI p))] := hl
  generalize hAe : va_A (Dk cI cZ h a F nq no np sh nw) sz = A at hD hA hS ⊢
  refine lv_lload_n hx hb dX0_foldPerson_0 rfl (lv_at hl 1 rfl) ?_
  refine lv_lstore (lv' := [(4, .long d), (0, .ref h), (1, .long d), (3, .int (nI p))]) hx hb dX0_foldPerson_1 hl (by decide) rfl (fun ls hl => ?_)
  refine lv_lload hx hb dX0_foldPerson_3 (lv_at hl 0 rfl) ?_
  refine lv_aload_n hx hb dX0_foldPerson_5 rfl (lv_at hl 1 rfl) ?_
  refine va_get (ci := 0) (v := .ref (a 6)) (C := RX0) (T := TX0) (N := 16) hx hb hts hin hown hK hP 0 rfl rfl 6 (by decide) (hts (.fieldLink RX0 29 "CurfewDesk" "personTrade" "[I") (by decide +kernel)) (fun _ h9 => h9) rfl dX0_foldPerson_6 ?_
  refine lv_iload_n hx hb dX0_foldPerson_9 rfl (lv_at hl 3 rfl) ?_
  refine w_iald hx hb hK hP 7 0 rfl rfl (f := (F 6)) (j := p) (by omega) (by omega) dX0_foldPerson_10 ?_
  refine w_st_l (va_runS (As := [.long d, .int ((F 6) p)]) (rest := []) ⟨hx, hb, hml, hown, hts⟩ (c_X0_fold l G s.heap.size d ((F 6) p) ) (va_cwS 2 hts gX0_foldPerson_X0_fold rfl rfl rfl (by decide +kernel) ⟨(Nat.le_of_ble_eq_true rfl), (Nat.le_of_ble_eq_true rfl)⟩) ⟨wPre_blind, w_pre (hK.sub [] rfl) w_P0 (w_D0 (A := A))⟩ rfl rfl hl.1 rfl (lv_room (Nat.le_of_ble_eq_true rfl)) dX0_foldPerson_11 ⟨(Nat.le_of_ble_eq_true rfl), (Nat.le_of_ble_eq_true rfl)⟩) hP hS hA (fun r11 u11 H locs hw11 hP hS => ?_)
  have hw11 : r11 = p_fold d ((F 6) p) := hw11
  subst hw11
  refine lv_lstore (lv' := [(4, .long (p_fold d ((F 6) p))), (0, .ref h), (1, .long d), (3, .int (nI p))]) hx hb dX0_foldPerson_14 hl (by decide) rfl (fun ls hl => ?_)
  refine lv_lload hx hb dX0_foldPerson_16 (lv_at hl 0 rfl) ?_
  refine lv_aload_n hx hb dX0_foldPerson_18 rfl (lv_at hl 1 rfl) ?_
  refine va_get (ci := 0) (v := .ref (a 8)) (C := RX0) (T := TX0) (N := 16) hx hb hts hin hown hK hP 0 rfl rfl 8 (by decide) (hts (.fieldLink RX0 35 "CurfewDesk" "personOwes" "[I") (by decide +kernel)) (fun _ h9 => h9) rfl dX0_foldPerson_19 ?_
  refine lv_iload_n hx hb dX0_foldPerson_22 rfl (lv_at hl 3 rfl) ?_
  refine w_iald hx hb hK hP 9 0 rfl rfl (f := (F 8)) (j := p) (by omega) (by omega) dX0_foldPerson_23 ?_
  refine w_st_l (va_runS (As := [.long (p_fold d ((F 6) p)), .int ((F 8) p)]) (rest := []) ⟨hx, hb, hml, hown, hts⟩ (c_X0_fold l G H.size (p_fold d ((F 6) p)) ((F 8) p) ) (va_cwS 2 hts gX0_foldPerson_X0_fold rfl rfl rfl (by decide +kernel) ⟨(Nat.le_of_ble_eq_true rfl), (Nat.le_of_ble_eq_true rfl)⟩) ⟨wPre_blind, w_pre (hK.sub [] rfl) w_P0 (w_D0 (A := A))⟩ rfl rfl hl.1 rfl (lv_room (Nat.le_of_ble_eq_true rfl)) dX0_foldPerson_24 ⟨(Nat.le_of_ble_eq_true rfl), (Nat.le_of_ble_eq_true rfl)⟩) hP hS hA (fun r24 u24 H locs hw24 hP hS => ?_)
  have hw24 : r24 = p_fold (p_fold d ((F 6) p)) ((F 8) p) := hw24
  subst hw24
  refine lv_lstore (lv' := [(4, .long (p_fold (p_fold d ((F 6) p)) ((F 8) p))), (0, .ref h), (1, .long d), (3, .int (nI p))]) hx hb dX0_foldPerson_27 hl (by decide) rfl (fun ls hl => ?_)
  refine lv_lload hx hb dX0_foldPerson_29 (lv_at hl 0 rfl) ?_
  refine lv_aload_n hx hb dX0_foldPerson_31 rfl (lv_at hl 1 rfl) ?_
  refine va_get (ci := 0) (v := .ref (a 7)) (C := RX0) (T := TX0) (N := 16) hx hb hts hin hown hK hP 0 rfl rfl 7 (by decide) (hts (.fieldLink RX0 32 "CurfewDesk" "personFined" "[I") (by decide +kernel)) (fun _ h9 => h9) rfl dX0_foldPerson_32 ?_
  refine lv_iload_n hx hb dX0_foldPerson_35 rfl (lv_at hl 3 rfl) ?_
  refine w_iald hx hb hK hP 8 0 rfl rfl (f := (F 7)) (j := p) (by omega) (by omega) dX0_foldPerson_36 ?_
  refine w_st_l (va_runS (As := [.long (p_fold (p_fold d ((F 6) p)) ((F 8) p)), .int ((F 7) p)]) (rest := []) ⟨hx, hb, hml, hown, hts⟩ (c_X0_fold l G H.size (p_fold (p_fold d ((F 6) p)) ((F 8) p)) ((F 7) p) ) (va_cwS 2 hts gX0_foldPerson_X0_fold rfl rfl rfl (by decide +kernel) ⟨(Nat.le_of_ble_eq_true rfl), (Nat.le_of_ble_eq_true rfl)⟩) ⟨wPre_blind, w_pre (hK.sub [] rfl) w_P0 (w_D0 (A := A))⟩ rfl rfl hl.1 rfl (lv_room (Nat.le_of_ble_eq_true rfl)) dX0_foldPerson_37 ⟨(Nat.le_of_ble_eq_true rfl), (Nat.le_of_ble_eq_true rfl)⟩) hP hS hA (fun r37 u37 H locs hw37 hP hS => ?_)
  have hw37 : r37 = p_fold (p_fold (p_fold d ((F 6) p)) ((F 8) p)) ((F 7) p) := hw37
  subst hw37
  refine lv_lstore (lv' := [(4, .long (p_fold (p_fold (p_fold d ((F 6) p)) ((F 8) p)) ((F 7) p))), (0, .ref h), (1, .long d), (3, .int (nI p))]) hx hb dX0_foldPerson_40 hl (by decide) rfl (fun ls hl => ?_)
  refine lv_iconst (v := 0) hx hb dX0_foldPerson_42 (by decide) ?_
  refine lv_istore (lv' := [(6, .int 0), (4, .long (p_fold (p_fold (p_fold d ((F 6) p)) ((F 8) p)) ((F 7) p))), (0, .ref h), (1, .long d), (3, .int (nI p))]) hx hb dX0_foldPerson_43 hl (by decide) rfl (fun ls hl => ?_)
  have key45 : ∀ (n i45 : Nat), i45 ≤ 4 → 4 < i45 + n → ∀ (x4 : Int64) (x6 : Int32), x4 = p_fl (fun c => F 9 (p * 4 + c)) (p_fold (p_fold (p_fold d (F 6 p)) (F 8 p)) (F 7 p)) i45 → x6 = nI i45 → ∀ (H : Heap) (locs : List Loc), va_P G vwCl (Dk cI cZ h a F nq no np sh nw) H → va_D A (Dk cI cZ h a F nq no np sh nw) → va_S A s.heap H locs → ∀ ls : Array Slot, lv_has ls 7 [(0, .ref h), (1, .long d), (3, .int (nI p)), (4, .long x4), (6, .int x6)] → W pg l e ({ frames := 5, cells := 0, slots := 0, locals := 114 } : Room) s m ([.ref h, .long d, .int (nI p)] : List Value).toArray below meth cd H locs (0 + 0 + 0 + 0) (0 + 0 + 0 + 0) (MQ below (va_Ql (fun (r : Int64) (_ : Unit) => r = p_fp F sh nq no nw p d) (fun _ => wP G (ty2 cI cZ) (Dk cI cZ h a F nq no np sh nw) A) A) ([.ref h, .long d, .int (nI p)] : List Value).toArray s 0 0 A) (F0 m 45 ls []) := by
    intro n
    induction n with
    | zero => intro i45 h1 h2; exact absurd h2 (by omega)
    | succ n ih45 =>
      intro i45 hi_i45 hn_i45 x4 x6 e4 e6 H locs hP hD hS ls hl
      subst e4 e6
      refine lv_iload hx hb dX0_foldPerson_45 (lv_at hl 4 rfl) ?_
      refine lv_iconst (v := 4) hx hb dX0_foldPerson_47 (by decide) ?_
      refine lv_icmp_ge (tgt := 75) hx hb dX0_foldPerson_48 (by decide) (fun c48 => ?_) (fun c48 => ?_)
      · have c48 := (nI_leI (a := 4) (b := i45) (by omega) (by omega)).mp c48
        have ei : 4 = i45 := by omega
        subst ei
        refine lv_iconst (v := 0) hx hb dX0_foldPerson_75 (by decide) ?_
        refine lv_istore (lv' := [(6, .int 0), (0, .ref h), (1, .long d), (3, .int (nI p)), (4, .long (p_fl (fun c => F 9 (p * 4 + c)) (p_fold (p_fold (p_fold d (F 6 p)) (F 8 p)) (F 7 p)) 4))]) hx hb dX0_foldPerson_76 hl (by decide) rfl (fun ls hl => ?_)
        have key78 : ∀ (n i78 : Nat), i78 ≤ nq → nq < i78 + n → ∀ (x4 : Int64) (x6 : Int32), x4 = p_fl (fun q => nI (p_ag F sh no p (nI q) nw)) (p_fl (fun c => F 9 (p * 4 + c)) (p_fold (p_fold (p_fold d (F 6 p)) (F 8 p)) (F 7 p)) 4) i78 → x6 = nI i78 → ∀ (H : Heap) (locs : List Loc), va_P G vwCl (Dk cI cZ h a F nq no np sh nw) H → va_D A (Dk cI cZ h a F nq no np sh nw) → va_S A s.heap H locs → ∀ ls : Array Slot, lv_has ls 7 [(0, .ref h), (1, .long d), (3, .int (nI p)), (4, .long x4), (6, .int x6)] → W pg l e ({ frames := 5, cells := 0, slots := 0, locals := 114 } : Room) s m ([.ref h, .long d, .int (nI p)] : List Value).toArray below meth cd H locs (0 + 0 + 0 + 0) (0 + 0 + 0 + 0) (MQ below (va_Ql (fun (r : Int64) (_ : Unit) => r = p_fp F sh nq no nw p d) (fun _ => wP G (ty2 cI cZ) (Dk cI cZ h a F nq no np sh nw) A) A) ([.ref h, .long d, .int (nI p)] : List Value).toArray s 0 0 A) (F0 m 78 ls []) := by
          intro n
          induction n with
          | zero => intro i78 h1 h2; exact absurd h2 (by omega)
          | succ n ih78 =>
            intro i78 hi_i78 hn_i78 x4 x6 e4 e6 H locs hP hD hS ls hl
            subst e4 e6
            refine lv_iload hx hb dX0_foldPerson_78 (lv_at hl 4 rfl) ?_
            refine lv_aload_n hx hb dX0_foldPerson_80 rfl (lv_at hl 0 rfl) ?_
            refine va_get (ci := 0) (v := .int (nI nq)) (C := RX0) (T := TX0) (N := 16) hx hb hts hin hown hK hP 0 rfl rfl 11 (by decide) (hts (.fieldLink RX0 44 "CurfewDesk" "quarterCount" "I") (by decide +kernel)) (fun _ h9 => h9) rfl dX0_foldPerson_81 ?_
            refine lv_icmp_ge (tgt := 107) hx hb dX0_foldPerson_84 (by decide) (fun c84 => ?_) (fun c84 => ?_)
            · have c84 := (nI_leI (a := nq) (b := i78) (by omega) (by omega)).mp c84
              have ei : nq = i78 := by omega
              subst ei
              refine lv_lload hx hb dX0_foldPerson_107 (lv_at hl 3 rfl) ?_
              exact w_lret () hx hb hr hlocks hK hP hD hS (Nat.le_of_ble_eq_true rfl) (Nat.le_of_ble_eq_true rfl) dX0_foldPerson_109 (show (p_fl (fun q => nI (p_ag F sh no p (nI q) nw)) (p_fl (fun c => F 9 (p * 4 + c)) (p_fold (p_fold (p_fold d (F 6 p)) (F 8 p)) (F 7 p)) 4) nq) = p_fp F sh nq no nw p d from by rfl)
            · have c84 := mt (nI_leI (a := nq) (b := i78) (by omega) (by omega)).mpr c84
              have hlt_i78 : i78 < nq := by omega
              refine lv_lload hx hb dX0_foldPerson_87 (lv_at hl 3 rfl) ?_
              refine lv_aload_n hx hb dX0_foldPerson_89 rfl (lv_at hl 0 rfl) ?_
              refine lv_iload_n hx hb dX0_foldPerson_90 rfl (lv_at hl 2 rfl) ?_
              refine lv_iload hx hb dX0_foldPerson_91 (lv_at hl 4 rfl) ?_
              refine w_in_i (va_runV (As := [.int (nI p), .int (nI i78)]) (rest := [.long (p_fl (fun q => nI (p_ag F sh no p (nI q) nw)) (p_fl (fun c => F 9 (p * 4 + c)) (p_fold (p_fold (p_fold d (F 6 p)) (F 8 p)) (F 7 p)) 4) i78)]) ⟨hx, hb, hml, hown, hts⟩ (c_X0_ordersAgainst l G cI cZ h a F nq no np sh nw H.size (nI p) (nI i78) (by omega) (by omega) (by omega) (pin_nI hpn (by omega)) (pin_nI hlt_i78 (by omega))) (cwV 2 hts gX0_foldPerson_X0_ordersAgainst rfl rfl rfl (by decide +kernel) ⟨(Nat.le_of_ble_eq_true rfl), (Nat.le_of_ble_eq_true rfl)⟩) ⟨wPre_blind, va_recv hK hP (ci := 0) (q0 := 0) rfl rfl, w_pre hK hP hD⟩ rfl rfl hl.1 rfl (lv_room (Nat.le_of_ble_eq_true rfl)) dX0_foldPerson_93 ⟨(Nat.le_of_ble_eq_true rfl), (Nat.le_of_ble_eq_true rfl)⟩) hD hS hA (fun r93 u93 H locs hw93 hP hD hS => ?_)
              have hP : va_P G vwCl (Dk cI cZ h a F nq no np sh nw) H := hP
              have hD : va_D A (Dk cI cZ h a F nq no np sh nw) := hD
              have hw93 := (show r93 = nI (p_ag F sh no ((nI p).toNatClampNeg) (nI i78) nw) from hw93)
              rw [nI_clamp (n := p) (by omega)] at hw93
              have hw93 : r93 = nI (p_ag F sh no p (nI i78) nw) := hw93
              subst hw93
              refine w_st_l (va_runS (As := [.long (p_fl (fun q => nI (p_ag F sh no p (nI q) nw)) (p_fl (fun c => F 9 (p * 4 + c)) (p_fold (p_fold (p_fold d (F 6 p)) (F 8 p)) (F 7 p)) 4) i78), .int (nI (p_ag F sh no p (nI i78) nw))]) (rest := []) ⟨hx, hb, hml, hown, hts⟩ (c_X0_fold l G H.size (p_fl (fun q => nI (p_ag F sh no p (nI q) nw)) (p_fl (fun c => F 9 (p * 4 + c)) (p_fold (p_fold (p_fold d (F 6 p)) (F 8 p)) (F 7 p)) 4) i78) (nI (p_ag F sh no p (nI i78) nw)) ) (va_cwS 2 hts gX0_foldPerson_X0_fold rfl rfl rfl (by decide +kernel) ⟨(Nat.le_of_ble_eq_true rfl), (Nat.le_of_ble_eq_true rfl)⟩) ⟨wPre_blind, w_pre (hK.sub [] rfl) w_P0 (w_D0 (A := A))⟩ rfl rfl hl.1 rfl (lv_room (Nat.le_of_ble_eq_true rfl)) dX0_foldPerson_96 ⟨(Nat.le_of_ble_eq_true rfl), (Nat.le_of_ble_eq_true rfl)⟩) hP hS hA (fun r96 u96 H locs hw96 hP hS => ?_)
              have hw96 : r96 = p_fold (p_fl (fun q => nI (p_ag F sh no p (nI q) nw)) (p_fl (fun c => F 9 (p * 4 + c)) (p_fold (p_fold (p_fold d (F 6 p)) (F 8 p)) (F 7 p)) 4) i78) (nI (p_ag F sh no p (nI i78) nw)) := hw96
              subst hw96
              refine lv_lstore (lv' := [(4, .long (p_fold (p_fl (fun q => nI (p_ag F sh no p (nI q) nw)) (p_fl (fun c => F 9 (p * 4 + c)) (p_fold (p_fold (p_fold d (F 6 p)) (F 8 p)) (F 7 p)) 4) i78) (nI (p_ag F sh no p (nI i78) nw)))), (0, .ref h), (1, .long d), (3, .int (nI p)), (6, .int (nI i78))]) hx hb dX0_foldPerson_99 hl (by decide) rfl (fun ls hl => ?_)
              refine lv_iinc (v := nI i78 + 1) (lv' := [(6, .int (nI i78 + 1)), (4, .long (p_fold (p_fl (fun q => nI (p_ag F sh no p (nI q) nw)) (p_fl (fun c => F 9 (p * 4 + c)) (p_fold (p_fold (p_fold d (F 6 p)) (F 8 p)) (F 7 p)) 4) i78) (nI (p_ag F sh no p (nI i78) nw)))), (0, .ref h), (1, .long d), (3, .int (nI p))]) hx hb dX0_foldPerson_101 hl (k := 4) rfl rfl (by decide) rfl (fun ls hl => ?_)
              refine lv_goto (tgt := 78) hx hb dX0_foldPerson_104 (by decide) ?_
              exact ih78 (i78 + 1) (by omega) (by omega) (p_fold (p_fl (fun q => nI (p_ag F sh no p (nI q) nw)) (p_fl (fun c => F 9 (p * 4 + c)) (p_fold (p_fold (p_fold d (F 6 p)) (F 8 p)) (F 7 p)) 4) i78) (nI (p_ag F sh no p (nI i78) nw))) (nI i78 + 1) (by rfl) (by first | exact nI_1 _ | exact nct_t (by assumption) | exact nct_f (by assumption) | exact nct_b | rfl) _ _ hP hD hS _ (lv_sub hl [2, 3, 4, 1, 0] rfl)
        exact key78 (nq + 1) 0 (by omega) (by omega) (p_fl (fun c => F 9 (p * 4 + c)) (p_fold (p_fold (p_fold d (F 6 p)) (F 8 p)) (F 7 p)) 4) 0 (by first | rfl | simp [p_ct, p_sm, p_fl, p_fg, nI_0]) (by first | rfl | simp [p_ct, p_sm, p_fl, p_fg, nI_0]) _ _ hP hD hS _ (lv_sub hl [1, 2, 3, 4, 0] rfl)
      · have c48 := mt (nI_leI (a := 4) (b := i45) (by omega) (by omega)).mpr c48
        have hlt_i45 : i45 < 4 := by omega
        refine lv_lload hx hb dX0_foldPerson_51 (lv_at hl 3 rfl) ?_
        refine lv_aload_n hx hb dX0_foldPerson_53 rfl (lv_at hl 0 rfl) ?_
        refine va_get (ci := 0) (v := .ref (a 9)) (C := RX0) (T := TX0) (N := 16) hx hb hts hin hown hK hP 0 rfl rfl 9 (by decide) (hts (.fieldLink RX0 38 "CurfewDesk" "personStamps" "[I") (by decide +kernel)) (fun _ h9 => h9) rfl dX0_foldPerson_54 ?_
        refine lv_iload_n hx hb dX0_foldPerson_57 rfl (lv_at hl 2 rfl) ?_
        refine lv_iload hx hb dX0_foldPerson_58 (lv_at hl 4 rfl) ?_
        refine w_st_i (va_runS (As := [.int (nI p), .int (nI i45)]) (rest := [.ref (a 9), .long (p_fl (fun c => F 9 (p * 4 + c)) (p_fold (p_fold (p_fold d (F 6 p)) (F 8 p)) (F 7 p)) i45)]) ⟨hx, hb, hml, hown, hts⟩ (c_X0_stampPlace l G H.size p i45 ) (va_cwS 2 hts gX0_foldPerson_X0_stampPlace rfl rfl rfl (by decide +kernel) ⟨(Nat.le_of_ble_eq_true rfl), (Nat.le_of_ble_eq_true rfl)⟩) ⟨wPre_blind, w_pre (hK.sub [] rfl) w_P0 (w_D0 (A := A))⟩ rfl rfl hl.1 rfl (lv_room (Nat.le_of_ble_eq_true rfl)) dX0_foldPerson_60 ⟨(Nat.le_of_ble_eq_true rfl), (Nat.le_of_ble_eq_true rfl)⟩) hP hS hA (fun r60 u60 H locs hw60 hP hS => ?_)
        have hw60 : r60 = nI (p * 4 + i45) := hw60
        subst hw60
        refine w_iald hx hb hK hP 10 0 rfl rfl (f := (F 9)) (j := (p * 4 + i45)) (by omega) (by omega) dX0_foldPerson_63 ?_
        refine w_st_l (va_runS (As := [.long (p_fl (fun c => F 9 (p * 4 + c)) (p_fold (p_fold (p_fold d (F 6 p)) (F 8 p)) (F 7 p)) i45), .int ((F 9) (p * 4 + i45))]) (rest := []) ⟨hx, hb, hml, hown, hts⟩ (c_X0_fold l G H.size (p_fl (fun c => F 9 (p * 4 + c)) (p_fold (p_fold (p_fold d (F 6 p)) (F 8 p)) (F 7 p)) i45) ((F 9) (p * 4 + i45)) ) (va_cwS 2 hts gX0_foldPerson_X0_fold rfl rfl rfl (by decide +kernel) ⟨(Nat.le_of_ble_eq_true rfl), (Nat.le_of_ble_eq_true rfl)⟩) ⟨wPre_blind, w_pre (hK.sub [] rfl) w_P0 (w_D0 (A := A))⟩ rfl rfl hl.1 rfl (lv_room (Nat.le_of_ble_eq_true rfl)) dX0_foldPerson_64 ⟨(Nat.le_of_ble_eq_true rfl), (Nat.le_of_ble_eq_true rfl)⟩) hP hS hA (fun r64 u64 H locs hw64 hP hS => ?_)
        have hw64 : r64 = p_fold (p_fl (fun c => F 9 (p * 4 + c)) (p_fold (p_fold (p_fold d (F 6 p)) (F 8 p)) (F 7 p)) i45) ((F 9) (p * 4 + i45)) := hw64
        subst hw64
        refine lv_lstore (lv' := [(4, .long (p_fold (p_fl (fun c => F 9 (p * 4 + c)) (p_fold (p_fold (p_fold d (F 6 p)) (F 8 p)) (F 7 p)) i45) ((F 9) (p * 4 + i45)))), (0, .ref h), (1, .long d), (3, .int (nI p)), (6, .int (nI i45))]) hx hb dX0_foldPerson_67 hl (by decide) rfl (fun ls hl => ?_)
        refine lv_iinc (v := nI i45 + 1) (lv' := [(6, .int (nI i45 + 1)), (4, .long (p_fold (p_fl (fun c => F 9 (p * 4 + c)) (p_fold (p_fold (p_fold d (F 6 p)) (F 8 p)) (F 7 p)) i45) ((F 9) (p * 4 + i45)))), (0, .ref h), (1, .long d), (3, .int (nI p))]) hx hb dX0_foldPerson_69 hl (k := 4) rfl rfl (by decide) rfl (fun ls hl => ?_)
        refine lv_goto (tgt := 45) hx hb dX0_foldPerson_72 (by decide) ?_
        exact ih45 (i45 + 1) (by omega) (by omega) (p_fold (p_fl (fun c => F 9 (p * 4 + c)) (p_fold (p_fold (p_fold d (F 6 p)) (F 8 p)) (F 7 p)) i45) ((F 9) (p * 4 + i45))) (nI i45 + 1) (by rfl) (by first | exact nI_1 _ | exact nct_t (by assumption) | exact nct_f (by assumption) | exact nct_b | rfl) _ _ hP hD hS _ (lv_sub hl [2, 3, 4, 1, 0] rfl)
  exact key45 (4 + 1) 0 (by omega) (by omega) (p_fold (p_fold (p_fold d ((F 6) p)) ((F 8) p)) ((F 7) p)) 0 (by first | rfl | simp [p_ct, p_sm, p_fl, p_fg, nI_0]) (by first | rfl | simp [p_ct, p_sm, p_fl, p_fg, nI_0]) _ _ hP hD hS _ (lv_sub hl [2, 3, 4, 1, 0] rfl)
set_option maxHeartbeats 4000000 in
set_option maxRecDepth 100000 in
theorem c_X0_digest (l : Launch) (G : va_G) (cI cZ : ClassId) (h : Nat) (a : Nat → Nat) (F : Nat → Nat → Int32) (nq no np : Nat) (sh nw : Int32) (sz : Nat) (hnq : nq ≤ 6) (hno : no ≤ 10) (hnp : np ≤ 20) : Met l yX0_digest wsX0_digest ({ frames := 6, cells := 0, slots := 0, locals := 140 } : Room) (va_Pc [.ref h] (wPre G (ty2 cI cZ) (Dk cI cZ h a F nq no np sh nw) sz)) (va_Ql (fun (r : Int64) (_ : Unit) => r = p_dig F nq no np sh nw) (fun _ => wP G (ty2 cI cZ) (Dk cI cZ h a F nq no np sh nw) (va_A (Dk cI cZ h a F nq no np sh nw) sz)) (va_A (Dk cI cZ h a F nq no np sh nw) sz)) 0 0 (va_A (Dk cI cZ h a F nq no np sh nw) sz) := by
  refine w_met (cc := cX0_digest) (maxL := 4) (ret := (some .long)) (by decide) rfl (Nat.le_of_ble_eq_true rfl) ?_
  intro pg e s m below meth cd hx hb hml hr hts hown hlocks hnm hK hsz hP hD hA hS ls hl
  have hown : s.vm.findClass RX0 = some m.cls := hown
  have hin : ∀ w ∈ wsX00, w ∈ wsX0_digest := by decide +kernel
  have hl : lv_has ls 4 [(0, .ref h)] := hl
  generalize hAe : va_A (Dk cI cZ h a F nq no np sh nw) sz = A at hD hA hS ⊢
  refine lv_ldc2 (v := 1879) hx hb hown (hts (.constantLong RX0 148 (1879)) (by decide +kernel)) dX0_digest_0 ?_
  refine lv_lstore_n (lv' := [(1, .long 1879), (0, .ref h)]) hx hb dX0_digest_3 rfl hl (by decide) rfl (fun ls hl => ?_)
  refine lv_lload_n hx hb dX0_digest_4 rfl (lv_at hl 0 rfl) ?_
  refine lv_aload_n hx hb dX0_digest_5 rfl (lv_at hl 1 rfl) ?_
  refine w_in_i (va_runV (As := []) (rest := [.long 1879]) ⟨hx, hb, hml, hown, hts⟩ (c_X0_day l G cI cZ h a F nq no np sh nw s.heap.size ) (cwV 0 hts gX0_digest_X0_day rfl rfl rfl (by decide +kernel) ⟨(Nat.le_of_ble_eq_true rfl), (Nat.le_of_ble_eq_true rfl)⟩) ⟨wPre_blind, va_recv hK hP (ci := 0) (q0 := 0) rfl rfl, w_pre hK hP hD⟩ rfl rfl hl.1 rfl (lv_room (Nat.le_of_ble_eq_true rfl)) dX0_digest_6 ⟨(Nat.le_of_ble_eq_true rfl), (Nat.le_of_ble_eq_true rfl)⟩) hD hS hA (fun r6 u6 H locs hw6 hP hD hS => ?_)
  have hP : va_P G vwCl (Dk cI cZ h a F nq no np sh nw) H := hP
  have hD : va_D A (Dk cI cZ h a F nq no np sh nw) := hD
  have hw6 : r6 = nw / 48 := hw6
  subst hw6
  refine w_st_l (va_runS (As := [.long 1879, .int (nw / 48)]) (rest := []) ⟨hx, hb, hml, hown, hts⟩ (c_X0_fold l G H.size 1879 (nw / 48) ) (va_cwS 2 hts gX0_digest_X0_fold rfl rfl rfl (by decide +kernel) ⟨(Nat.le_of_ble_eq_true rfl), (Nat.le_of_ble_eq_true rfl)⟩) ⟨wPre_blind, w_pre (hK.sub [] rfl) w_P0 (w_D0 (A := A))⟩ rfl rfl hl.1 rfl (lv_room (Nat.le_of_ble_eq_true rfl)) dX0_digest_9 ⟨(Nat.le_of_ble_eq_true rfl), (Nat.le_of_ble_eq_true rfl)⟩) hP hS hA (fun r9 u9 H locs hw9 hP hS => ?_)
  have hw9 : r9 = p_fold 1879 (nw / 48) := hw9
  subst hw9
  refine lv_lstore_n (lv' := [(1, .long (p_fold 1879 (nw / 48))), (0, .ref h)]) hx hb dX0_digest_12 rfl hl (by decide) rfl (fun ls hl => ?_)
  refine lv_lload_n hx hb dX0_digest_13 rfl (lv_at hl 0 rfl) ?_
  refine lv_aload_n hx hb dX0_digest_14 rfl (lv_at hl 1 rfl) ?_
  refine w_in_i (va_runV (As := []) (rest := [.long (p_fold 1879 (nw / 48))]) ⟨hx, hb, hml, hown, hts⟩ (c_X0_halfHour l G cI cZ h a F nq no np sh nw H.size ) (cwV 0 hts gX0_digest_X0_halfHour rfl rfl rfl (by decide +kernel) ⟨(Nat.le_of_ble_eq_true rfl), (Nat.le_of_ble_eq_true rfl)⟩) ⟨wPre_blind, va_recv hK hP (ci := 0) (q0 := 0) rfl rfl, w_pre hK hP hD⟩ rfl rfl hl.1 rfl (lv_room (Nat.le_of_ble_eq_true rfl)) dX0_digest_15 ⟨(Nat.le_of_ble_eq_true rfl), (Nat.le_of_ble_eq_true rfl)⟩) hD hS hA (fun r15 u15 H locs hw15 hP hD hS => ?_)
  have hP : va_P G vwCl (Dk cI cZ h a F nq no np sh nw) H := hP
  have hD : va_D A (Dk cI cZ h a F nq no np sh nw) := hD
  have hw15 : r15 = nw - nw / 48 * 48 := hw15
  subst hw15
  refine w_st_l (va_runS (As := [.long (p_fold 1879 (nw / 48)), .int (nw - nw / 48 * 48)]) (rest := []) ⟨hx, hb, hml, hown, hts⟩ (c_X0_fold l G H.size (p_fold 1879 (nw / 48)) (nw - nw / 48 * 48) ) (va_cwS 2 hts gX0_digest_X0_fold rfl rfl rfl (by decide +kernel) ⟨(Nat.le_of_ble_eq_true rfl), (Nat.le_of_ble_eq_true rfl)⟩) ⟨wPre_blind, w_pre (hK.sub [] rfl) w_P0 (w_D0 (A := A))⟩ rfl rfl hl.1 rfl (lv_room (Nat.le_of_ble_eq_true rfl)) dX0_digest_18 ⟨(Nat.le_of_ble_eq_true rfl), (Nat.le_of_ble_eq_true rfl)⟩) hP hS hA (fun r18 u18 H locs hw18 hP hS => ?_)
  have hw18 : r18 = p_fold (p_fold 1879 (nw / 48)) (nw - nw / 48 * 48) := hw18
  subst hw18
  refine lv_lstore_n (lv' := [(1, .long (p_fold (p_fold 1879 (nw / 48)) (nw - nw / 48 * 48))), (0, .ref h)]) hx hb dX0_digest_21 rfl hl (by decide) rfl (fun ls hl => ?_)
  refine lv_lload_n hx hb dX0_digest_22 rfl (lv_at hl 0 rfl) ?_
  refine lv_aload_n hx hb dX0_digest_23 rfl (lv_at hl 1 rfl) ?_
  refine lv_iconst (v := 0) hx hb dX0_digest_24 (by decide) ?_
  refine w_in_i (va_runV (As := [.int 0]) (rest := [.long (p_fold (p_fold 1879 (nw / 48)) (nw - nw / 48 * 48))]) ⟨hx, hb, hml, hown, hts⟩ (c_X0_duskIn l G cI cZ h a F nq no np sh nw H.size 0 (by decide)) (cwV 1 hts gX0_digest_X0_duskIn rfl rfl rfl (by decide +kernel) ⟨(Nat.le_of_ble_eq_true rfl), (Nat.le_of_ble_eq_true rfl)⟩) ⟨wPre_blind, va_recv hK hP (ci := 0) (q0 := 0) rfl rfl, w_pre hK hP hD⟩ rfl rfl hl.1 rfl (lv_room (Nat.le_of_ble_eq_true rfl)) dX0_digest_25 ⟨(Nat.le_of_ble_eq_true rfl), (Nat.le_of_ble_eq_true rfl)⟩) hD hS hA (fun r25 u25 H locs hw25 hP hD hS => ?_)
  have hP : va_P G vwCl (Dk cI cZ h a F nq no np sh nw) H := hP
  have hD : va_D A (Dk cI cZ h a F nq no np sh nw) := hD
  have hw25 : r25 = p_dusk (nw / 48 + 0) sh := hw25
  subst hw25
  rw [Int32.add_zero]
  refine w_st_l (va_runS (As := [.long (p_fold (p_fold 1879 (nw / 48)) (nw - nw / 48 * 48)), .int (p_dusk (nw / 48) sh)]) (rest := []) ⟨hx, hb, hml, hown, hts⟩ (c_X0_fold l G H.size (p_fold (p_fold 1879 (nw / 48)) (nw - nw / 48 * 48)) (p_dusk (nw / 48) sh) ) (va_cwS 2 hts gX0_digest_X0_fold rfl rfl rfl (by decide +kernel) ⟨(Nat.le_of_ble_eq_true rfl), (Nat.le_of_ble_eq_true rfl)⟩) ⟨wPre_blind, w_pre (hK.sub [] rfl) w_P0 (w_D0 (A := A))⟩ rfl rfl hl.1 rfl (lv_room (Nat.le_of_ble_eq_true rfl)) dX0_digest_28 ⟨(Nat.le_of_ble_eq_true rfl), (Nat.le_of_ble_eq_true rfl)⟩) hP hS hA (fun r28 u28 H locs hw28 hP hS => ?_)
  have hw28 : r28 = p_fold (p_fold (p_fold 1879 (nw / 48)) (nw - nw / 48 * 48)) (p_dusk (nw / 48) sh) := hw28
  subst hw28
  refine lv_lstore_n (lv' := [(1, .long (p_fold (p_fold (p_fold 1879 (nw / 48)) (nw - nw / 48 * 48)) (p_dusk (nw / 48) sh))), (0, .ref h)]) hx hb dX0_digest_31 rfl hl (by decide) rfl (fun ls hl => ?_)
  refine lv_lload_n hx hb dX0_digest_32 rfl (lv_at hl 0 rfl) ?_
  refine lv_aload_n hx hb dX0_digest_33 rfl (lv_at hl 1 rfl) ?_
  refine lv_iconst (v := 0) hx hb dX0_digest_34 (by decide) ?_
  refine w_in_i (va_runV (As := [.int 0]) (rest := [.long (p_fold (p_fold (p_fold 1879 (nw / 48)) (nw - nw / 48 * 48)) (p_dusk (nw / 48) sh))]) ⟨hx, hb, hml, hown, hts⟩ (c_X0_dawnIn l G cI cZ h a F nq no np sh nw H.size 0 (by decide)) (cwV 1 hts gX0_digest_X0_dawnIn rfl rfl rfl (by decide +kernel) ⟨(Nat.le_of_ble_eq_true rfl), (Nat.le_of_ble_eq_true rfl)⟩) ⟨wPre_blind, va_recv hK hP (ci := 0) (q0 := 0) rfl rfl, w_pre hK hP hD⟩ rfl rfl hl.1 rfl (lv_room (Nat.le_of_ble_eq_true rfl)) dX0_digest_35 ⟨(Nat.le_of_ble_eq_true rfl), (Nat.le_of_ble_eq_true rfl)⟩) hD hS hA (fun r35 u35 H locs hw35 hP hD hS => ?_)
  have hP : va_P G vwCl (Dk cI cZ h a F nq no np sh nw) H := hP
  have hD : va_D A (Dk cI cZ h a F nq no np sh nw) := hD
  have hw35 : r35 = p_dawn (nw / 48 + 0) := hw35
  subst hw35
  rw [Int32.add_zero]
  refine w_st_l (va_runS (As := [.long (p_fold (p_fold (p_fold 1879 (nw / 48)) (nw - nw / 48 * 48)) (p_dusk (nw / 48) sh)), .int (p_dawn (nw / 48))]) (rest := []) ⟨hx, hb, hml, hown, hts⟩ (c_X0_fold l G H.size (p_fold (p_fold (p_fold 1879 (nw / 48)) (nw - nw / 48 * 48)) (p_dusk (nw / 48) sh)) (p_dawn (nw / 48)) ) (va_cwS 2 hts gX0_digest_X0_fold rfl rfl rfl (by decide +kernel) ⟨(Nat.le_of_ble_eq_true rfl), (Nat.le_of_ble_eq_true rfl)⟩) ⟨wPre_blind, w_pre (hK.sub [] rfl) w_P0 (w_D0 (A := A))⟩ rfl rfl hl.1 rfl (lv_room (Nat.le_of_ble_eq_true rfl)) dX0_digest_38 ⟨(Nat.le_of_ble_eq_true rfl), (Nat.le_of_ble_eq_true rfl)⟩) hP hS hA (fun r38 u38 H locs hw38 hP hS => ?_)
  have hw38 : r38 = p_fold (p_fold (p_fold (p_fold 1879 (nw / 48)) (nw - nw / 48 * 48)) (p_dusk (nw / 48) sh)) (p_dawn (nw / 48)) := hw38
  subst hw38
  refine lv_lstore_n (lv' := [(1, .long (p_fold (p_fold (p_fold (p_fold 1879 (nw / 48)) (nw - nw / 48 * 48)) (p_dusk (nw / 48) sh)) (p_dawn (nw / 48)))), (0, .ref h)]) hx hb dX0_digest_41 rfl hl (by decide) rfl (fun ls hl => ?_)
  refine lv_lload_n hx hb dX0_digest_42 rfl (lv_at hl 0 rfl) ?_
  refine lv_aload_n hx hb dX0_digest_43 rfl (lv_at hl 1 rfl) ?_
  refine va_get (ci := 0) (v := .int (nI nq)) (C := RX0) (T := TX0) (N := 16) hx hb hts hin hown hK hP 0 rfl rfl 11 (by decide) (hts (.fieldLink RX0 44 "CurfewDesk" "quarterCount" "I") (by decide +kernel)) (fun _ h9 => h9) rfl dX0_digest_44 ?_
  refine w_st_l (va_runS (As := [.long (p_fold (p_fold (p_fold (p_fold 1879 (nw / 48)) (nw - nw / 48 * 48)) (p_dusk (nw / 48) sh)) (p_dawn (nw / 48))), .int (nI nq)]) (rest := []) ⟨hx, hb, hml, hown, hts⟩ (c_X0_fold l G H.size (p_fold (p_fold (p_fold (p_fold 1879 (nw / 48)) (nw - nw / 48 * 48)) (p_dusk (nw / 48) sh)) (p_dawn (nw / 48))) (nI nq) ) (va_cwS 2 hts gX0_digest_X0_fold rfl rfl rfl (by decide +kernel) ⟨(Nat.le_of_ble_eq_true rfl), (Nat.le_of_ble_eq_true rfl)⟩) ⟨wPre_blind, w_pre (hK.sub [] rfl) w_P0 (w_D0 (A := A))⟩ rfl rfl hl.1 rfl (lv_room (Nat.le_of_ble_eq_true rfl)) dX0_digest_47 ⟨(Nat.le_of_ble_eq_true rfl), (Nat.le_of_ble_eq_true rfl)⟩) hP hS hA (fun r47 u47 H locs hw47 hP hS => ?_)
  have hw47 : r47 = p_fold (p_fold (p_fold (p_fold (p_fold 1879 (nw / 48)) (nw - nw / 48 * 48)) (p_dusk (nw / 48) sh)) (p_dawn (nw / 48))) (nI nq) := hw47
  subst hw47
  refine lv_lstore_n (lv' := [(1, .long (p_fold (p_fold (p_fold (p_fold (p_fold 1879 (nw / 48)) (nw - nw / 48 * 48)) (p_dusk (nw / 48) sh)) (p_dawn (nw / 48))) (nI nq))), (0, .ref h)]) hx hb dX0_digest_50 rfl hl (by decide) rfl (fun ls hl => ?_)
  refine lv_lload_n hx hb dX0_digest_51 rfl (lv_at hl 0 rfl) ?_
  refine lv_aload_n hx hb dX0_digest_52 rfl (lv_at hl 1 rfl) ?_
  refine va_get (ci := 0) (v := .int (nI no)) (C := RX0) (T := TX0) (N := 16) hx hb hts hin hown hK hP 0 rfl rfl 12 (by decide) (hts (.fieldLink RX0 74 "CurfewDesk" "orderCount" "I") (by decide +kernel)) (fun _ h9 => h9) rfl dX0_digest_53 ?_
  refine w_st_l (va_runS (As := [.long (p_fold (p_fold (p_fold (p_fold (p_fold 1879 (nw / 48)) (nw - nw / 48 * 48)) (p_dusk (nw / 48) sh)) (p_dawn (nw / 48))) (nI nq)), .int (nI no)]) (rest := []) ⟨hx, hb, hml, hown, hts⟩ (c_X0_fold l G H.size (p_fold (p_fold (p_fold (p_fold (p_fold 1879 (nw / 48)) (nw - nw / 48 * 48)) (p_dusk (nw / 48) sh)) (p_dawn (nw / 48))) (nI nq)) (nI no) ) (va_cwS 2 hts gX0_digest_X0_fold rfl rfl rfl (by decide +kernel) ⟨(Nat.le_of_ble_eq_true rfl), (Nat.le_of_ble_eq_true rfl)⟩) ⟨wPre_blind, w_pre (hK.sub [] rfl) w_P0 (w_D0 (A := A))⟩ rfl rfl hl.1 rfl (lv_room (Nat.le_of_ble_eq_true rfl)) dX0_digest_56 ⟨(Nat.le_of_ble_eq_true rfl), (Nat.le_of_ble_eq_true rfl)⟩) hP hS hA (fun r56 u56 H locs hw56 hP hS => ?_)
  have hw56 : r56 = p_fold (p_fold (p_fold (p_fold (p_fold (p_fold 1879 (nw / 48)) (nw - nw / 48 * 48)) (p_dusk (nw / 48) sh)) (p_dawn (nw / 48))) (nI nq)) (nI no) := hw56
  subst hw56
  refine lv_lstore_n (lv' := [(1, .long (p_fold (p_fold (p_fold (p_fold (p_fold (p_fold 1879 (nw / 48)) (nw - nw / 48 * 48)) (p_dusk (nw / 48) sh)) (p_dawn (nw / 48))) (nI nq)) (nI no))), (0, .ref h)]) hx hb dX0_digest_59 rfl hl (by decide) rfl (fun ls hl => ?_)
  refine lv_lload_n hx hb dX0_digest_60 rfl (lv_at hl 0 rfl) ?_
  refine lv_aload_n hx hb dX0_digest_61 rfl (lv_at hl 1 rfl) ?_
  refine va_get (ci := 0) (v := .int (nI np)) (C := RX0) (T := TX0) (N := 16) hx hb hts hin hown hK hP 0 rfl rfl 13 (by decide) (hts (.fieldLink RX0 59 "CurfewDesk" "personCount" "I") (by decide +kernel)) (fun _ h9 => h9) rfl dX0_digest_62 ?_
  refine w_st_l (va_runS (As := [.long (p_fold (p_fold (p_fold (p_fold (p_fold (p_fold 1879 (nw / 48)) (nw - nw / 48 * 48)) (p_dusk (nw / 48) sh)) (p_dawn (nw / 48))) (nI nq)) (nI no)), .int (nI np)]) (rest := []) ⟨hx, hb, hml, hown, hts⟩ (c_X0_fold l G H.size (p_fold (p_fold (p_fold (p_fold (p_fold (p_fold 1879 (nw / 48)) (nw - nw / 48 * 48)) (p_dusk (nw / 48) sh)) (p_dawn (nw / 48))) (nI nq)) (nI no)) (nI np) ) (va_cwS 2 hts gX0_digest_X0_fold rfl rfl rfl (by decide +kernel) ⟨(Nat.le_of_ble_eq_true rfl), (Nat.le_of_ble_eq_true rfl)⟩) ⟨wPre_blind, w_pre (hK.sub [] rfl) w_P0 (w_D0 (A := A))⟩ rfl rfl hl.1 rfl (lv_room (Nat.le_of_ble_eq_true rfl)) dX0_digest_65 ⟨(Nat.le_of_ble_eq_true rfl), (Nat.le_of_ble_eq_true rfl)⟩) hP hS hA (fun r65 u65 H locs hw65 hP hS => ?_)
  have hw65 : r65 = p_fold (p_fold (p_fold (p_fold (p_fold (p_fold (p_fold 1879 (nw / 48)) (nw - nw / 48 * 48)) (p_dusk (nw / 48) sh)) (p_dawn (nw / 48))) (nI nq)) (nI no)) (nI np) := hw65
  subst hw65
  refine lv_lstore_n (lv' := [(1, .long (p_fold (p_fold (p_fold (p_fold (p_fold (p_fold (p_fold 1879 (nw / 48)) (nw - nw / 48 * 48)) (p_dusk (nw / 48) sh)) (p_dawn (nw / 48))) (nI nq)) (nI no)) (nI np))), (0, .ref h)]) hx hb dX0_digest_68 rfl hl (by decide) rfl (fun ls hl => ?_)
  refine lv_lload_n hx hb dX0_digest_69 rfl (lv_at hl 0 rfl) ?_
  refine lv_aload_n hx hb dX0_digest_70 rfl (lv_at hl 1 rfl) ?_
  refine w_in_i (va_runV (As := []) (rest := [.long (p_fold (p_fold (p_fold (p_fold (p_fold (p_fold (p_fold 1879 (nw / 48)) (nw - nw / 48 * 48)) (p_dusk (nw / 48) sh)) (p_dawn (nw / 48))) (nI nq)) (nI no)) (nI np))]) ⟨hx, hb, hml, hown, hts⟩ (c_X0_ordersOn l G cI cZ h a F nq no np sh nw H.size (by omega)) (cwV 0 hts gX0_digest_X0_ordersOn rfl rfl rfl (by decide +kernel) ⟨(Nat.le_of_ble_eq_true rfl), (Nat.le_of_ble_eq_true rfl)⟩) ⟨wPre_blind, va_recv hK hP (ci := 0) (q0 := 0) rfl rfl, w_pre hK hP hD⟩ rfl rfl hl.1 rfl (lv_room (Nat.le_of_ble_eq_true rfl)) dX0_digest_71 ⟨(Nat.le_of_ble_eq_true rfl), (Nat.le_of_ble_eq_true rfl)⟩) hD hS hA (fun r71 u71 H locs hw71 hP hD hS => ?_)
  have hP : va_P G vwCl (Dk cI cZ h a F nq no np sh nw) H := hP
  have hD : va_D A (Dk cI cZ h a F nq no np sh nw) := hD
  have hw71 : r71 = nI (p_mo F sh no nw) := hw71
  subst hw71
  refine w_st_l (va_runS (As := [.long (p_fold (p_fold (p_fold (p_fold (p_fold (p_fold (p_fold 1879 (nw / 48)) (nw - nw / 48 * 48)) (p_dusk (nw / 48) sh)) (p_dawn (nw / 48))) (nI nq)) (nI no)) (nI np)), .int (nI (p_mo F sh no nw))]) (rest := []) ⟨hx, hb, hml, hown, hts⟩ (c_X0_fold l G H.size (p_fold (p_fold (p_fold (p_fold (p_fold (p_fold (p_fold 1879 (nw / 48)) (nw - nw / 48 * 48)) (p_dusk (nw / 48) sh)) (p_dawn (nw / 48))) (nI nq)) (nI no)) (nI np)) (nI (p_mo F sh no nw)) ) (va_cwS 2 hts gX0_digest_X0_fold rfl rfl rfl (by decide +kernel) ⟨(Nat.le_of_ble_eq_true rfl), (Nat.le_of_ble_eq_true rfl)⟩) ⟨wPre_blind, w_pre (hK.sub [] rfl) w_P0 (w_D0 (A := A))⟩ rfl rfl hl.1 rfl (lv_room (Nat.le_of_ble_eq_true rfl)) dX0_digest_74 ⟨(Nat.le_of_ble_eq_true rfl), (Nat.le_of_ble_eq_true rfl)⟩) hP hS hA (fun r74 u74 H locs hw74 hP hS => ?_)
  have hw74 : r74 = p_fold (p_fold (p_fold (p_fold (p_fold (p_fold (p_fold (p_fold 1879 (nw / 48)) (nw - nw / 48 * 48)) (p_dusk (nw / 48) sh)) (p_dawn (nw / 48))) (nI nq)) (nI no)) (nI np)) (nI (p_mo F sh no nw)) := hw74
  subst hw74
  refine lv_lstore_n (lv' := [(1, .long (p_fold (p_fold (p_fold (p_fold (p_fold (p_fold (p_fold (p_fold 1879 (nw / 48)) (nw - nw / 48 * 48)) (p_dusk (nw / 48) sh)) (p_dawn (nw / 48))) (nI nq)) (nI no)) (nI np)) (nI (p_mo F sh no nw)))), (0, .ref h)]) hx hb dX0_digest_77 rfl hl (by decide) rfl (fun ls hl => ?_)
  refine lv_lload_n hx hb dX0_digest_78 rfl (lv_at hl 0 rfl) ?_
  refine lv_aload_n hx hb dX0_digest_79 rfl (lv_at hl 1 rfl) ?_
  refine va_get (ci := 0) (v := .int sh) (C := RX0) (T := TX0) (N := 16) hx hb hts hin hown hK hP 0 rfl rfl 14 (by decide) (hts (.fieldLink RX0 86 "CurfewDesk" "duskShift" "I") (by decide +kernel)) (fun _ h9 => h9) rfl dX0_digest_80 ?_
  refine w_st_l (va_runS (As := [.long (p_fold (p_fold (p_fold (p_fold (p_fold (p_fold (p_fold (p_fold 1879 (nw / 48)) (nw - nw / 48 * 48)) (p_dusk (nw / 48) sh)) (p_dawn (nw / 48))) (nI nq)) (nI no)) (nI np)) (nI (p_mo F sh no nw))), .int sh]) (rest := []) ⟨hx, hb, hml, hown, hts⟩ (c_X0_fold l G H.size (p_fold (p_fold (p_fold (p_fold (p_fold (p_fold (p_fold (p_fold 1879 (nw / 48)) (nw - nw / 48 * 48)) (p_dusk (nw / 48) sh)) (p_dawn (nw / 48))) (nI nq)) (nI no)) (nI np)) (nI (p_mo F sh no nw))) sh ) (va_cwS 2 hts gX0_digest_X0_fold rfl rfl rfl (by decide +kernel) ⟨(Nat.le_of_ble_eq_true rfl), (Nat.le_of_ble_eq_true rfl)⟩) ⟨wPre_blind, w_pre (hK.sub [] rfl) w_P0 (w_D0 (A := A))⟩ rfl rfl hl.1 rfl (lv_room (Nat.le_of_ble_eq_true rfl)) dX0_digest_83 ⟨(Nat.le_of_ble_eq_true rfl), (Nat.le_of_ble_eq_true rfl)⟩) hP hS hA (fun r83 u83 H locs hw83 hP hS => ?_)
  have hw83 : r83 = p_fold (p_fold (p_fold (p_fold (p_fold (p_fold (p_fold (p_fold (p_fold 1879 (nw / 48)) (nw - nw / 48 * 48)) (p_dusk (nw / 48) sh)) (p_dawn (nw / 48))) (nI nq)) (nI no)) (nI np)) (nI (p_mo F sh no nw))) sh := hw83
  subst hw83
  refine lv_lstore_n (lv' := [(1, .long (p_fold (p_fold (p_fold (p_fold (p_fold (p_fold (p_fold (p_fold (p_fold 1879 (nw / 48)) (nw - nw / 48 * 48)) (p_dusk (nw / 48) sh)) (p_dawn (nw / 48))) (nI nq)) (nI no)) (nI np)) (nI (p_mo F sh no nw))) sh)), (0, .ref h)]) hx hb dX0_digest_86 rfl hl (by decide) rfl (fun ls hl => ?_)
  refine lv_iconst (v := 0) hx hb dX0_digest_87 (by decide) ?_
  refine lv_istore_n (lv' := [(3, .int 0), (1, .long (p_fold (p_fold (p_fold (p_fold (p_fold (p_fold (p_fold (p_fold (p_fold 1879 (nw / 48)) (nw - nw / 48 * 48)) (p_dusk (nw / 48) sh)) (p_dawn (nw / 48))) (nI nq)) (nI no)) (nI np)) (nI (p_mo F sh no nw))) sh)), (0, .ref h)]) hx hb dX0_digest_88 rfl hl (by decide) rfl (fun ls hl => ?_)
  have key89 : ∀ (n i89 : Nat), i89 ≤ 4 → 4 < i89 + n → ∀ (x1 : Int64) (x3 : Int32), x1 = p_fl (F 10) (p_fold (p_fold (p_fold (p_fold (p_fold (p_fold (p_fold (p_fold (p_fold 1879 (nw / 48)) (nw - nw / 48 * 48)) (p_dusk (nw / 48) sh)) (p_dawn (nw / 48))) (nI nq)) (nI no)) (nI np)) (nI (p_mo F sh no nw))) sh) i89 → x3 = nI i89 → ∀ (H : Heap) (locs : List Loc), va_P G vwCl (Dk cI cZ h a F nq no np sh nw) H → va_D A (Dk cI cZ h a F nq no np sh nw) → va_S A s.heap H locs → ∀ ls : Array Slot, lv_has ls 4 [(0, .ref h), (1, .long x1), (3, .int x3)] → W pg l e ({ frames := 6, cells := 0, slots := 0, locals := 140 } : Room) s m ([.ref h] : List Value).toArray below meth cd H locs (0 + 0 + 0 + 0 + 0 + 0 + 0 + 0 + 0 + 0 + 0 + 0 + 0 + 0 + 0) (0 + 0 + 0 + 0 + 0 + 0 + 0 + 0 + 0 + 0 + 0 + 0 + 0 + 0 + 0) (MQ below (va_Ql (fun (r : Int64) (_ : Unit) => r = p_dig F nq no np sh nw) (fun _ => wP G (ty2 cI cZ) (Dk cI cZ h a F nq no np sh nw) A) A) ([.ref h] : List Value).toArray s 0 0 A) (F0 m 89 ls []) := by
    intro n
    induction n with
    | zero => intro i89 h1 h2; exact absurd h2 (by omega)
    | succ n ih89 =>
      intro i89 hi_i89 hn_i89 x1 x3 e1 e3 H locs hP hD hS ls hl
      subst e1 e3
      refine lv_iload_n hx hb dX0_digest_89 rfl (lv_at hl 2 rfl) ?_
      refine lv_iconst (v := 4) hx hb dX0_digest_90 (by decide) ?_
      refine lv_icmp_ge (tgt := 111) hx hb dX0_digest_91 (by decide) (fun c91 => ?_) (fun c91 => ?_)
      · have c91 := (nI_leI (a := 4) (b := i89) (by omega) (by omega)).mp c91
        have ei : 4 = i89 := by omega
        subst ei
        refine lv_iconst (v := 0) hx hb dX0_digest_111 (by decide) ?_
        refine lv_istore_n (lv' := [(3, .int 0), (0, .ref h), (1, .long (p_fl (F 10) (p_fold (p_fold (p_fold (p_fold (p_fold (p_fold (p_fold (p_fold (p_fold 1879 (nw / 48)) (nw - nw / 48 * 48)) (p_dusk (nw / 48) sh)) (p_dawn (nw / 48))) (nI nq)) (nI no)) (nI np)) (nI (p_mo F sh no nw))) sh) 4))]) hx hb dX0_digest_112 rfl hl (by decide) rfl (fun ls hl => ?_)
        have key113 : ∀ (n i113 : Nat), i113 ≤ no → no < i113 + n → ∀ (x1 : Int64) (x3 : Int32), x1 = p_fg (p_fo F sh np nw) (p_fl (F 10) (p_fold (p_fold (p_fold (p_fold (p_fold (p_fold (p_fold (p_fold (p_fold 1879 (nw / 48)) (nw - nw / 48 * 48)) (p_dusk (nw / 48) sh)) (p_dawn (nw / 48))) (nI nq)) (nI no)) (nI np)) (nI (p_mo F sh no nw))) sh) 4) i113 → x3 = nI i113 → ∀ (H : Heap) (locs : List Loc), va_P G vwCl (Dk cI cZ h a F nq no np sh nw) H → va_D A (Dk cI cZ h a F nq no np sh nw) → va_S A s.heap H locs → ∀ ls : Array Slot, lv_has ls 4 [(0, .ref h), (1, .long x1), (3, .int x3)] → W pg l e ({ frames := 6, cells := 0, slots := 0, locals := 140 } : Room) s m ([.ref h] : List Value).toArray below meth cd H locs (0 + 0 + 0 + 0 + 0 + 0 + 0 + 0 + 0 + 0 + 0 + 0 + 0 + 0 + 0) (0 + 0 + 0 + 0 + 0 + 0 + 0 + 0 + 0 + 0 + 0 + 0 + 0 + 0 + 0) (MQ below (va_Ql (fun (r : Int64) (_ : Unit) => r = p_dig F nq no np sh nw) (fun _ => wP G (ty2 cI cZ) (Dk cI cZ h a F nq no np sh nw) A) A) ([.ref h] : List Value).toArray s 0 0 A) (F0 m 113 ls []) := by
          intro n
          induction n with
          | zero => intro i113 h1 h2; exact absurd h2 (by omega)
          | succ n ih113 =>
            intro i113 hi_i113 hn_i113 x1 x3 e1 e3 H locs hP hD hS ls hl
            subst e1 e3
            refine lv_iload_n hx hb dX0_digest_113 rfl (lv_at hl 2 rfl) ?_
            refine lv_aload_n hx hb dX0_digest_114 rfl (lv_at hl 0 rfl) ?_
            refine va_get (ci := 0) (v := .int (nI no)) (C := RX0) (T := TX0) (N := 16) hx hb hts hin hown hK hP 0 rfl rfl 12 (by decide) (hts (.fieldLink RX0 74 "CurfewDesk" "orderCount" "I") (by decide +kernel)) (fun _ h9 => h9) rfl dX0_digest_115 ?_
            refine lv_icmp_ge (tgt := 134) hx hb dX0_digest_118 (by decide) (fun c118 => ?_) (fun c118 => ?_)
            · have c118 := (nI_leI (a := no) (b := i113) (by omega) (by omega)).mp c118
              have ei : no = i113 := by omega
              subst ei
              refine lv_iconst (v := 0) hx hb dX0_digest_134 (by decide) ?_
              refine lv_istore_n (lv' := [(3, .int 0), (0, .ref h), (1, .long (p_fg (p_fo F sh np nw) (p_fl (F 10) (p_fold (p_fold (p_fold (p_fold (p_fold (p_fold (p_fold (p_fold (p_fold 1879 (nw / 48)) (nw - nw / 48 * 48)) (p_dusk (nw / 48) sh)) (p_dawn (nw / 48))) (nI nq)) (nI no)) (nI np)) (nI (p_mo F sh no nw))) sh) 4) no))]) hx hb dX0_digest_135 rfl hl (by decide) rfl (fun ls hl => ?_)
              have key136 : ∀ (n i136 : Nat), i136 ≤ np → np < i136 + n → ∀ (x1 : Int64) (x3 : Int32), x1 = p_fg (p_fp F sh nq no nw) (p_fg (p_fo F sh np nw) (p_fl (F 10) (p_fold (p_fold (p_fold (p_fold (p_fold (p_fold (p_fold (p_fold (p_fold 1879 (nw / 48)) (nw - nw / 48 * 48)) (p_dusk (nw / 48) sh)) (p_dawn (nw / 48))) (nI nq)) (nI no)) (nI np)) (nI (p_mo F sh no nw))) sh) 4) no) i136 → x3 = nI i136 → ∀ (H : Heap) (locs : List Loc), va_P G vwCl (Dk cI cZ h a F nq no np sh nw) H → va_D A (Dk cI cZ h a F nq no np sh nw) → va_S A s.heap H locs → ∀ ls : Array Slot, lv_has ls 4 [(0, .ref h), (1, .long x1), (3, .int x3)] → W pg l e ({ frames := 6, cells := 0, slots := 0, locals := 140 } : Room) s m ([.ref h] : List Value).toArray below meth cd H locs (0 + 0 + 0 + 0 + 0 + 0 + 0 + 0 + 0 + 0 + 0 + 0 + 0 + 0 + 0) (0 + 0 + 0 + 0 + 0 + 0 + 0 + 0 + 0 + 0 + 0 + 0 + 0 + 0 + 0) (MQ below (va_Ql (fun (r : Int64) (_ : Unit) => r = p_dig F nq no np sh nw) (fun _ => wP G (ty2 cI cZ) (Dk cI cZ h a F nq no np sh nw) A) A) ([.ref h] : List Value).toArray s 0 0 A) (F0 m 136 ls []) := by
                intro n
                induction n with
                | zero => intro i136 h1 h2; exact absurd h2 (by omega)
                | succ n ih136 =>
                  intro i136 hi_i136 hn_i136 x1 x3 e1 e3 H locs hP hD hS ls hl
                  subst e1 e3
                  refine lv_iload_n hx hb dX0_digest_136 rfl (lv_at hl 2 rfl) ?_
                  refine lv_aload_n hx hb dX0_digest_137 rfl (lv_at hl 0 rfl) ?_
                  refine va_get (ci := 0) (v := .int (nI np)) (C := RX0) (T := TX0) (N := 16) hx hb hts hin hown hK hP 0 rfl rfl 13 (by decide) (hts (.fieldLink RX0 59 "CurfewDesk" "personCount" "I") (by decide +kernel)) (fun _ h9 => h9) rfl dX0_digest_138 ?_
                  refine lv_icmp_ge (tgt := 157) hx hb dX0_digest_141 (by decide) (fun c141 => ?_) (fun c141 => ?_)
                  · have c141 := (nI_leI (a := np) (b := i136) (by omega) (by omega)).mp c141
                    have ei : np = i136 := by omega
                    subst ei
                    refine lv_lload_n hx hb dX0_digest_157 rfl (lv_at hl 1 rfl) ?_
                    exact w_lret () hx hb hr hlocks hK hP hD hS (Nat.le_of_ble_eq_true rfl) (Nat.le_of_ble_eq_true rfl) dX0_digest_158 (show (p_fg (p_fp F sh nq no nw) (p_fg (p_fo F sh np nw) (p_fl (F 10) (p_fold (p_fold (p_fold (p_fold (p_fold (p_fold (p_fold (p_fold (p_fold 1879 (nw / 48)) (nw - nw / 48 * 48)) (p_dusk (nw / 48) sh)) (p_dawn (nw / 48))) (nI nq)) (nI no)) (nI np)) (nI (p_mo F sh no nw))) sh) 4) no) np) = p_dig F nq no np sh nw from by rfl)
                  · have c141 := mt (nI_leI (a := np) (b := i136) (by omega) (by omega)).mpr c141
                    have hlt_i136 : i136 < np := by omega
                    refine lv_aload_n hx hb dX0_digest_144 rfl (lv_at hl 0 rfl) ?_
                    refine lv_lload_n hx hb dX0_digest_145 rfl (lv_at hl 1 rfl) ?_
                    refine lv_iload_n hx hb dX0_digest_146 rfl (lv_at hl 2 rfl) ?_
                    refine w_in_l (va_runV (As := [.long (p_fg (p_fp F sh nq no nw) (p_fg (p_fo F sh np nw) (p_fl (F 10) (p_fold (p_fold (p_fold (p_fold (p_fold (p_fold (p_fold (p_fold (p_fold 1879 (nw / 48)) (nw - nw / 48 * 48)) (p_dusk (nw / 48) sh)) (p_dawn (nw / 48))) (nI nq)) (nI no)) (nI np)) (nI (p_mo F sh no nw))) sh) 4) no) i136), .int (nI i136)]) (rest := []) ⟨hx, hb, hml, hown, hts⟩ (c_X0_foldPerson l G cI cZ h a F nq no np sh nw H.size (p_fg (p_fp F sh nq no nw) (p_fg (p_fo F sh np nw) (p_fl (F 10) (p_fold (p_fold (p_fold (p_fold (p_fold (p_fold (p_fold (p_fold (p_fold 1879 (nw / 48)) (nw - nw / 48 * 48)) (p_dusk (nw / 48) sh)) (p_dawn (nw / 48))) (nI nq)) (nI no)) (nI np)) (nI (p_mo F sh no nw))) sh) 4) no) i136) i136 (by omega) (by omega) (by omega) (by omega)) (cwV 2 hts gX0_digest_X0_foldPerson rfl rfl rfl (by decide +kernel) ⟨(Nat.le_of_ble_eq_true rfl), (Nat.le_of_ble_eq_true rfl)⟩) ⟨wPre_blind, va_recv hK hP (ci := 0) (q0 := 0) rfl rfl, w_pre hK hP hD⟩ rfl rfl hl.1 rfl (lv_room (Nat.le_of_ble_eq_true rfl)) dX0_digest_147 ⟨(Nat.le_of_ble_eq_true rfl), (Nat.le_of_ble_eq_true rfl)⟩) hD hS hA (fun r147 u147 H locs hw147 hP hD hS => ?_)
                    have hP : va_P G vwCl (Dk cI cZ h a F nq no np sh nw) H := hP
                    have hD : va_D A (Dk cI cZ h a F nq no np sh nw) := hD
                    have hw147 : r147 = p_fp F sh nq no nw i136 (p_fg (p_fp F sh nq no nw) (p_fg (p_fo F sh np nw) (p_fl (F 10) (p_fold (p_fold (p_fold (p_fold (p_fold (p_fold (p_fold (p_fold (p_fold 1879 (nw / 48)) (nw - nw / 48 * 48)) (p_dusk (nw / 48) sh)) (p_dawn (nw / 48))) (nI nq)) (nI no)) (nI np)) (nI (p_mo F sh no nw))) sh) 4) no) i136) := hw147
                    subst hw147
                    refine lv_lstore_n (lv' := [(1, .long (p_fp F sh nq no nw i136 (p_fg (p_fp F sh nq no nw) (p_fg (p_fo F sh np nw) (p_fl (F 10) (p_fold (p_fold (p_fold (p_fold (p_fold (p_fold (p_fold (p_fold (p_fold 1879 (nw / 48)) (nw - nw / 48 * 48)) (p_dusk (nw / 48) sh)) (p_dawn (nw / 48))) (nI nq)) (nI no)) (nI np)) (nI (p_mo F sh no nw))) sh) 4) no) i136))), (0, .ref h), (3, .int (nI i136))]) hx hb dX0_digest_150 rfl hl (by decide) rfl (fun ls hl => ?_)
                    refine lv_iinc (v := nI i136 + 1) (lv' := [(3, .int (nI i136 + 1)), (1, .long (p_fp F sh nq no nw i136 (p_fg (p_fp F sh nq no nw) (p_fg (p_fo F sh np nw) (p_fl (F 10) (p_fold (p_fold (p_fold (p_fold (p_fold (p_fold (p_fold (p_fold (p_fold 1879 (nw / 48)) (nw - nw / 48 * 48)) (p_dusk (nw / 48) sh)) (p_dawn (nw / 48))) (nI nq)) (nI no)) (nI np)) (nI (p_mo F sh no nw))) sh) 4) no) i136))), (0, .ref h)]) hx hb dX0_digest_151 hl (k := 2) rfl rfl (by decide) rfl (fun ls hl => ?_)
                    refine lv_goto (tgt := 136) hx hb dX0_digest_154 (by decide) ?_
                    exact ih136 (i136 + 1) (by omega) (by omega) (p_fp F sh nq no nw i136 (p_fg (p_fp F sh nq no nw) (p_fg (p_fo F sh np nw) (p_fl (F 10) (p_fold (p_fold (p_fold (p_fold (p_fold (p_fold (p_fold (p_fold (p_fold 1879 (nw / 48)) (nw - nw / 48 * 48)) (p_dusk (nw / 48) sh)) (p_dawn (nw / 48))) (nI nq)) (nI no)) (nI np)) (nI (p_mo F sh no nw))) sh) 4) no) i136)) (nI i136 + 1) (by rfl) (by first | exact nI_1 _ | exact nct_t (by assumption) | exact nct_f (by assumption) | exact nct_b | rfl) _ _ hP hD hS _ (lv_sub hl [2, 1, 0] rfl)
              exact key136 (np + 1) 0 (by omega) (by omega) (p_fg (p_fo F sh np nw) (p_fl (F 10) (p_fold (p_fold (p_fold (p_fold (p_fold (p_fold (p_fold (p_fold (p_fold 1879 (nw / 48)) (nw - nw / 48 * 48)) (p_dusk (nw / 48) sh)) (p_dawn (nw / 48))) (nI nq)) (nI no)) (nI np)) (nI (p_mo F sh no nw))) sh) 4) no) 0 (by first | rfl | simp [p_ct, p_sm, p_fl, p_fg, nI_0]) (by first | rfl | simp [p_ct, p_sm, p_fl, p_fg, nI_0]) _ _ hP hD hS _ (lv_sub hl [1, 2, 0] rfl)
            · have c118 := mt (nI_leI (a := no) (b := i113) (by omega) (by omega)).mpr c118
              have hlt_i113 : i113 < no := by omega
              refine lv_aload_n hx hb dX0_digest_121 rfl (lv_at hl 0 rfl) ?_
              refine lv_lload_n hx hb dX0_digest_122 rfl (lv_at hl 1 rfl) ?_
              refine lv_iload_n hx hb dX0_digest_123 rfl (lv_at hl 2 rfl) ?_
              refine w_in_l (va_runV (As := [.long (p_fg (p_fo F sh np nw) (p_fl (F 10) (p_fold (p_fold (p_fold (p_fold (p_fold (p_fold (p_fold (p_fold (p_fold 1879 (nw / 48)) (nw - nw / 48 * 48)) (p_dusk (nw / 48) sh)) (p_dawn (nw / 48))) (nI nq)) (nI no)) (nI np)) (nI (p_mo F sh no nw))) sh) 4) i113), .int (nI i113)]) (rest := []) ⟨hx, hb, hml, hown, hts⟩ (c_X0_foldOrder l G cI cZ h a F nq no np sh nw H.size (p_fg (p_fo F sh np nw) (p_fl (F 10) (p_fold (p_fold (p_fold (p_fold (p_fold (p_fold (p_fold (p_fold (p_fold 1879 (nw / 48)) (nw - nw / 48 * 48)) (p_dusk (nw / 48) sh)) (p_dawn (nw / 48))) (nI nq)) (nI no)) (nI np)) (nI (p_mo F sh no nw))) sh) 4) i113) i113 (by omega) (by omega) (by omega)) (cwV 2 hts gX0_digest_X0_foldOrder rfl rfl rfl (by decide +kernel) ⟨(Nat.le_of_ble_eq_true rfl), (Nat.le_of_ble_eq_true rfl)⟩) ⟨wPre_blind, va_recv hK hP (ci := 0) (q0 := 0) rfl rfl, w_pre hK hP hD⟩ rfl rfl hl.1 rfl (lv_room (Nat.le_of_ble_eq_true rfl)) dX0_digest_124 ⟨(Nat.le_of_ble_eq_true rfl), (Nat.le_of_ble_eq_true rfl)⟩) hD hS hA (fun r124 u124 H locs hw124 hP hD hS => ?_)
              have hP : va_P G vwCl (Dk cI cZ h a F nq no np sh nw) H := hP
              have hD : va_D A (Dk cI cZ h a F nq no np sh nw) := hD
              have hw124 : r124 = p_fo F sh np nw i113 (p_fg (p_fo F sh np nw) (p_fl (F 10) (p_fold (p_fold (p_fold (p_fold (p_fold (p_fold (p_fold (p_fold (p_fold 1879 (nw / 48)) (nw - nw / 48 * 48)) (p_dusk (nw / 48) sh)) (p_dawn (nw / 48))) (nI nq)) (nI no)) (nI np)) (nI (p_mo F sh no nw))) sh) 4) i113) := hw124
              subst hw124
              refine lv_lstore_n (lv' := [(1, .long (p_fo F sh np nw i113 (p_fg (p_fo F sh np nw) (p_fl (F 10) (p_fold (p_fold (p_fold (p_fold (p_fold (p_fold (p_fold (p_fold (p_fold 1879 (nw / 48)) (nw - nw / 48 * 48)) (p_dusk (nw / 48) sh)) (p_dawn (nw / 48))) (nI nq)) (nI no)) (nI np)) (nI (p_mo F sh no nw))) sh) 4) i113))), (0, .ref h), (3, .int (nI i113))]) hx hb dX0_digest_127 rfl hl (by decide) rfl (fun ls hl => ?_)
              refine lv_iinc (v := nI i113 + 1) (lv' := [(3, .int (nI i113 + 1)), (1, .long (p_fo F sh np nw i113 (p_fg (p_fo F sh np nw) (p_fl (F 10) (p_fold (p_fold (p_fold (p_fold (p_fold (p_fold (p_fold (p_fold (p_fold 1879 (nw / 48)) (nw - nw / 48 * 48)) (p_dusk (nw / 48) sh)) (p_dawn (nw / 48))) (nI nq)) (nI no)) (nI np)) (nI (p_mo F sh no nw))) sh) 4) i113))), (0, .ref h)]) hx hb dX0_digest_128 hl (k := 2) rfl rfl (by decide) rfl (fun ls hl => ?_)
              refine lv_goto (tgt := 113) hx hb dX0_digest_131 (by decide) ?_
              exact ih113 (i113 + 1) (by omega) (by omega) (p_fo F sh np nw i113 (p_fg (p_fo F sh np nw) (p_fl (F 10) (p_fold (p_fold (p_fold (p_fold (p_fold (p_fold (p_fold (p_fold (p_fold 1879 (nw / 48)) (nw - nw / 48 * 48)) (p_dusk (nw / 48) sh)) (p_dawn (nw / 48))) (nI nq)) (nI no)) (nI np)) (nI (p_mo F sh no nw))) sh) 4) i113)) (nI i113 + 1) (by rfl) (by first | exact nI_1 _ | exact nct_t (by assumption) | exact nct_f (by assumption) | exact nct_b | rfl) _ _ hP hD hS _ (lv_sub hl [2, 1, 0] rfl)
        exact key113 (no + 1) 0 (by omega) (by omega) (p_fl (F 10) (p_fold (p_fold (p_fold (p_fold (p_fold (p_fold (p_fold (p_fold (p_fold 1879 (nw / 48)) (nw - nw / 48 * 48)) (p_dusk (nw / 48) sh)) (p_dawn (nw / 48))) (nI nq)) (nI no)) (nI np)) (nI (p_mo F sh no nw))) sh) 4) 0 (by first | rfl | simp [p_ct, p_sm, p_fl, p_fg, nI_0]) (by first | rfl | simp [p_ct, p_sm, p_fl, p_fg, nI_0]) _ _ hP hD hS _ (lv_sub hl [1, 2, 0] rfl)
      · have c91 := mt (nI_leI (a := 4) (b := i89) (by omega) (by omega)).mpr c91
        have hlt_i89 : i89 < 4 := by omega
        refine lv_lload_n hx hb dX0_digest_94 rfl (lv_at hl 1 rfl) ?_
        refine lv_aload_n hx hb dX0_digest_95 rfl (lv_at hl 0 rfl) ?_
        refine va_get (ci := 0) (v := .ref (a 10)) (C := RX0) (T := TX0) (N := 16) hx hb hts hin hown hK hP 0 rfl rfl 10 (by decide) (hts (.fieldLink RX0 41 "CurfewDesk" "usedStamps" "[I") (by decide +kernel)) (fun _ h9 => h9) rfl dX0_digest_96 ?_
        refine lv_iload_n hx hb dX0_digest_99 rfl (lv_at hl 2 rfl) ?_
        refine w_iald hx hb hK hP 11 0 rfl rfl (f := (F 10)) (j := i89) (by omega) (by omega) dX0_digest_100 ?_
        refine w_st_l (va_runS (As := [.long (p_fl (F 10) (p_fold (p_fold (p_fold (p_fold (p_fold (p_fold (p_fold (p_fold (p_fold 1879 (nw / 48)) (nw - nw / 48 * 48)) (p_dusk (nw / 48) sh)) (p_dawn (nw / 48))) (nI nq)) (nI no)) (nI np)) (nI (p_mo F sh no nw))) sh) i89), .int ((F 10) i89)]) (rest := []) ⟨hx, hb, hml, hown, hts⟩ (c_X0_fold l G H.size (p_fl (F 10) (p_fold (p_fold (p_fold (p_fold (p_fold (p_fold (p_fold (p_fold (p_fold 1879 (nw / 48)) (nw - nw / 48 * 48)) (p_dusk (nw / 48) sh)) (p_dawn (nw / 48))) (nI nq)) (nI no)) (nI np)) (nI (p_mo F sh no nw))) sh) i89) ((F 10) i89) ) (va_cwS 2 hts gX0_digest_X0_fold rfl rfl rfl (by decide +kernel) ⟨(Nat.le_of_ble_eq_true rfl), (Nat.le_of_ble_eq_true rfl)⟩) ⟨wPre_blind, w_pre (hK.sub [] rfl) w_P0 (w_D0 (A := A))⟩ rfl rfl hl.1 rfl (lv_room (Nat.le_of_ble_eq_true rfl)) dX0_digest_101 ⟨(Nat.le_of_ble_eq_true rfl), (Nat.le_of_ble_eq_true rfl)⟩) hP hS hA (fun r101 u101 H locs hw101 hP hS => ?_)
        have hw101 : r101 = p_fold (p_fl (F 10) (p_fold (p_fold (p_fold (p_fold (p_fold (p_fold (p_fold (p_fold (p_fold 1879 (nw / 48)) (nw - nw / 48 * 48)) (p_dusk (nw / 48) sh)) (p_dawn (nw / 48))) (nI nq)) (nI no)) (nI np)) (nI (p_mo F sh no nw))) sh) i89) ((F 10) i89) := hw101
        subst hw101
        refine lv_lstore_n (lv' := [(1, .long (p_fold (p_fl (F 10) (p_fold (p_fold (p_fold (p_fold (p_fold (p_fold (p_fold (p_fold (p_fold 1879 (nw / 48)) (nw - nw / 48 * 48)) (p_dusk (nw / 48) sh)) (p_dawn (nw / 48))) (nI nq)) (nI no)) (nI np)) (nI (p_mo F sh no nw))) sh) i89) ((F 10) i89))), (0, .ref h), (3, .int (nI i89))]) hx hb dX0_digest_104 rfl hl (by decide) rfl (fun ls hl => ?_)
        refine lv_iinc (v := nI i89 + 1) (lv' := [(3, .int (nI i89 + 1)), (1, .long (p_fold (p_fl (F 10) (p_fold (p_fold (p_fold (p_fold (p_fold (p_fold (p_fold (p_fold (p_fold 1879 (nw / 48)) (nw - nw / 48 * 48)) (p_dusk (nw / 48) sh)) (p_dawn (nw / 48))) (nI nq)) (nI no)) (nI np)) (nI (p_mo F sh no nw))) sh) i89) ((F 10) i89))), (0, .ref h)]) hx hb dX0_digest_105 hl (k := 2) rfl rfl (by decide) rfl (fun ls hl => ?_)
        refine lv_goto (tgt := 89) hx hb dX0_digest_108 (by decide) ?_
        exact ih89 (i89 + 1) (by omega) (by omega) (p_fold (p_fl (F 10) (p_fold (p_fold (p_fold (p_fold (p_fold (p_fold (p_fold (p_fold (p_fold 1879 (nw / 48)) (nw - nw / 48 * 48)) (p_dusk (nw / 48) sh)) (p_dawn (nw / 48))) (nI nq)) (nI no)) (nI np)) (nI (p_mo F sh no nw))) sh) i89) ((F 10) i89)) (nI i89 + 1) (by rfl) (by first | exact nI_1 _ | exact nct_t (by assumption) | exact nct_f (by assumption) | exact nct_b | rfl) _ _ hP hD hS _ (lv_sub hl [2, 1, 0] rfl)
  exact key89 (4 + 1) 0 (by omega) (by omega) (p_fold (p_fold (p_fold (p_fold (p_fold (p_fold (p_fold (p_fold (p_fold 1879 (nw / 48)) (nw - nw / 48 * 48)) (p_dusk (nw / 48) sh)) (p_dawn (nw / 48))) (nI nq)) (nI no)) (nI np)) (nI (p_mo F sh no nw))) sh) 0 (by first | rfl | simp [p_ct, p_sm, p_fl, p_fg, nI_0]) (by first | rfl | simp [p_ct, p_sm, p_fl, p_fg, nI_0]) _ _ hP hD hS _ (lv_sub hl [2, 1, 0] rfl)
