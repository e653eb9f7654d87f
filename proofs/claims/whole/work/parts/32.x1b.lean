set_option maxHeartbeats 4000000 in
set_option maxRecDepth 100000 in
theorem c_X1_day (l : Launch) (G : va_G) (cI cZ : ClassId) (h : Nat) (a : Nat → Nat) (F : Nat → Nat → Int32) (nq no np : Nat) (sh nw : Int32) (th : Int32) (wt : Nat → Int32) (sz : Nat) : Met l yX1_day wsX1_day ({ frames := 0, cells := 0, slots := 0, locals := 0 } : Room) (va_Pc [.ref h] (wPre G (ty2 cI cZ) (Mk cI cZ h a F nq no np sh nw th wt) sz)) (va_Qi (fun (r : Int32) (_ : Unit) => r = nw / 48) (fun _ => wP G (ty2 cI cZ) (Mk cI cZ h a F nq no np sh nw 0 wt) (va_A (Mk cI cZ h a F nq no np sh nw th wt) sz)) (va_A (Mk cI cZ h a F nq no np sh nw th wt) sz)) 0 0 (va_A (Mk cI cZ h a F nq no np sh nw th wt) sz) := by
  refine w_met (cc := cX1_day) (maxL := 1) (ret := (some .int)) (by decide) rfl (Nat.le_of_ble_eq_true rfl) ?_
  intro pg e s m below meth cd hx hb hml hr hts hown hlocks hnm hK hsz hP hD hA hS ls hl
  have hown : s.vm.findClass RX1 = some m.cls := hown
  have hin : ∀ w ∈ wsX10, w ∈ wsX1_day := by decide +kernel
  have hl : lv_has ls 1 [(0, .ref h)] := hl
  generalize hAe : va_A (Mk cI cZ h a F nq no np sh nw th wt) sz = A at hD hA hS ⊢
  refine lv_aload_n hx hb dX1_day_0 rfl (lv_at hl 0 rfl) ?_
  refine lv_iconst (v := 0) hx hb dX1_day_1 (by decide) ?_
  refine va_put (ci := 1) (v := .int 0) (ty := .int) (C := RX1) (T := TX1) (N := 18) hx hb hts hin tyX1 tyX1_ok nmX1 hown hK hP hD hS 0 rfl rfl 0 (by decide) (hts (.fieldLink RX1 47 "CurfewDeskModel" "thrown" "I") (by decide +kernel)) (fun _ h9 => h9) rfl (by decide +kernel) rfl rfl (Nat.le_of_ble_eq_true rfl) dX1_day_2 (fun H locs hP hD hS => ?_)
  have hP : va_P G vwCl (Mk cI cZ h a F nq no np sh nw 0 wt) H := hP
  have hD : va_D A (Mk cI cZ h a F nq no np sh nw 0 wt) := hD
  refine lv_aload_n hx hb dX1_day_5 rfl (lv_at hl 0 rfl) ?_
  refine va_get (ci := 1) (v := .int nw) (C := RX1) (T := TX1) (N := 18) hx hb hts hin hown hK hP 0 rfl rfl 1 (by decide) (hts (.fieldLink RX1 122 "CurfewDeskModel" "time" "I") (by decide +kernel)) (fun _ h9 => h9) rfl dX1_day_6 ?_
  refine lv_bipush (v := 48) hx hb dX1_day_9 (by decide) ?_
  refine lv_idiv hx hb dX1_day_11 (by decide) ?_
  exact w_iret () hx hb hr hlocks hK hP hD hS (Nat.le_of_ble_eq_true rfl) (Nat.le_of_ble_eq_true rfl) dX1_day_12 (show (nw / 48) = nw / 48 from by rfl)
set_option maxHeartbeats 4000000 in
set_option maxRecDepth 100000 in
theorem c_X1_halfHour (l : Launch) (G : va_G) (cI cZ : ClassId) (h : Nat) (a : Nat → Nat) (F : Nat → Nat → Int32) (nq no np : Nat) (sh nw : Int32) (th : Int32) (wt : Nat → Int32) (sz : Nat) : Met l yX1_halfHour wsX1_halfHour ({ frames := 0, cells := 0, slots := 0, locals := 0 } : Room) (va_Pc [.ref h] (wPre G (ty2 cI cZ) (Mk cI cZ h a F nq no np sh nw th wt) sz)) (va_Qi (fun (r : Int32) (_ : Unit) => r = nw - nw / 48 * 48) (fun _ => wP G (ty2 cI cZ) (Mk cI cZ h a F nq no np sh nw 0 wt) (va_A (Mk cI cZ h a F nq no np sh nw th wt) sz)) (va_A (Mk cI cZ h a F nq no np sh nw th wt) sz)) 0 0 (va_A (Mk cI cZ h a F nq no np sh nw th wt) sz) := by
  refine w_met (cc := cX1_halfHour) (maxL := 1) (ret := (some .int)) (by decide) rfl (Nat.le_of_ble_eq_true rfl) ?_
  intro pg e s m below meth cd hx hb hml hr hts hown hlocks hnm hK hsz hP hD hA hS ls hl
  have hown : s.vm.findClass RX1 = some m.cls := hown
  have hin : ∀ w ∈ wsX10, w ∈ wsX1_halfHour := by decide +kernel
  have hl : lv_has ls 1 [(0, .ref h)] := hl
  generalize hAe : va_A (Mk cI cZ h a F nq no np sh nw th wt) sz = A at hD hA hS ⊢
  refine lv_aload_n hx hb dX1_halfHour_0 rfl (lv_at hl 0 rfl) ?_
  refine lv_iconst (v := 0) hx hb dX1_halfHour_1 (by decide) ?_
  refine va_put (ci := 1) (v := .int 0) (ty := .int) (C := RX1) (T := TX1) (N := 18) hx hb hts hin tyX1 tyX1_ok nmX1 hown hK hP hD hS 0 rfl rfl 0 (by decide) (hts (.fieldLink RX1 47 "CurfewDeskModel" "thrown" "I") (by decide +kernel)) (fun _ h9 => h9) rfl (by decide +kernel) rfl rfl (Nat.le_of_ble_eq_true rfl) dX1_halfHour_2 (fun H locs hP hD hS => ?_)
  have hP : va_P G vwCl (Mk cI cZ h a F nq no np sh nw 0 wt) H := hP
  have hD : va_D A (Mk cI cZ h a F nq no np sh nw 0 wt) := hD
  refine lv_aload_n hx hb dX1_halfHour_5 rfl (lv_at hl 0 rfl) ?_
  refine va_get (ci := 1) (v := .int nw) (C := RX1) (T := TX1) (N := 18) hx hb hts hin hown hK hP 0 rfl rfl 1 (by decide) (hts (.fieldLink RX1 122 "CurfewDeskModel" "time" "I") (by decide +kernel)) (fun _ h9 => h9) rfl dX1_halfHour_6 ?_
  refine lv_bipush (v := 48) hx hb dX1_halfHour_9 (by decide) ?_
  refine lv_irem hx hb dX1_halfHour_11 (by decide) ?_
  exact w_iret () hx hb hr hlocks hK hP hD hS (Nat.le_of_ble_eq_true rfl) (Nat.le_of_ble_eq_true rfl) dX1_halfHour_12 (show (nw - nw / 48 * 48) = nw - nw / 48 * 48 from by rfl)
set_option maxHeartbeats 4000000 in
set_option maxRecDepth 100000 in
theorem c_X1_quarters (l : Launch) (G : va_G) (cI cZ : ClassId) (h : Nat) (a : Nat → Nat) (F : Nat → Nat → Int32) (nq no np : Nat) (sh nw : Int32) (th : Int32) (wt : Nat → Int32) (sz : Nat) : Met l yX1_quarters wsX1_quarters ({ frames := 0, cells := 0, slots := 0, locals := 0 } : Room) (va_Pc [.ref h] (wPre G (ty2 cI cZ) (Mk cI cZ h a F nq no np sh nw th wt) sz)) (va_Qi (fun (r : Int32) (_ : Unit) => r = nI nq) (fun _ => wP G (ty2 cI cZ) (Mk cI cZ h a F nq no np sh nw 0 wt) (va_A (Mk cI cZ h a F nq no np sh nw th wt) sz)) (va_A (Mk cI cZ h a F nq no np sh nw th wt) sz)) 0 0 (va_A (Mk cI cZ h a F nq no np sh nw th wt) sz) := by
  refine w_met (cc := cX1_quarters) (maxL := 1) (ret := (some .int)) (by decide) rfl (Nat.le_of_ble_eq_true rfl) ?_
  intro pg e s m below meth cd hx hb hml hr hts hown hlocks hnm hK hsz hP hD hA hS ls hl
  have hown : s.vm.findClass RX1 = some m.cls := hown
  have hin : ∀ w ∈ wsX10, w ∈ wsX1_quarters := by decide +kernel
  have hl : lv_has ls 1 [(0, .ref h)] := hl
  generalize hAe : va_A (Mk cI cZ h a F nq no np sh nw th wt) sz = A at hD hA hS ⊢
  refine lv_aload_n hx hb dX1_quarters_0 rfl (lv_at hl 0 rfl) ?_
  refine lv_iconst (v := 0) hx hb dX1_quarters_1 (by decide) ?_
  refine va_put (ci := 1) (v := .int 0) (ty := .int) (C := RX1) (T := TX1) (N := 18) hx hb hts hin tyX1 tyX1_ok nmX1 hown hK hP hD hS 0 rfl rfl 0 (by decide) (hts (.fieldLink RX1 47 "CurfewDeskModel" "thrown" "I") (by decide +kernel)) (fun _ h9 => h9) rfl (by decide +kernel) rfl rfl (Nat.le_of_ble_eq_true rfl) dX1_quarters_2 (fun H locs hP hD hS => ?_)
  have hP : va_P G vwCl (Mk cI cZ h a F nq no np sh nw 0 wt) H := hP
  have hD : va_D A (Mk cI cZ h a F nq no np sh nw 0 wt) := hD
  refine lv_aload_n hx hb dX1_quarters_5 rfl (lv_at hl 0 rfl) ?_
  refine va_get (ci := 1) (v := .int (nI nq)) (C := RX1) (T := TX1) (N := 18) hx hb hts hin hown hK hP 0 rfl rfl 3 (by decide) (hts (.fieldLink RX1 51 "CurfewDeskModel" "quarters" "I") (by decide +kernel)) (fun _ h9 => h9) rfl dX1_quarters_6 ?_
  exact w_iret () hx hb hr hlocks hK hP hD hS (Nat.le_of_ble_eq_true rfl) (Nat.le_of_ble_eq_true rfl) dX1_quarters_9 (show (nI nq) = nI nq from by rfl)
set_option maxHeartbeats 4000000 in
set_option maxRecDepth 100000 in
theorem c_X1_orders (l : Launch) (G : va_G) (cI cZ : ClassId) (h : Nat) (a : Nat → Nat) (F : Nat → Nat → Int32) (nq no np : Nat) (sh nw : Int32) (th : Int32) (wt : Nat → Int32) (sz : Nat) : Met l yX1_orders wsX1_orders ({ frames := 0, cells := 0, slots := 0, locals := 0 } : Room) (va_Pc [.ref h] (wPre G (ty2 cI cZ) (Mk cI cZ h a F nq no np sh nw th wt) sz)) (va_Qi (fun (r : Int32) (_ : Unit) => r = nI no) (fun _ => wP G (ty2 cI cZ) (Mk cI cZ h a F nq no np sh nw 0 wt) (va_A (Mk cI cZ h a F nq no np sh nw th wt) sz)) (va_A (Mk cI cZ h a F nq no np sh nw th wt) sz)) 0 0 (va_A (Mk cI cZ h a F nq no np sh nw th wt) sz) := by
  refine w_met (cc := cX1_orders) (maxL := 1) (ret := (some .int)) (by decide) rfl (Nat.le_of_ble_eq_true rfl) ?_
  intro pg e s m below meth cd hx hb hml hr hts hown hlocks hnm hK hsz hP hD hA hS ls hl
  have hown : s.vm.findClass RX1 = some m.cls := hown
  have hin : ∀ w ∈ wsX10, w ∈ wsX1_orders := by decide +kernel
  have hl : lv_has ls 1 [(0, .ref h)] := hl
  generalize hAe : va_A (Mk cI cZ h a F nq no np sh nw th wt) sz = A at hD hA hS ⊢
  refine lv_aload_n hx hb dX1_orders_0 rfl (lv_at hl 0 rfl) ?_
  refine lv_iconst (v := 0) hx hb dX1_orders_1 (by decide) ?_
  refine va_put (ci := 1) (v := .int 0) (ty := .int) (C := RX1) (T := TX1) (N := 18) hx hb hts hin tyX1 tyX1_ok nmX1 hown hK hP hD hS 0 rfl rfl 0 (by decide) (hts (.fieldLink RX1 47 "CurfewDeskModel" "thrown" "I") (by decide +kernel)) (fun _ h9 => h9) rfl (by decide +kernel) rfl rfl (Nat.le_of_ble_eq_true rfl) dX1_orders_2 (fun H locs hP hD hS => ?_)
  have hP : va_P G vwCl (Mk cI cZ h a F nq no np sh nw 0 wt) H := hP
  have hD : va_D A (Mk cI cZ h a F nq no np sh nw 0 wt) := hD
  refine lv_aload_n hx hb dX1_orders_5 rfl (lv_at hl 0 rfl) ?_
  refine va_get (ci := 1) (v := .int (nI no)) (C := RX1) (T := TX1) (N := 18) hx hb hts hin hown hK hP 0 rfl rfl 4 (by decide) (hts (.fieldLink RX1 58 "CurfewDeskModel" "orders" "I") (by decide +kernel)) (fun _ h9 => h9) rfl dX1_orders_6 ?_
  exact w_iret () hx hb hr hlocks hK hP hD hS (Nat.le_of_ble_eq_true rfl) (Nat.le_of_ble_eq_true rfl) dX1_orders_9 (show (nI no) = nI no from by rfl)
set_option maxHeartbeats 4000000 in
set_option maxRecDepth 100000 in
theorem c_X1_people (l : Launch) (G : va_G) (cI cZ : ClassId) (h : Nat) (a : Nat → Nat) (F : Nat → Nat → Int32) (nq no np : Nat) (sh nw : Int32) (th : Int32) (wt : Nat → Int32) (sz : Nat) : Met l yX1_people wsX1_people ({ frames := 0, cells := 0, slots := 0, locals := 0 } : Room) (va_Pc [.ref h] (wPre G (ty2 cI cZ) (Mk cI cZ h a F nq no np sh nw th wt) sz)) (va_Qi (fun (r : Int32) (_ : Unit) => r = nI np) (fun _ => wP G (ty2 cI cZ) (Mk cI cZ h a F nq no np sh nw 0 wt) (va_A (Mk cI cZ h a F nq no np sh nw th wt) sz)) (va_A (Mk cI cZ h a F nq no np sh nw th wt) sz)) 0 0 (va_A (Mk cI cZ h a F nq no np sh nw th wt) sz) := by
  refine w_met (cc := cX1_people) (maxL := 1) (ret := (some .int)) (by decide) rfl (Nat.le_of_ble_eq_true rfl) ?_
  intro pg e s m below meth cd hx hb hml hr hts hown hlocks hnm hK hsz hP hD hA hS ls hl
  have hown : s.vm.findClass RX1 = some m.cls := hown
  have hin : ∀ w ∈ wsX10, w ∈ wsX1_people := by decide +kernel
  have hl : lv_has ls 1 [(0, .ref h)] := hl
  generalize hAe : va_A (Mk cI cZ h a F nq no np sh nw th wt) sz = A at hD hA hS ⊢
  refine lv_aload_n hx hb dX1_people_0 rfl (lv_at hl 0 rfl) ?_
  refine lv_iconst (v := 0) hx hb dX1_people_1 (by decide) ?_
  refine va_put (ci := 1) (v := .int 0) (ty := .int) (C := RX1) (T := TX1) (N := 18) hx hb hts hin tyX1 tyX1_ok nmX1 hown hK hP hD hS 0 rfl rfl 0 (by decide) (hts (.fieldLink RX1 47 "CurfewDeskModel" "thrown" "I") (by decide +kernel)) (fun _ h9 => h9) rfl (by decide +kernel) rfl rfl (Nat.le_of_ble_eq_true rfl) dX1_people_2 (fun H locs hP hD hS => ?_)
  have hP : va_P G vwCl (Mk cI cZ h a F nq no np sh nw 0 wt) H := hP
  have hD : va_D A (Mk cI cZ h a F nq no np sh nw 0 wt) := hD
  refine lv_aload_n hx hb dX1_people_5 rfl (lv_at hl 0 rfl) ?_
  refine va_get (ci := 1) (v := .int (nI np)) (C := RX1) (T := TX1) (N := 18) hx hb hts hin hown hK hP 0 rfl rfl 5 (by decide) (hts (.fieldLink RX1 61 "CurfewDeskModel" "people" "I") (by decide +kernel)) (fun _ h9 => h9) rfl dX1_people_6 ?_
  exact w_iret () hx hb hr hlocks hK hP hD hS (Nat.le_of_ble_eq_true rfl) (Nat.le_of_ble_eq_true rfl) dX1_people_9 (show (nI np) = nI np from by rfl)
set_option maxHeartbeats 4000000 in
set_option maxRecDepth 100000 in
theorem c_X1_shift (l : Launch) (G : va_G) (cI cZ : ClassId) (h : Nat) (a : Nat → Nat) (F : Nat → Nat → Int32) (nq no np : Nat) (sh nw : Int32) (th : Int32) (wt : Nat → Int32) (sz : Nat) : Met l yX1_shift wsX1_shift ({ frames := 0, cells := 0, slots := 0, locals := 0 } : Room) (va_Pc [.ref h] (wPre G (ty2 cI cZ) (Mk cI cZ h a F nq no np sh nw th wt) sz)) (va_Qi (fun (r : Int32) (_ : Unit) => r = sh) (fun _ => wP G (ty2 cI cZ) (Mk cI cZ h a F nq no np sh nw 0 wt) (va_A (Mk cI cZ h a F nq no np sh nw th wt) sz)) (va_A (Mk cI cZ h a F nq no np sh nw th wt) sz)) 0 0 (va_A (Mk cI cZ h a F nq no np sh nw th wt) sz) := by
  refine w_met (cc := cX1_shift) (maxL := 1) (ret := (some .int)) (by decide) rfl (Nat.le_of_ble_eq_true rfl) ?_
  intro pg e s m below meth cd hx hb hml hr hts hown hlocks hnm hK hsz hP hD hA hS ls hl
  have hown : s.vm.findClass RX1 = some m.cls := hown
  have hin : ∀ w ∈ wsX10, w ∈ wsX1_shift := by decide +kernel
  have hl : lv_has ls 1 [(0, .ref h)] := hl
  generalize hAe : va_A (Mk cI cZ h a F nq no np sh nw th wt) sz = A at hD hA hS ⊢
  refine lv_aload_n hx hb dX1_shift_0 rfl (lv_at hl 0 rfl) ?_
  refine lv_iconst (v := 0) hx hb dX1_shift_1 (by decide) ?_
  refine va_put (ci := 1) (v := .int 0) (ty := .int) (C := RX1) (T := TX1) (N := 18) hx hb hts hin tyX1 tyX1_ok nmX1 hown hK hP hD hS 0 rfl rfl 0 (by decide) (hts (.fieldLink RX1 47 "CurfewDeskModel" "thrown" "I") (by decide +kernel)) (fun _ h9 => h9) rfl (by decide +kernel) rfl rfl (Nat.le_of_ble_eq_true rfl) dX1_shift_2 (fun H locs hP hD hS => ?_)
  have hP : va_P G vwCl (Mk cI cZ h a F nq no np sh nw 0 wt) H := hP
  have hD : va_D A (Mk cI cZ h a F nq no np sh nw 0 wt) := hD
  refine lv_aload_n hx hb dX1_shift_5 rfl (lv_at hl 0 rfl) ?_
  refine va_get (ci := 1) (v := .int sh) (C := RX1) (T := TX1) (N := 18) hx hb hts hin hown hK hP 0 rfl rfl 2 (by decide) (hts (.fieldLink RX1 68 "CurfewDeskModel" "shift" "I") (by decide +kernel)) (fun _ h9 => h9) rfl dX1_shift_6 ?_
  exact w_iret () hx hb hr hlocks hK hP hD hS (Nat.le_of_ble_eq_true rfl) (Nat.le_of_ble_eq_true rfl) dX1_shift_9 (show sh = sh from by rfl)
set_option maxHeartbeats 4000000 in
set_option maxRecDepth 100000 in
theorem c_X1_ordersOn (l : Launch) (G : va_G) (cI cZ : ClassId) (h : Nat) (a : Nat → Nat) (F : Nat → Nat → Int32) (nq no np : Nat) (sh nw : Int32) (th : Int32) (wt : Nat → Int32) (sz : Nat) (hno : no ≤ 10) : Met l yX1_ordersOn wsX1_ordersOn ({ frames := 5, cells := 0, slots := 0, locals := 110 } : Room) (va_Pc [.ref h] (wPre G (ty2 cI cZ) (Mk cI cZ h a F nq no np sh nw th wt) sz)) (va_Qi (fun (r : Int32) (_ : Unit) => r = nI (p_mo F sh no nw)) (fun _ => wP G (ty2 cI cZ) (Mk cI cZ h a F nq no np sh nw 0 wt) (va_A (Mk cI cZ h a F nq no np sh nw th wt) sz)) (va_A (Mk cI cZ h a F nq no np sh nw th wt) sz)) 0 0 (va_A (Mk cI cZ h a F nq no np sh nw th wt) sz) := by
  refine w_met (cc := cX1_ordersOn) (maxL := 1) (ret := (some .int)) (by decide) rfl (Nat.le_of_ble_eq_true rfl) ?_
  intro pg e s m below meth cd hx hb hml hr hts hown hlocks hnm hK hsz hP hD hA hS ls hl
  have hown : s.vm.findClass RX1 = some m.cls := hown
  have hin : ∀ w ∈ wsX10, w ∈ wsX1_ordersOn := by decide +kernel
  have hl : lv_has ls 1 [(0, .ref h)] := hl
  generalize hAe : va_A (Mk cI cZ h a F nq no np sh nw th wt) sz = A at hD hA hS ⊢
  refine lv_aload_n hx hb dX1_ordersOn_0 rfl (lv_at hl 0 rfl) ?_
  refine lv_iconst (v := 0) hx hb dX1_ordersOn_1 (by decide) ?_
  refine va_put (ci := 1) (v := .int 0) (ty := .int) (C := RX1) (T := TX1) (N := 18) hx hb hts hin tyX1 tyX1_ok nmX1 hown hK hP hD hS 0 rfl rfl 0 (by decide) (hts (.fieldLink RX1 47 "CurfewDeskModel" "thrown" "I") (by decide +kernel)) (fun _ h9 => h9) rfl (by decide +kernel) rfl rfl (Nat.le_of_ble_eq_true rfl) dX1_ordersOn_2 (fun H locs hP hD hS => ?_)
  have hP : va_P G vwCl (Mk cI cZ h a F nq no np sh nw 0 wt) H := hP
  have hD : va_D A (Mk cI cZ h a F nq no np sh nw 0 wt) := hD
  refine lv_aload_n hx hb dX1_ordersOn_5 rfl (lv_at hl 0 rfl) ?_
  refine w_in_i (va_runV (As := []) (rest := []) ⟨hx, hb, hml, hown, hts⟩ (c_X1_manyOn l G cI cZ h a F nq no np sh nw 0 wt H.size (by omega)) (cwV 0 hts gX1_ordersOn_X1_manyOn rfl rfl rfl (by decide +kernel) ⟨(Nat.le_of_ble_eq_true rfl), (Nat.le_of_ble_eq_true rfl)⟩) ⟨wPre_blind, va_recv hK hP (ci := 1) (q0 := 0) rfl rfl, w_pre hK hP hD⟩ rfl rfl hl.1 rfl (lv_room (Nat.le_of_ble_eq_true rfl)) dX1_ordersOn_6 ⟨(Nat.le_of_ble_eq_true rfl), (Nat.le_of_ble_eq_true rfl)⟩) hD hS hA (fun r6 u6 H locs hw6 hP hD hS => ?_)
  have hP : va_P G vwCl (Mk cI cZ h a F nq no np sh nw 0 wt) H := hP
  have hD : va_D A (Mk cI cZ h a F nq no np sh nw 0 wt) := hD
  have hw6 : r6 = nI (p_mo F sh no nw) := hw6
  subst hw6
  exact w_iret () hx hb hr hlocks hK hP hD hS (Nat.le_of_ble_eq_true rfl) (Nat.le_of_ble_eq_true rfl) dX1_ordersOn_9 (show (nI (p_mo F sh no nw)) = nI (p_mo F sh no nw) from by rfl)
set_option maxHeartbeats 4000000 in
set_option maxRecDepth 100000 in
theorem c_X1_allOwe (l : Launch) (G : va_G) (cI cZ : ClassId) (h : Nat) (a : Nat → Nat) (F : Nat → Nat → Int32) (nq no np : Nat) (sh nw : Int32) (th : Int32) (wt : Nat → Int32) (sz : Nat) (hnp : np ≤ 20) : Met l yX1_allOwe wsX1_allOwe ({ frames := 1, cells := 0, slots := 0, locals := 22 } : Room) (va_Pc [.ref h] (wPre G (ty2 cI cZ) (Mk cI cZ h a F nq no np sh nw th wt) sz)) (va_Qi (fun (r : Int32) (_ : Unit) => r = p_sm (F 8) np) (fun _ => wP G (ty2 cI cZ) (Mk cI cZ h a F nq no np sh nw 0 wt) (va_A (Mk cI cZ h a F nq no np sh nw th wt) sz)) (va_A (Mk cI cZ h a F nq no np sh nw th wt) sz)) 0 0 (va_A (Mk cI cZ h a F nq no np sh nw th wt) sz) := by
  refine w_met (cc := cX1_allOwe) (maxL := 1) (ret := (some .int)) (by decide) rfl (Nat.le_of_ble_eq_true rfl) ?_
  intro pg e s m below meth cd hx hb hml hr hts hown hlocks hnm hK hsz hP hD hA hS ls hl
  have hown : s.vm.findClass RX1 = some m.cls := hown
  have hin : ∀ w ∈ wsX10, w ∈ wsX1_allOwe := by decide +kernel
  have hl : lv_has ls 1 [(0, .ref h)] := hl
  generalize hAe : va_A (Mk cI cZ h a F nq no np sh nw th wt) sz = A at hD hA hS ⊢
  refine lv_aload_n hx hb dX1_allOwe_0 rfl (lv_at hl 0 rfl) ?_
  refine lv_iconst (v := 0) hx hb dX1_allOwe_1 (by decide) ?_
  refine va_put (ci := 1) (v := .int 0) (ty := .int) (C := RX1) (T := TX1) (N := 18) hx hb hts hin tyX1 tyX1_ok nmX1 hown hK hP hD hS 0 rfl rfl 0 (by decide) (hts (.fieldLink RX1 47 "CurfewDeskModel" "thrown" "I") (by decide +kernel)) (fun _ h9 => h9) rfl (by decide +kernel) rfl rfl (Nat.le_of_ble_eq_true rfl) dX1_allOwe_2 (fun H locs hP hD hS => ?_)
  have hP : va_P G vwCl (Mk cI cZ h a F nq no np sh nw 0 wt) H := hP
  have hD : va_D A (Mk cI cZ h a F nq no np sh nw 0 wt) := hD
  refine lv_aload_n hx hb dX1_allOwe_5 rfl (lv_at hl 0 rfl) ?_
  refine w_in_i (va_runV (As := []) (rest := []) ⟨hx, hb, hml, hown, hts⟩ (c_X1_all l G cI cZ h a F nq no np sh nw 0 wt H.size (by omega)) (cwV 0 hts gX1_allOwe_X1_all rfl rfl rfl (by decide +kernel) ⟨(Nat.le_of_ble_eq_true rfl), (Nat.le_of_ble_eq_true rfl)⟩) ⟨wPre_blind, va_recv hK hP (ci := 1) (q0 := 0) rfl rfl, w_pre hK hP hD⟩ rfl rfl hl.1 rfl (lv_room (Nat.le_of_ble_eq_true rfl)) dX1_allOwe_6 ⟨(Nat.le_of_ble_eq_true rfl), (Nat.le_of_ble_eq_true rfl)⟩) hD hS hA (fun r6 u6 H locs hw6 hP hD hS => ?_)
  have hP : va_P G vwCl (Mk cI cZ h a F nq no np sh nw 0 wt) H := hP
  have hD : va_D A (Mk cI cZ h a F nq no np sh nw 0 wt) := hD
  have hw6 : r6 = p_sm (F 8) np := hw6
  subst hw6
  exact w_iret () hx hb hr hlocks hK hP hD hS (Nat.le_of_ble_eq_true rfl) (Nat.le_of_ble_eq_true rfl) dX1_allOwe_9 (show (p_sm (F 8) np) = p_sm (F 8) np from by rfl)
set_option maxHeartbeats 4000000 in
set_option maxRecDepth 100000 in
theorem c_X1_quarterOf (l : Launch) (G : va_G) (cI cZ : ClassId) (h : Nat) (a : Nat → Nat) (F : Nat → Nat → Int32) (nq no np : Nat) (sh nw : Int32) (th : Int32) (wt : Nat → Int32) (sz : Nat) (x : Int32) (hno : no ≤ 10) : Met l yX1_quarterOf wsX1_quarterOf ({ frames := 2, cells := 0, slots := 0, locals := 43 } : Room) (va_Pc [.ref h, .int x] (wPre G (ty2 cI cZ) (Mk cI cZ h a F nq no np sh nw th wt) sz)) (va_Qi (fun (r : Int32) (_ : Unit) => k1 (p_in x no) = 0 → r = F 0 x.toNatClampNeg) (fun _ => wP G (ty2 cI cZ) (Mk cI cZ h a F nq no np sh nw (k1 (p_in x no)) wt) (va_A (Mk cI cZ h a F nq no np sh nw th wt) sz)) (va_A (Mk cI cZ h a F nq no np sh nw th wt) sz)) 0 0 (va_A (Mk cI cZ h a F nq no np sh nw th wt) sz) := by
  refine w_met (cc := cX1_quarterOf) (maxL := 2) (ret := (some .int)) (by decide) rfl (Nat.le_of_ble_eq_true rfl) ?_
  intro pg e s m below meth cd hx hb hml hr hts hown hlocks hnm hK hsz hP hD hA hS ls hl
  have hown : s.vm.findClass RX1 = some m.cls := hown
  have hin : ∀ w ∈ wsX10, w ∈ wsX1_quarterOf := by decide +kernel
  have hl : lv_has ls 2 [(0, .ref h), (1, .int x)] := hl
  generalize hAe : va_A (Mk cI cZ h a F nq no np sh nw th wt) sz = A at hD hA hS ⊢
  refine lv_aload_n hx hb dX1_quarterOf_0 rfl (lv_at hl 0 rfl) ?_
  refine lv_iconst (v := 0) hx hb dX1_quarterOf_1 (by decide) ?_
  refine va_put (ci := 1) (v := .int 0) (ty := .int) (C := RX1) (T := TX1) (N := 18) hx hb hts hin tyX1 tyX1_ok nmX1 hown hK hP hD hS 0 rfl rfl 0 (by decide) (hts (.fieldLink RX1 47 "CurfewDeskModel" "thrown" "I") (by decide +kernel)) (fun _ h9 => h9) rfl (by decide +kernel) rfl rfl (Nat.le_of_ble_eq_true rfl) dX1_quarterOf_2 (fun H locs hP hD hS => ?_)
  have hP : va_P G vwCl (Mk cI cZ h a F nq no np sh nw 0 wt) H := hP
  have hD : va_D A (Mk cI cZ h a F nq no np sh nw 0 wt) := hD
  refine lv_aload_n hx hb dX1_quarterOf_5 rfl (lv_at hl 0 rfl) ?_
  refine lv_iload_n hx hb dX1_quarterOf_6 rfl (lv_at hl 1 rfl) ?_
  refine w_in_i (va_runV (As := [.int x]) (rest := []) ⟨hx, hb, hml, hown, hts⟩ (c_X1_isOrder l G cI cZ h a F nq no np sh nw 0 wt H.size x (by omega)) (cwV 1 hts gX1_quarterOf_X1_isOrder rfl rfl rfl (by decide +kernel) ⟨(Nat.le_of_ble_eq_true rfl), (Nat.le_of_ble_eq_true rfl)⟩) ⟨wPre_blind, va_recv hK hP (ci := 1) (q0 := 0) rfl rfl, w_pre hK hP hD⟩ rfl rfl hl.1 rfl (lv_room (Nat.le_of_ble_eq_true rfl)) dX1_quarterOf_7 ⟨(Nat.le_of_ble_eq_true rfl), (Nat.le_of_ble_eq_true rfl)⟩) hD hS hA (fun r7 u7 H locs hw7 hP hD hS => ?_)
  have hP : va_P G vwCl (Mk cI cZ h a F nq no np sh nw 0 wt) H := hP
  have hD : va_D A (Mk cI cZ h a F nq no np sh nw 0 wt) := hD
  have hw7 : r7 = b2i (p_in x no) := hw7
  subst hw7
  refine lv_if_eq (tgt := 22) hx hb dX1_quarterOf_10 (by decide) (fun c10 => ?_) (fun c10 => ?_)
  · have c10 := b2i_0.mp c10
    refine lv_aload_n hx hb dX1_quarterOf_22 rfl (lv_at hl 0 rfl) ?_
    refine lv_iconst (v := 1) hx hb dX1_quarterOf_23 (by decide) ?_
    refine w_in_i (va_runV (As := [.int 1]) (rest := []) ⟨hx, hb, hml, hown, hts⟩ (c_X1_fail l G cI cZ h a F nq no np sh nw 0 wt H.size 1 ) (cwV 1 hts gX1_quarterOf_X1_fail rfl rfl rfl (by decide +kernel) ⟨(Nat.le_of_ble_eq_true rfl), (Nat.le_of_ble_eq_true rfl)⟩) ⟨wPre_blind, va_recv hK hP (ci := 1) (q0 := 0) rfl rfl, w_pre hK hP hD⟩ rfl rfl hl.1 rfl (lv_room (Nat.le_of_ble_eq_true rfl)) dX1_quarterOf_24 ⟨(Nat.le_of_ble_eq_true rfl), (Nat.le_of_ble_eq_true rfl)⟩) hD hS hA (fun r24 u24 H locs hw24 hP hD hS => ?_)
    have hP : va_P G vwCl (Mk cI cZ h a F nq no np sh nw 1 wt) H := hP
    have hD : va_D A (Mk cI cZ h a F nq no np sh nw 1 wt) := hD
    have hw24 : r24 = 0 := hw24
    subst hw24
    have hk : k1 (p_in x no) = 1 := by rw [c10]; rfl
    have hP : va_P G vwCl (Mk cI cZ h a F nq no np sh nw (k1 (p_in x no)) wt) H := by (simp only [hk, nx0, nx1, nx2, nx3]); exact hP
    have hD : va_D A (Mk cI cZ h a F nq no np sh nw (k1 (p_in x no)) wt) := by (simp only [hk, nx0, nx1, nx2, nx3]); exact hD
    exact w_iret () hx hb hr hlocks hK hP hD hS (Nat.le_of_ble_eq_true rfl) (Nat.le_of_ble_eq_true rfl) dX1_quarterOf_27 (show k1 (p_in x no) = 0 → 0 = F 0 x.toNatClampNeg from by intro hh9; rw [hk] at hh9; exact absurd hh9 (by decide))
  · have c10 := b2i_1.mp c10
    obtain ⟨j, hj, rfl⟩ := pin_of c10
    refine lv_aload_n hx hb dX1_quarterOf_13 rfl (lv_at hl 0 rfl) ?_
    refine va_get (ci := 1) (v := .ref (a 0)) (C := RX1) (T := TX1) (N := 18) hx hb hts hin hown hK hP 0 rfl rfl 6 (by decide) (hts (.fieldLink RX1 9 "CurfewDeskModel" "quarter" "[I") (by decide +kernel)) (fun _ h9 => h9) rfl dX1_quarterOf_14 ?_
    refine lv_iload_n hx hb dX1_quarterOf_17 rfl (lv_at hl 1 rfl) ?_
    refine w_iald hx hb hK hP 1 0 rfl rfl (f := (F 0)) (j := j) (by omega) (by omega) dX1_quarterOf_18 ?_
    refine lv_goto (tgt := 27) hx hb dX1_quarterOf_19 (by decide) ?_
    have hk : k1 (p_in (nI j) no) = 0 := by rw [c10]; rfl
    have hP : va_P G vwCl (Mk cI cZ h a F nq no np sh nw (k1 (p_in (nI j) no)) wt) H := by (simp only [hk, nx0, nx1, nx2, nx3, nI_clamp (show j < 2 ^ 31 by omega)]); exact hP
    have hD : va_D A (Mk cI cZ h a F nq no np sh nw (k1 (p_in (nI j) no)) wt) := by (simp only [hk, nx0, nx1, nx2, nx3, nI_clamp (show j < 2 ^ 31 by omega)]); exact hD
    exact w_iret () hx hb hr hlocks hK hP hD hS (Nat.le_of_ble_eq_true rfl) (Nat.le_of_ble_eq_true rfl) dX1_quarterOf_27 (show k1 (p_in (nI j) no) = 0 → ((F 0) j) = F 0 (nI j).toNatClampNeg from by intro _; simp only [nI_clamp (show j < 2 ^ 31 by omega)])
set_option maxHeartbeats 4000000 in
set_option maxRecDepth 100000 in
theorem c_X1_colourOf (l : Launch) (G : va_G) (cI cZ : ClassId) (h : Nat) (a : Nat → Nat) (F : Nat → Nat → Int32) (nq no np : Nat) (sh nw : Int32) (th : Int32) (wt : Nat → Int32) (sz : Nat) (x : Int32) (hno : no ≤ 10) : Met l yX1_colourOf wsX1_colourOf ({ frames := 2, cells := 0, slots := 0, locals := 43 } : Room) (va_Pc [.ref h, .int x] (wPre G (ty2 cI cZ) (Mk cI cZ h a F nq no np sh nw th wt) sz)) (va_Qi (fun (r : Int32) (_ : Unit) => k1 (p_in x no) = 0 → r = F 3 x.toNatClampNeg) (fun _ => wP G (ty2 cI cZ) (Mk cI cZ h a F nq no np sh nw (k1 (p_in x no)) wt) (va_A (Mk cI cZ h a F nq no np sh nw th wt) sz)) (va_A (Mk cI cZ h a F nq no np sh nw th wt) sz)) 0 0 (va_A (Mk cI cZ h a F nq no np sh nw th wt) sz) := by
  refine w_met (cc := cX1_colourOf) (maxL := 2) (ret := (some .int)) (by decide) rfl (Nat.le_of_ble_eq_true rfl) ?_
  intro pg e s m below meth cd hx hb hml hr hts hown hlocks hnm hK hsz hP hD hA hS ls hl
  have hown : s.vm.findClass RX1 = some m.cls := hown
  have hin : ∀ w ∈ wsX10, w ∈ wsX1_colourOf := by decide +kernel
  have hl : lv_has ls 2 [(0, .ref h), (1, .int x)] := hl
  generalize hAe : va_A (Mk cI cZ h a F nq no np sh nw th wt) sz = A at hD hA hS ⊢
  refine lv_aload_n hx hb dX1_colourOf_0 rfl (lv_at hl 0 rfl) ?_
  refine lv_iconst (v := 0) hx hb dX1_colourOf_1 (by decide) ?_
  refine va_put (ci := 1) (v := .int 0) (ty := .int) (C := RX1) (T := TX1) (N := 18) hx hb hts hin tyX1 tyX1_ok nmX1 hown hK hP hD hS 0 rfl rfl 0 (by decide) (hts (.fieldLink RX1 47 "CurfewDeskModel" "thrown" "I") (by decide +kernel)) (fun _ h9 => h9) rfl (by decide +kernel) rfl rfl (Nat.le_of_ble_eq_true rfl) dX1_colourOf_2 (fun H locs hP hD hS => ?_)
  have hP : va_P G vwCl (Mk cI cZ h a F nq no np sh nw 0 wt) H := hP
  have hD : va_D A (Mk cI cZ h a F nq no np sh nw 0 wt) := hD
  refine lv_aload_n hx hb dX1_colourOf_5 rfl (lv_at hl 0 rfl) ?_
  refine lv_iload_n hx hb dX1_colourOf_6 rfl (lv_at hl 1 rfl) ?_
  refine w_in_i (va_runV (As := [.int x]) (rest := []) ⟨hx, hb, hml, hown, hts⟩ (c_X1_isOrder l G cI cZ h a F nq no np sh nw 0 wt H.size x (by omega)) (cwV 1 hts gX1_colourOf_X1_isOrder rfl rfl rfl (by decide +kernel) ⟨(Nat.le_of_ble_eq_true rfl), (Nat.le_of_ble_eq_true rfl)⟩) ⟨wPre_blind, va_recv hK hP (ci := 1) (q0 := 0) rfl rfl, w_pre hK hP hD⟩ rfl rfl hl.1 rfl (lv_room (Nat.le_of_ble_eq_true rfl)) dX1_colourOf_7 ⟨(Nat.le_of_ble_eq_true rfl), (Nat.le_of_ble_eq_true rfl)⟩) hD hS hA (fun r7 u7 H locs hw7 hP hD hS => ?_)
  have hP : va_P G vwCl (Mk cI cZ h a F nq no np sh nw 0 wt) H := hP
  have hD : va_D A (Mk cI cZ h a F nq no np sh nw 0 wt) := hD
  have hw7 : r7 = b2i (p_in x no) := hw7
  subst hw7
  refine lv_if_eq (tgt := 22) hx hb dX1_colourOf_10 (by decide) (fun c10 => ?_) (fun c10 => ?_)
  · have c10 := b2i_0.mp c10
    refine lv_aload_n hx hb dX1_colourOf_22 rfl (lv_at hl 0 rfl) ?_
    refine lv_iconst (v := 1) hx hb dX1_colourOf_23 (by decide) ?_
    refine w_in_i (va_runV (As := [.int 1]) (rest := []) ⟨hx, hb, hml, hown, hts⟩ (c_X1_fail l G cI cZ h a F nq no np sh nw 0 wt H.size 1 ) (cwV 1 hts gX1_colourOf_X1_fail rfl rfl rfl (by decide +kernel) ⟨(Nat.le_of_ble_eq_true rfl), (Nat.le_of_ble_eq_true rfl)⟩) ⟨wPre_blind, va_recv hK hP (ci := 1) (q0 := 0) rfl rfl, w_pre hK hP hD⟩ rfl rfl hl.1 rfl (lv_room (Nat.le_of_ble_eq_true rfl)) dX1_colourOf_24 ⟨(Nat.le_of_ble_eq_true rfl), (Nat.le_of_ble_eq_true rfl)⟩) hD hS hA (fun r24 u24 H locs hw24 hP hD hS => ?_)
    have hP : va_P G vwCl (Mk cI cZ h a F nq no np sh nw 1 wt) H := hP
    have hD : va_D A (Mk cI cZ h a F nq no np sh nw 1 wt) := hD
    have hw24 : r24 = 0 := hw24
    subst hw24
    have hk : k1 (p_in x no) = 1 := by rw [c10]; rfl
    have hP : va_P G vwCl (Mk cI cZ h a F nq no np sh nw (k1 (p_in x no)) wt) H := by (simp only [hk, nx0, nx1, nx2, nx3]); exact hP
    have hD : va_D A (Mk cI cZ h a F nq no np sh nw (k1 (p_in x no)) wt) := by (simp only [hk, nx0, nx1, nx2, nx3]); exact hD
    exact w_iret () hx hb hr hlocks hK hP hD hS (Nat.le_of_ble_eq_true rfl) (Nat.le_of_ble_eq_true rfl) dX1_colourOf_27 (show k1 (p_in x no) = 0 → 0 = F 3 x.toNatClampNeg from by intro hh9; rw [hk] at hh9; exact absurd hh9 (by decide))
  · have c10 := b2i_1.mp c10
    obtain ⟨j, hj, rfl⟩ := pin_of c10
    refine lv_aload_n hx hb dX1_colourOf_13 rfl (lv_at hl 0 rfl) ?_
    refine va_get (ci := 1) (v := .ref (a 3)) (C := RX1) (T := TX1) (N := 18) hx hb hts hin hown hK hP 0 rfl rfl 9 (by decide) (hts (.fieldLink RX1 19 "CurfewDeskModel" "colour" "[I") (by decide +kernel)) (fun _ h9 => h9) rfl dX1_colourOf_14 ?_
    refine lv_iload_n hx hb dX1_colourOf_17 rfl (lv_at hl 1 rfl) ?_
    refine w_iald hx hb hK hP 4 0 rfl rfl (f := (F 3)) (j := j) (by omega) (by omega) dX1_colourOf_18 ?_
    refine lv_goto (tgt := 27) hx hb dX1_colourOf_19 (by decide) ?_
    have hk : k1 (p_in (nI j) no) = 0 := by rw [c10]; rfl
    have hP : va_P G vwCl (Mk cI cZ h a F nq no np sh nw (k1 (p_in (nI j) no)) wt) H := by (simp only [hk, nx0, nx1, nx2, nx3, nI_clamp (show j < 2 ^ 31 by omega)]); exact hP
    have hD : va_D A (Mk cI cZ h a F nq no np sh nw (k1 (p_in (nI j) no)) wt) := by (simp only [hk, nx0, nx1, nx2, nx3, nI_clamp (show j < 2 ^ 31 by omega)]); exact hD
    exact w_iret () hx hb hr hlocks hK hP hD hS (Nat.le_of_ble_eq_true rfl) (Nat.le_of_ble_eq_true rfl) dX1_colourOf_27 (show k1 (p_in (nI j) no) = 0 → ((F 3) j) = F 3 (nI j).toNatClampNeg from by intro _; simp only [nI_clamp (show j < 2 ^ 31 by omega)])
set_option maxHeartbeats 4000000 in
set_option maxRecDepth 100000 in
theorem c_X1_isInForce (l : Launch) (G : va_G) (cI cZ : ClassId) (h : Nat) (a : Nat → Nat) (F : Nat → Nat → Int32) (nq no np : Nat) (sh nw : Int32) (th : Int32) (wt : Nat → Int32) (sz : Nat) (x : Int32) (hno : no ≤ 10) (H4 : ∀ j, F 4 j = 0 ∨ F 4 j = 1) : Met l yX1_isInForce wsX1_isInForce ({ frames := 2, cells := 0, slots := 0, locals := 43 } : Room) (va_Pc [.ref h, .int x] (wPre G (ty2 cI cZ) (Mk cI cZ h a F nq no np sh nw th wt) sz)) (va_Qi (fun (r : Int32) (_ : Unit) => k1 (p_in x no) = 0 → r = F 4 x.toNatClampNeg) (fun _ => wP G (ty2 cI cZ) (Mk cI cZ h a F nq no np sh nw (k1 (p_in x no)) wt) (va_A (Mk cI cZ h a F nq no np sh nw th wt) sz)) (va_A (Mk cI cZ h a F nq no np sh nw th wt) sz)) 0 0 (va_A (Mk cI cZ h a F nq no np sh nw th wt) sz) := by
  refine w_met (cc := cX1_isInForce) (maxL := 2) (ret := (some .boolean)) (by decide) rfl (Nat.le_of_ble_eq_true rfl) ?_
  intro pg e s m below meth cd hx hb hml hr hts hown hlocks hnm hK hsz hP hD hA hS ls hl
  have hown : s.vm.findClass RX1 = some m.cls := hown
  have hin : ∀ w ∈ wsX10, w ∈ wsX1_isInForce := by decide +kernel
  have hl : lv_has ls 2 [(0, .ref h), (1, .int x)] := hl
  generalize hAe : va_A (Mk cI cZ h a F nq no np sh nw th wt) sz = A at hD hA hS ⊢
  refine lv_aload_n hx hb dX1_isInForce_0 rfl (lv_at hl 0 rfl) ?_
  refine lv_iconst (v := 0) hx hb dX1_isInForce_1 (by decide) ?_
  refine va_put (ci := 1) (v := .int 0) (ty := .int) (C := RX1) (T := TX1) (N := 18) hx hb hts hin tyX1 tyX1_ok nmX1 hown hK hP hD hS 0 rfl rfl 0 (by decide) (hts (.fieldLink RX1 47 "CurfewDeskModel" "thrown" "I") (by decide +kernel)) (fun _ h9 => h9) rfl (by decide +kernel) rfl rfl (Nat.le_of_ble_eq_true rfl) dX1_isInForce_2 (fun H locs hP hD hS => ?_)
  have hP : va_P G vwCl (Mk cI cZ h a F nq no np sh nw 0 wt) H := hP
  have hD : va_D A (Mk cI cZ h a F nq no np sh nw 0 wt) := hD
  refine lv_aload_n hx hb dX1_isInForce_5 rfl (lv_at hl 0 rfl) ?_
  refine lv_iload_n hx hb dX1_isInForce_6 rfl (lv_at hl 1 rfl) ?_
  refine w_in_i (va_runV (As := [.int x]) (rest := []) ⟨hx, hb, hml, hown, hts⟩ (c_X1_isOrder l G cI cZ h a F nq no np sh nw 0 wt H.size x (by omega)) (cwV 1 hts gX1_isInForce_X1_isOrder rfl rfl rfl (by decide +kernel) ⟨(Nat.le_of_ble_eq_true rfl), (Nat.le_of_ble_eq_true rfl)⟩) ⟨wPre_blind, va_recv hK hP (ci := 1) (q0 := 0) rfl rfl, w_pre hK hP hD⟩ rfl rfl hl.1 rfl (lv_room (Nat.le_of_ble_eq_true rfl)) dX1_isInForce_7 ⟨(Nat.le_of_ble_eq_true rfl), (Nat.le_of_ble_eq_true rfl)⟩) hD hS hA (fun r7 u7 H locs hw7 hP hD hS => ?_)
  have hP : va_P G vwCl (Mk cI cZ h a F nq no np sh nw 0 wt) H := hP
  have hD : va_D A (Mk cI cZ h a F nq no np sh nw 0 wt) := hD
  have hw7 : r7 = b2i (p_in x no) := hw7
  subst hw7
  refine lv_if_eq (tgt := 22) hx hb dX1_isInForce_10 (by decide) (fun c10 => ?_) (fun c10 => ?_)
  · have c10 := b2i_0.mp c10
    refine lv_aload_n hx hb dX1_isInForce_22 rfl (lv_at hl 0 rfl) ?_
    refine lv_iconst (v := 1) hx hb dX1_isInForce_23 (by decide) ?_
    refine w_in_i (va_runV (As := [.int 1]) (rest := []) ⟨hx, hb, hml, hown, hts⟩ (c_X1_failed l G cI cZ h a F nq no np sh nw 0 wt H.size 1 ) (cwV 1 hts gX1_isInForce_X1_failed rfl rfl rfl (by decide +kernel) ⟨(Nat.le_of_ble_eq_true rfl), (Nat.le_of_ble_eq_true rfl)⟩) ⟨wPre_blind, va_recv hK hP (ci := 1) (q0 := 0) rfl rfl, w_pre hK hP hD⟩ rfl rfl hl.1 rfl (lv_room (Nat.le_of_ble_eq_true rfl)) dX1_isInForce_24 ⟨(Nat.le_of_ble_eq_true rfl), (Nat.le_of_ble_eq_true rfl)⟩) hD hS hA (fun r24 u24 H locs hw24 hP hD hS => ?_)
    have hP : va_P G vwCl (Mk cI cZ h a F nq no np sh nw 1 wt) H := hP
    have hD : va_D A (Mk cI cZ h a F nq no np sh nw 1 wt) := hD
    have hw24 : r24 = 0 := hw24
    subst hw24
    have hk : k1 (p_in x no) = 1 := by rw [c10]; rfl
    have hP : va_P G vwCl (Mk cI cZ h a F nq no np sh nw (k1 (p_in x no)) wt) H := by (simp only [hk, nx0, nx1, nx2, nx3]); exact hP
    have hD : va_D A (Mk cI cZ h a F nq no np sh nw (k1 (p_in x no)) wt) := by (simp only [hk, nx0, nx1, nx2, nx3]); exact hD
    exact w_zret () hx hb hr hlocks hK hP hD hS (Nat.le_of_ble_eq_true rfl) (Nat.le_of_ble_eq_true rfl) dX1_isInForce_27 rfl (show k1 (p_in x no) = 0 → 0 = F 4 x.toNatClampNeg from by intro hh9; rw [hk] at hh9; exact absurd hh9 (by decide))
  · have c10 := b2i_1.mp c10
    obtain ⟨j, hj, rfl⟩ := pin_of c10
    refine lv_aload_n hx hb dX1_isInForce_13 rfl (lv_at hl 0 rfl) ?_
    refine va_get (ci := 1) (v := .ref (a 4)) (C := RX1) (T := TX1) (N := 18) hx hb hts hin hown hK hP 0 rfl rfl 11 (by decide) (hts (.fieldLink RX1 25 "CurfewDeskModel" "force" "[Z") (by decide +kernel)) (fun _ h9 => h9) rfl dX1_isInForce_14 ?_
    refine lv_iload_n hx hb dX1_isInForce_17 rfl (lv_at hl 1 rfl) ?_
    refine w_zald hx hb hK hP 5 1 rfl rfl (f := (F 4)) (j := j) (by omega) (by omega) dX1_isInForce_18 ?_
    refine lv_goto (tgt := 27) hx hb dX1_isInForce_19 (by decide) ?_
    have hk : k1 (p_in (nI j) no) = 0 := by rw [c10]; rfl
    have hP : va_P G vwCl (Mk cI cZ h a F nq no np sh nw (k1 (p_in (nI j) no)) wt) H := by (simp only [hk, nx0, nx1, nx2, nx3, nI_clamp (show j < 2 ^ 31 by omega)]); exact hP
    have hD : va_D A (Mk cI cZ h a F nq no np sh nw (k1 (p_in (nI j) no)) wt) := by (simp only [hk, nx0, nx1, nx2, nx3, nI_clamp (show j < 2 ^ 31 by omega)]); exact hD
    exact w_zret () hx hb hr hlocks hK hP hD hS (Nat.le_of_ble_eq_true rfl) (Nat.le_of_ble_eq_true rfl) dX1_isInForce_27 (by rcases H4 j with h | h <;> rw [h] <;> rfl) (show k1 (p_in (nI j) no) = 0 → ((F 4) j) = F 4 (nI j).toNatClampNeg from by intro _; simp only [nI_clamp (show j < 2 ^ 31 by omega)])
set_option maxHeartbeats 4000000 in
set_option maxRecDepth 100000 in
theorem c_X1_isOn (l : Launch) (G : va_G) (cI cZ : ClassId) (h : Nat) (a : Nat → Nat) (F : Nat → Nat → Int32) (nq no np : Nat) (sh nw : Int32) (th : Int32) (wt : Nat → Int32) (sz : Nat) (x : Int32) (hno : no ≤ 10) : Met l yX1_isOn wsX1_isOn ({ frames := 4, cells := 0, slots := 0, locals := 88 } : Room) (va_Pc [.ref h, .int x] (wPre G (ty2 cI cZ) (Mk cI cZ h a F nq no np sh nw th wt) sz)) (va_Qi (fun (r : Int32) (_ : Unit) => k1 (p_in x no) = 0 → r = b2i (p_on F sh x.toNatClampNeg nw)) (fun _ => wP G (ty2 cI cZ) (Mk cI cZ h a F nq no np sh nw (k1 (p_in x no)) wt) (va_A (Mk cI cZ h a F nq no np sh nw th wt) sz)) (va_A (Mk cI cZ h a F nq no np sh nw th wt) sz)) 0 0 (va_A (Mk cI cZ h a F nq no np sh nw th wt) sz) := by
  refine w_met (cc := cX1_isOn) (maxL := 2) (ret := (some .boolean)) (by decide) rfl (Nat.le_of_ble_eq_true rfl) ?_
  intro pg e s m below meth cd hx hb hml hr hts hown hlocks hnm hK hsz hP hD hA hS ls hl
  have hown : s.vm.findClass RX1 = some m.cls := hown
  have hin : ∀ w ∈ wsX10, w ∈ wsX1_isOn := by decide +kernel
  have hl : lv_has ls 2 [(0, .ref h), (1, .int x)] := hl
  generalize hAe : va_A (Mk cI cZ h a F nq no np sh nw th wt) sz = A at hD hA hS ⊢
  refine lv_aload_n hx hb dX1_isOn_0 rfl (lv_at hl 0 rfl) ?_
  refine lv_iconst (v := 0) hx hb dX1_isOn_1 (by decide) ?_
  refine va_put (ci := 1) (v := .int 0) (ty := .int) (C := RX1) (T := TX1) (N := 18) hx hb hts hin tyX1 tyX1_ok nmX1 hown hK hP hD hS 0 rfl rfl 0 (by decide) (hts (.fieldLink RX1 47 "CurfewDeskModel" "thrown" "I") (by decide +kernel)) (fun _ h9 => h9) rfl (by decide +kernel) rfl rfl (Nat.le_of_ble_eq_true rfl) dX1_isOn_2 (fun H locs hP hD hS => ?_)
  have hP : va_P G vwCl (Mk cI cZ h a F nq no np sh nw 0 wt) H := hP
  have hD : va_D A (Mk cI cZ h a F nq no np sh nw 0 wt) := hD
  refine lv_aload_n hx hb dX1_isOn_5 rfl (lv_at hl 0 rfl) ?_
  refine lv_iload_n hx hb dX1_isOn_6 rfl (lv_at hl 1 rfl) ?_
  refine w_in_i (va_runV (As := [.int x]) (rest := []) ⟨hx, hb, hml, hown, hts⟩ (c_X1_isOrder l G cI cZ h a F nq no np sh nw 0 wt H.size x (by omega)) (cwV 1 hts gX1_isOn_X1_isOrder rfl rfl rfl (by decide +kernel) ⟨(Nat.le_of_ble_eq_true rfl), (Nat.le_of_ble_eq_true rfl)⟩) ⟨wPre_blind, va_recv hK hP (ci := 1) (q0 := 0) rfl rfl, w_pre hK hP hD⟩ rfl rfl hl.1 rfl (lv_room (Nat.le_of_ble_eq_true rfl)) dX1_isOn_7 ⟨(Nat.le_of_ble_eq_true rfl), (Nat.le_of_ble_eq_true rfl)⟩) hD hS hA (fun r7 u7 H locs hw7 hP hD hS => ?_)
  have hP : va_P G vwCl (Mk cI cZ h a F nq no np sh nw 0 wt) H := hP
  have hD : va_D A (Mk cI cZ h a F nq no np sh nw 0 wt) := hD
  have hw7 : r7 = b2i (p_in x no) := hw7
  subst hw7
  refine lv_if_eq (tgt := 25) hx hb dX1_isOn_10 (by decide) (fun c10 => ?_) (fun c10 => ?_)
  · have c10 := b2i_0.mp c10
    refine lv_aload_n hx hb dX1_isOn_25 rfl (lv_at hl 0 rfl) ?_
    refine lv_iconst (v := 1) hx hb dX1_isOn_26 (by decide) ?_
    refine w_in_i (va_runV (As := [.int 1]) (rest := []) ⟨hx, hb, hml, hown, hts⟩ (c_X1_failed l G cI cZ h a F nq no np sh nw 0 wt H.size 1 ) (cwV 1 hts gX1_isOn_X1_failed rfl rfl rfl (by decide +kernel) ⟨(Nat.le_of_ble_eq_true rfl), (Nat.le_of_ble_eq_true rfl)⟩) ⟨wPre_blind, va_recv hK hP (ci := 1) (q0 := 0) rfl rfl, w_pre hK hP hD⟩ rfl rfl hl.1 rfl (lv_room (Nat.le_of_ble_eq_true rfl)) dX1_isOn_27 ⟨(Nat.le_of_ble_eq_true rfl), (Nat.le_of_ble_eq_true rfl)⟩) hD hS hA (fun r27 u27 H locs hw27 hP hD hS => ?_)
    have hP : va_P G vwCl (Mk cI cZ h a F nq no np sh nw 1 wt) H := hP
    have hD : va_D A (Mk cI cZ h a F nq no np sh nw 1 wt) := hD
    have hw27 : r27 = 0 := hw27
    subst hw27
    have hk : k1 (p_in x no) = 1 := by rw [c10]; rfl
    have hP : va_P G vwCl (Mk cI cZ h a F nq no np sh nw (k1 (p_in x no)) wt) H := by (simp only [hk, nx0, nx1, nx2, nx3]); exact hP
    have hD : va_D A (Mk cI cZ h a F nq no np sh nw (k1 (p_in x no)) wt) := by (simp only [hk, nx0, nx1, nx2, nx3]); exact hD
    exact w_zret () hx hb hr hlocks hK hP hD hS (Nat.le_of_ble_eq_true rfl) (Nat.le_of_ble_eq_true rfl) dX1_isOn_30 rfl (show k1 (p_in x no) = 0 → 0 = b2i (p_on F sh x.toNatClampNeg nw) from by intro hh9; rw [hk] at hh9; exact absurd hh9 (by decide))
  · have c10 := b2i_1.mp c10
    obtain ⟨j, hj, rfl⟩ := pin_of c10
    refine lv_aload_n hx hb dX1_isOn_13 rfl (lv_at hl 0 rfl) ?_
    refine lv_iload_n hx hb dX1_isOn_14 rfl (lv_at hl 1 rfl) ?_
    refine lv_aload_n hx hb dX1_isOn_15 rfl (lv_at hl 0 rfl) ?_
    refine va_get (ci := 1) (v := .int nw) (C := RX1) (T := TX1) (N := 18) hx hb hts hin hown hK hP 0 rfl rfl 1 (by decide) (hts (.fieldLink RX1 122 "CurfewDeskModel" "time" "I") (by decide +kernel)) (fun _ h9 => h9) rfl dX1_isOn_16 ?_
    refine w_in_i (va_runV (As := [.int (nI j), .int nw]) (rest := []) ⟨hx, hb, hml, hown, hts⟩ (c_X1_onAt l G cI cZ h a F nq no np sh nw 0 wt H.size j nw (by omega)) (cwV 2 hts gX1_isOn_X1_onAt rfl rfl rfl (by decide +kernel) ⟨(Nat.le_of_ble_eq_true rfl), (Nat.le_of_ble_eq_true rfl)⟩) ⟨wPre_blind, va_recv hK hP (ci := 1) (q0 := 0) rfl rfl, w_pre hK hP hD⟩ rfl rfl hl.1 rfl (lv_room (Nat.le_of_ble_eq_true rfl)) dX1_isOn_19 ⟨(Nat.le_of_ble_eq_true rfl), (Nat.le_of_ble_eq_true rfl)⟩) hD hS hA (fun r19 u19 H locs hw19 hP hD hS => ?_)
    have hP : va_P G vwCl (Mk cI cZ h a F nq no np sh nw 0 wt) H := hP
    have hD : va_D A (Mk cI cZ h a F nq no np sh nw 0 wt) := hD
    have hw19 : r19 = b2i (p_on F sh j nw) := hw19
    subst hw19
    refine lv_goto (tgt := 30) hx hb dX1_isOn_22 (by decide) ?_
    have hk : k1 (p_in (nI j) no) = 0 := by rw [c10]; rfl
    have hP : va_P G vwCl (Mk cI cZ h a F nq no np sh nw (k1 (p_in (nI j) no)) wt) H := by (simp only [hk, nx0, nx1, nx2, nx3, nI_clamp (show j < 2 ^ 31 by omega)]); exact hP
    have hD : va_D A (Mk cI cZ h a F nq no np sh nw (k1 (p_in (nI j) no)) wt) := by (simp only [hk, nx0, nx1, nx2, nx3, nI_clamp (show j < 2 ^ 31 by omega)]); exact hD
    exact w_zret () hx hb hr hlocks hK hP hD hS (Nat.le_of_ble_eq_true rfl) (Nat.le_of_ble_eq_true rfl) dX1_isOn_30 (b2i_n _) (show k1 (p_in (nI j) no) = 0 → (b2i (p_on F sh j nw)) = b2i (p_on F sh (nI j).toNatClampNeg nw) from by intro _; simp only [nI_clamp (show j < 2 ^ 31 by omega)])
set_option maxHeartbeats 4000000 in
set_option maxRecDepth 100000 in
theorem c_X1_barredBy (l : Launch) (G : va_G) (cI cZ : ClassId) (h : Nat) (a : Nat → Nat) (F : Nat → Nat → Int32) (nq no np : Nat) (sh nw : Int32) (th : Int32) (wt : Nat → Int32) (sz : Nat) (x : Int32) (hno : no ≤ 10) (hnp : np ≤ 20) : Met l yX1_barredBy wsX1_barredBy ({ frames := 6, cells := 0, slots := 0, locals := 135 } : Room) (va_Pc [.ref h, .int x] (wPre G (ty2 cI cZ) (Mk cI cZ h a F nq no np sh nw th wt) sz)) (va_Qi (fun (r : Int32) (_ : Unit) => k1 (p_in x no) = 0 → r = nI (p_bd F sh np x.toNatClampNeg nw)) (fun _ => wP G (ty2 cI cZ) (Mk cI cZ h a F nq no np sh nw (k1 (p_in x no)) wt) (va_A (Mk cI cZ h a F nq no np sh nw th wt) sz)) (va_A (Mk cI cZ h a F nq no np sh nw th wt) sz)) 0 0 (va_A (Mk cI cZ h a F nq no np sh nw th wt) sz) := by
  refine w_met (cc := cX1_barredBy) (maxL := 2) (ret := (some .int)) (by decide) rfl (Nat.le_of_ble_eq_true rfl) ?_
  intro pg e s m below meth cd hx hb hml hr hts hown hlocks hnm hK hsz hP hD hA hS ls hl
  have hown : s.vm.findClass RX1 = some m.cls := hown
  have hin : ∀ w ∈ wsX10, w ∈ wsX1_barredBy := by decide +kernel
  have hl : lv_has ls 2 [(0, .ref h), (1, .int x)] := hl
  generalize hAe : va_A (Mk cI cZ h a F nq no np sh nw th wt) sz = A at hD hA hS ⊢
  refine lv_aload_n hx hb dX1_barredBy_0 rfl (lv_at hl 0 rfl) ?_
  refine lv_iconst (v := 0) hx hb dX1_barredBy_1 (by decide) ?_
  refine va_put (ci := 1) (v := .int 0) (ty := .int) (C := RX1) (T := TX1) (N := 18) hx hb hts hin tyX1 tyX1_ok nmX1 hown hK hP hD hS 0 rfl rfl 0 (by decide) (hts (.fieldLink RX1 47 "CurfewDeskModel" "thrown" "I") (by decide +kernel)) (fun _ h9 => h9) rfl (by decide +kernel) rfl rfl (Nat.le_of_ble_eq_true rfl) dX1_barredBy_2 (fun H locs hP hD hS => ?_)
  have hP : va_P G vwCl (Mk cI cZ h a F nq no np sh nw 0 wt) H := hP
  have hD : va_D A (Mk cI cZ h a F nq no np sh nw 0 wt) := hD
  refine lv_aload_n hx hb dX1_barredBy_5 rfl (lv_at hl 0 rfl) ?_
  refine lv_iload_n hx hb dX1_barredBy_6 rfl (lv_at hl 1 rfl) ?_
  refine w_in_i (va_runV (As := [.int x]) (rest := []) ⟨hx, hb, hml, hown, hts⟩ (c_X1_isOrder l G cI cZ h a F nq no np sh nw 0 wt H.size x (by omega)) (cwV 1 hts gX1_barredBy_X1_isOrder rfl rfl rfl (by decide +kernel) ⟨(Nat.le_of_ble_eq_true rfl), (Nat.le_of_ble_eq_true rfl)⟩) ⟨wPre_blind, va_recv hK hP (ci := 1) (q0 := 0) rfl rfl, w_pre hK hP hD⟩ rfl rfl hl.1 rfl (lv_room (Nat.le_of_ble_eq_true rfl)) dX1_barredBy_7 ⟨(Nat.le_of_ble_eq_true rfl), (Nat.le_of_ble_eq_true rfl)⟩) hD hS hA (fun r7 u7 H locs hw7 hP hD hS => ?_)
  have hP : va_P G vwCl (Mk cI cZ h a F nq no np sh nw 0 wt) H := hP
  have hD : va_D A (Mk cI cZ h a F nq no np sh nw 0 wt) := hD
  have hw7 : r7 = b2i (p_in x no) := hw7
  subst hw7
  refine lv_if_eq (tgt := 21) hx hb dX1_barredBy_10 (by decide) (fun c10 => ?_) (fun c10 => ?_)
  · have c10 := b2i_0.mp c10
    refine lv_aload_n hx hb dX1_barredBy_21 rfl (lv_at hl 0 rfl) ?_
    refine lv_iconst (v := 1) hx hb dX1_barredBy_22 (by decide) ?_
    refine w_in_i (va_runV (As := [.int 1]) (rest := []) ⟨hx, hb, hml, hown, hts⟩ (c_X1_fail l G cI cZ h a F nq no np sh nw 0 wt H.size 1 ) (cwV 1 hts gX1_barredBy_X1_fail rfl rfl rfl (by decide +kernel) ⟨(Nat.le_of_ble_eq_true rfl), (Nat.le_of_ble_eq_true rfl)⟩) ⟨wPre_blind, va_recv hK hP (ci := 1) (q0 := 0) rfl rfl, w_pre hK hP hD⟩ rfl rfl hl.1 rfl (lv_room (Nat.le_of_ble_eq_true rfl)) dX1_barredBy_23 ⟨(Nat.le_of_ble_eq_true rfl), (Nat.le_of_ble_eq_true rfl)⟩) hD hS hA (fun r23 u23 H locs hw23 hP hD hS => ?_)
    have hP : va_P G vwCl (Mk cI cZ h a F nq no np sh nw 1 wt) H := hP
    have hD : va_D A (Mk cI cZ h a F nq no np sh nw 1 wt) := hD
    have hw23 : r23 = 0 := hw23
    subst hw23
    have hk : k1 (p_in x no) = 1 := by rw [c10]; rfl
    have hP : va_P G vwCl (Mk cI cZ h a F nq no np sh nw (k1 (p_in x no)) wt) H := by (simp only [hk, nx0, nx1, nx2, nx3]); exact hP
    have hD : va_D A (Mk cI cZ h a F nq no np sh nw (k1 (p_in x no)) wt) := by (simp only [hk, nx0, nx1, nx2, nx3]); exact hD
    exact w_iret () hx hb hr hlocks hK hP hD hS (Nat.le_of_ble_eq_true rfl) (Nat.le_of_ble_eq_true rfl) dX1_barredBy_26 (show k1 (p_in x no) = 0 → 0 = nI (p_bd F sh np x.toNatClampNeg nw) from by intro hh9; rw [hk] at hh9; exact absurd hh9 (by decide))
  · have c10 := b2i_1.mp c10
    obtain ⟨j, hj, rfl⟩ := pin_of c10
    refine lv_aload_n hx hb dX1_barredBy_13 rfl (lv_at hl 0 rfl) ?_
    refine lv_iload_n hx hb dX1_barredBy_14 rfl (lv_at hl 1 rfl) ?_
    refine w_in_i (va_runV (As := [.int (nI j)]) (rest := []) ⟨hx, hb, hml, hown, hts⟩ (c_X1_barred l G cI cZ h a F nq no np sh nw 0 wt H.size j (by omega) (by omega)) (cwV 1 hts gX1_barredBy_X1_barred rfl rfl rfl (by decide +kernel) ⟨(Nat.le_of_ble_eq_true rfl), (Nat.le_of_ble_eq_true rfl)⟩) ⟨wPre_blind, va_recv hK hP (ci := 1) (q0 := 0) rfl rfl, w_pre hK hP hD⟩ rfl rfl hl.1 rfl (lv_room (Nat.le_of_ble_eq_true rfl)) dX1_barredBy_15 ⟨(Nat.le_of_ble_eq_true rfl), (Nat.le_of_ble_eq_true rfl)⟩) hD hS hA (fun r15 u15 H locs hw15 hP hD hS => ?_)
    have hP : va_P G vwCl (Mk cI cZ h a F nq no np sh nw 0 wt) H := hP
    have hD : va_D A (Mk cI cZ h a F nq no np sh nw 0 wt) := hD
    have hw15 : r15 = nI (p_bd F sh np j nw) := hw15
    subst hw15
    refine lv_goto (tgt := 26) hx hb dX1_barredBy_18 (by decide) ?_
    have hk : k1 (p_in (nI j) no) = 0 := by rw [c10]; rfl
    have hP : va_P G vwCl (Mk cI cZ h a F nq no np sh nw (k1 (p_in (nI j) no)) wt) H := by (simp only [hk, nx0, nx1, nx2, nx3, nI_clamp (show j < 2 ^ 31 by omega)]); exact hP
    have hD : va_D A (Mk cI cZ h a F nq no np sh nw (k1 (p_in (nI j) no)) wt) := by (simp only [hk, nx0, nx1, nx2, nx3, nI_clamp (show j < 2 ^ 31 by omega)]); exact hD
    exact w_iret () hx hb hr hlocks hK hP hD hS (Nat.le_of_ble_eq_true rfl) (Nat.le_of_ble_eq_true rfl) dX1_barredBy_26 (show k1 (p_in (nI j) no) = 0 → (nI (p_bd F sh np j nw)) = nI (p_bd F sh np (nI j).toNatClampNeg nw) from by intro _; simp only [nI_clamp (show j < 2 ^ 31 by omega)])
set_option maxHeartbeats 4000000 in
set_option maxRecDepth 100000 in
theorem c_X1_halfHoursOn (l : Launch) (G : va_G) (cI cZ : ClassId) (h : Nat) (a : Nat → Nat) (F : Nat → Nat → Int32) (nq no np : Nat) (sh nw : Int32) (th : Int32) (wt : Nat → Int32) (sz : Nat) (x : Int32) (hno : no ≤ 10) : Met l yX1_halfHoursOn wsX1_halfHoursOn ({ frames := 3, cells := 0, slots := 0, locals := 66 } : Room) (va_Pc [.ref h, .int x] (wPre G (ty2 cI cZ) (Mk cI cZ h a F nq no np sh nw th wt) sz)) (va_Qi (fun (r : Int32) (_ : Unit) => k1 (p_in x no) = 0 → r = nI (p_ct (p_hB F sh nw x.toNatClampNeg) 48)) (fun _ => wP G (ty2 cI cZ) (Mk cI cZ h a F nq no np sh nw (k1 (p_in x no)) wt) (va_A (Mk cI cZ h a F nq no np sh nw th wt) sz)) (va_A (Mk cI cZ h a F nq no np sh nw th wt) sz)) 0 0 (va_A (Mk cI cZ h a F nq no np sh nw th wt) sz) := by
  refine w_met (cc := cX1_halfHoursOn) (maxL := 4) (ret := (some .int)) (by decide) rfl (Nat.le_of_ble_eq_true rfl) ?_
  intro pg e s m below meth cd hx hb hml hr hts hown hlocks hnm hK hsz hP hD hA hS ls hl
  have hown : s.vm.findClass RX1 = some m.cls := hown
  have hin : ∀ w ∈ wsX10, w ∈ wsX1_halfHoursOn := by decide +kernel
  have hl : lv_has ls 4 [(0, .ref h), (1, .int x)] := hl
  generalize hAe : va_A (Mk cI cZ h a F nq no np sh nw th wt) sz = A at hD hA hS ⊢
  refine lv_aload_n hx hb dX1_halfHoursOn_0 rfl (lv_at hl 0 rfl) ?_
  refine lv_iconst (v := 0) hx hb dX1_halfHoursOn_1 (by decide) ?_
  refine va_put (ci := 1) (v := .int 0) (ty := .int) (C := RX1) (T := TX1) (N := 18) hx hb hts hin tyX1 tyX1_ok nmX1 hown hK hP hD hS 0 rfl rfl 0 (by decide) (hts (.fieldLink RX1 47 "CurfewDeskModel" "thrown" "I") (by decide +kernel)) (fun _ h9 => h9) rfl (by decide +kernel) rfl rfl (Nat.le_of_ble_eq_true rfl) dX1_halfHoursOn_2 (fun H locs hP hD hS => ?_)
  have hP : va_P G vwCl (Mk cI cZ h a F nq no np sh nw 0 wt) H := hP
  have hD : va_D A (Mk cI cZ h a F nq no np sh nw 0 wt) := hD
  refine lv_aload_n hx hb dX1_halfHoursOn_5 rfl (lv_at hl 0 rfl) ?_
  refine lv_iload_n hx hb dX1_halfHoursOn_6 rfl (lv_at hl 1 rfl) ?_
  refine w_in_i (va_runV (As := [.int x]) (rest := []) ⟨hx, hb, hml, hown, hts⟩ (c_X1_isOrder l G cI cZ h a F nq no np sh nw 0 wt H.size x (by omega)) (cwV 1 hts gX1_halfHoursOn_X1_isOrder rfl rfl rfl (by decide +kernel) ⟨(Nat.le_of_ble_eq_true rfl), (Nat.le_of_ble_eq_true rfl)⟩) ⟨wPre_blind, va_recv hK hP (ci := 1) (q0 := 0) rfl rfl, w_pre hK hP hD⟩ rfl rfl hl.1 rfl (lv_room (Nat.le_of_ble_eq_true rfl)) dX1_halfHoursOn_7 ⟨(Nat.le_of_ble_eq_true rfl), (Nat.le_of_ble_eq_true rfl)⟩) hD hS hA (fun r7 u7 H locs hw7 hP hD hS => ?_)
  have hP : va_P G vwCl (Mk cI cZ h a F nq no np sh nw 0 wt) H := hP
  have hD : va_D A (Mk cI cZ h a F nq no np sh nw 0 wt) := hD
  have hw7 : r7 = b2i (p_in x no) := hw7
  subst hw7
  refine lv_if_ne (tgt := 19) hx hb dX1_halfHoursOn_10 (by decide) (fun c10 => ?_) (fun c10 => ?_)
  · have c10 := b2i_1.mp c10
    obtain ⟨j, hj, rfl⟩ := pin_of c10
    refine lv_iconst (v := 0) hx hb dX1_halfHoursOn_19 (by decide) ?_
    refine lv_istore_n (lv' := [(2, .int 0), (0, .ref h), (1, .int (nI j))]) hx hb dX1_halfHoursOn_20 rfl hl (by decide) rfl (fun ls hl => ?_)
    refine lv_iconst (v := 0) hx hb dX1_halfHoursOn_21 (by decide) ?_
    refine lv_istore_n (lv' := [(3, .int 0), (2, .int 0), (0, .ref h), (1, .int (nI j))]) hx hb dX1_halfHoursOn_22 rfl hl (by decide) rfl (fun ls hl => ?_)
    have key23 : ∀ (n i23 : Nat), i23 ≤ 48 → 48 < i23 + n → ∀ (x2 : Int32) (x3 : Int32), x2 = nI (p_ct (p_hB F sh nw j) i23) → x3 = nI i23 → ∀ (H : Heap) (locs : List Loc), va_P G vwCl (Mk cI cZ h a F nq no np sh nw 0 wt) H → va_D A (Mk cI cZ h a F nq no np sh nw 0 wt) → va_S A s.heap H locs → ∀ ls : Array Slot, lv_has ls 4 [(0, .ref h), (1, .int (nI j)), (2, .int x2), (3, .int x3)] → W pg l e ({ frames := 3, cells := 0, slots := 0, locals := 66 } : Room) s m ([.ref h, .int (nI j)] : List Value).toArray below meth cd H locs (0 + 0) (0 + 0) (MQ below (va_Qi (fun (r : Int32) (_ : Unit) => k1 (p_in (nI j) no) = 0 → r = nI (p_ct (p_hB F sh nw (nI j).toNatClampNeg) 48)) (fun _ => wP G (ty2 cI cZ) (Mk cI cZ h a F nq no np sh nw (k1 (p_in (nI j) no)) wt) A) A) ([.ref h, .int (nI j)] : List Value).toArray s 0 0 A) (F0 m 23 ls []) := by
      intro n
      induction n with
      | zero => intro i23 h1 h2; exact absurd h2 (by omega)
      | succ n ih23 =>
        intro i23 hi_i23 hn_i23 x2 x3 e2 e3 H locs hP hD hS ls hl
        subst e2 e3
        refine lv_iload_n hx hb dX1_halfHoursOn_23 rfl (lv_at hl 3 rfl) ?_
        refine lv_bipush (v := 48) hx hb dX1_halfHoursOn_24 (by decide) ?_
        refine lv_icmp_ge (tgt := 57) hx hb dX1_halfHoursOn_26 (by decide) (fun c26 => ?_) (fun c26 => ?_)
        · have c26 := (nI_leI (a := 48) (b := i23) (by omega) (by omega)).mp c26
          have ei : 48 = i23 := by omega
          subst ei
          refine lv_iload_n hx hb dX1_halfHoursOn_57 rfl (lv_at hl 2 rfl) ?_
          have hk : k1 (p_in (nI j) no) = 0 := by rw [c10]; rfl
          have hP : va_P G vwCl (Mk cI cZ h a F nq no np sh nw (k1 (p_in (nI j) no)) wt) H := by (simp only [hk, nx0, nx1, nx2, nx3, nI_clamp (show j < 2 ^ 31 by omega)]); exact hP
          have hD : va_D A (Mk cI cZ h a F nq no np sh nw (k1 (p_in (nI j) no)) wt) := by (simp only [hk, nx0, nx1, nx2, nx3, nI_clamp (show j < 2 ^ 31 by omega)]); exact hD
          exact w_iret () hx hb hr hlocks hK hP hD hS (Nat.le_of_ble_eq_true rfl) (Nat.le_of_ble_eq_true rfl) dX1_halfHoursOn_58 (show k1 (p_in (nI j) no) = 0 → (nI (p_ct (p_hB F sh nw j) 48)) = nI (p_ct (p_hB F sh nw (nI j).toNatClampNeg) 48) from by intro _; simp only [nI_clamp (show j < 2 ^ 31 by omega)])
        · have c26 := mt (nI_leI (a := 48) (b := i23) (by omega) (by omega)).mpr c26
          have hlt_i23 : i23 < 48 := by omega
          refine lv_iload_n hx hb dX1_halfHoursOn_29 rfl (lv_at hl 2 rfl) ?_
          refine lv_aload_n hx hb dX1_halfHoursOn_30 rfl (lv_at hl 0 rfl) ?_
          refine lv_iload_n hx hb dX1_halfHoursOn_31 rfl (lv_at hl 1 rfl) ?_
          refine lv_aload_n hx hb dX1_halfHoursOn_32 rfl (lv_at hl 0 rfl) ?_
          refine va_get (ci := 1) (v := .int nw) (C := RX1) (T := TX1) (N := 18) hx hb hts hin hown hK hP 0 rfl rfl 1 (by decide) (hts (.fieldLink RX1 122 "CurfewDeskModel" "time" "I") (by decide +kernel)) (fun _ h9 => h9) rfl dX1_halfHoursOn_33 ?_
          refine lv_iload_n hx hb dX1_halfHoursOn_36 rfl (lv_at hl 3 rfl) ?_
          refine lv_iadd hx hb dX1_halfHoursOn_37 ?_
          refine w_in_i (va_runV (As := [.int (nI j), .int (nw + (nI i23))]) (rest := [.int (nI (p_ct (p_hB F sh nw j) i23))]) ⟨hx, hb, hml, hown, hts⟩ (c_X1_isAt l G cI cZ h a F nq no np sh nw 0 wt H.size j (nw + (nI i23)) (by omega)) (cwV 2 hts gX1_halfHoursOn_X1_isAt rfl rfl rfl (by decide +kernel) ⟨(Nat.le_of_ble_eq_true rfl), (Nat.le_of_ble_eq_true rfl)⟩) ⟨wPre_blind, va_recv hK hP (ci := 1) (q0 := 0) rfl rfl, w_pre hK hP hD⟩ rfl rfl hl.1 rfl (lv_room (Nat.le_of_ble_eq_true rfl)) dX1_halfHoursOn_38 ⟨(Nat.le_of_ble_eq_true rfl), (Nat.le_of_ble_eq_true rfl)⟩) hD hS hA (fun r38 u38 H locs hw38 hP hD hS => ?_)
          have hP : va_P G vwCl (Mk cI cZ h a F nq no np sh nw 0 wt) H := hP
          have hD : va_D A (Mk cI cZ h a F nq no np sh nw 0 wt) := hD
          have hw38 : r38 = b2i (p_at F sh j (nw + (nI i23))) := hw38
          subst hw38
          refine w_selE (v1 := 1) (v2 := 0) hx hb dX1_halfHoursOn_41 (by decide) dX1_halfHoursOn_44 (by decide) dX1_halfHoursOn_45 (by decide) dX1_halfHoursOn_48 (by decide) ?_
          rw [b2i_sel]
          refine lv_iadd hx hb dX1_halfHoursOn_49 ?_
          refine lv_istore_n (lv' := [(2, .int ((nI (p_ct (p_hB F sh nw j) i23)) + (b2i (p_at F sh j (nw + (nI i23)))))), (0, .ref h), (1, .int (nI j)), (3, .int (nI i23))]) hx hb dX1_halfHoursOn_50 rfl hl (by decide) rfl (fun ls hl => ?_)
          refine lv_iinc (v := nI i23 + 1) (lv' := [(3, .int (nI i23 + 1)), (2, .int ((nI (p_ct (p_hB F sh nw j) i23)) + (b2i (p_at F sh j (nw + (nI i23)))))), (0, .ref h), (1, .int (nI j))]) hx hb dX1_halfHoursOn_51 hl (k := 3) rfl rfl (by decide) rfl (fun ls hl => ?_)
          refine lv_goto (tgt := 23) hx hb dX1_halfHoursOn_54 (by decide) ?_
          exact ih23 (i23 + 1) (by omega) (by omega) ((nI (p_ct (p_hB F sh nw j) i23)) + (b2i (p_at F sh j (nw + (nI i23))))) (nI i23 + 1) (by exact nct_b) (by first | exact nI_1 _ | exact nct_t (by assumption) | exact nct_f (by assumption) | exact nct_b | rfl) _ _ hP hD hS _ (lv_sub hl [2, 3, 1, 0] rfl)
    exact key23 (48 + 1) 0 (by omega) (by omega) 0 0 (by first | rfl | simp [p_ct, p_sm, p_fl, p_fg, nI_0]) (by first | rfl | simp [p_ct, p_sm, p_fl, p_fg, nI_0]) _ _ hP hD hS _ (lv_sub hl [2, 3, 1, 0] rfl)
  · have c10 := b2i_0.mp c10
    refine lv_aload_n hx hb dX1_halfHoursOn_13 rfl (lv_at hl 0 rfl) ?_
    refine lv_iconst (v := 1) hx hb dX1_halfHoursOn_14 (by decide) ?_
    refine w_in_i (va_runV (As := [.int 1]) (rest := []) ⟨hx, hb, hml, hown, hts⟩ (c_X1_fail l G cI cZ h a F nq no np sh nw 0 wt H.size 1 ) (cwV 1 hts gX1_halfHoursOn_X1_fail rfl rfl rfl (by decide +kernel) ⟨(Nat.le_of_ble_eq_true rfl), (Nat.le_of_ble_eq_true rfl)⟩) ⟨wPre_blind, va_recv hK hP (ci := 1) (q0 := 0) rfl rfl, w_pre hK hP hD⟩ rfl rfl hl.1 rfl (lv_room (Nat.le_of_ble_eq_true rfl)) dX1_halfHoursOn_15 ⟨(Nat.le_of_ble_eq_true rfl), (Nat.le_of_ble_eq_true rfl)⟩) hD hS hA (fun r15 u15 H locs hw15 hP hD hS => ?_)
    have hP : va_P G vwCl (Mk cI cZ h a F nq no np sh nw 1 wt) H := hP
    have hD : va_D A (Mk cI cZ h a F nq no np sh nw 1 wt) := hD
    have hw15 : r15 = 0 := hw15
    subst hw15
    have hk : k1 (p_in x no) = 1 := by rw [c10]; rfl
    have hP : va_P G vwCl (Mk cI cZ h a F nq no np sh nw (k1 (p_in x no)) wt) H := by (simp only [hk, nx0, nx1, nx2, nx3]); exact hP
    have hD : va_D A (Mk cI cZ h a F nq no np sh nw (k1 (p_in x no)) wt) := by (simp only [hk, nx0, nx1, nx2, nx3]); exact hD
    exact w_iret () hx hb hr hlocks hK hP hD hS (Nat.le_of_ble_eq_true rfl) (Nat.le_of_ble_eq_true rfl) dX1_halfHoursOn_18 (show k1 (p_in x no) = 0 → 0 = nI (p_ct (p_hB F sh nw x.toNatClampNeg) 48) from by intro hh9; rw [hk] at hh9; exact absurd hh9 (by decide))
set_option maxHeartbeats 4000000 in
set_option maxRecDepth 100000 in
theorem c_X1_turnOrder (l : Launch) (G : va_G) (cI cZ : ClassId) (h : Nat) (a : Nat → Nat) (F : Nat → Nat → Int32) (nq no np : Nat) (sh nw : Int32) (th : Int32) (wt : Nat → Int32) (sz : Nat) (x : Int32) (hno : no ≤ 10) : Met l yX1_turnOrder wsX1_turnOrder ({ frames := 2, cells := 0, slots := 0, locals := 43 } : Room) (va_Pc [.ref h, .int x] (wPre G (ty2 cI cZ) (Mk cI cZ h a F nq no np sh nw th wt) sz)) (va_Qi (fun (r : Int32) (_ : Unit) => k1 (p_in x no) = 0 → r = b2i (decide (F 4 x.toNatClampNeg = 0))) (fun _ => wP G (ty2 cI cZ) (Mk cI cZ h a (nx (k1 (p_in x no)) (n_fo F x.toNatClampNeg) F) nq no np sh nw (k1 (p_in x no)) wt) (va_A (Mk cI cZ h a F nq no np sh nw th wt) sz)) (va_A (Mk cI cZ h a F nq no np sh nw th wt) sz)) 0 0 (va_A (Mk cI cZ h a F nq no np sh nw th wt) sz) := by
  refine w_met (cc := cX1_turnOrder) (maxL := 2) (ret := (some .boolean)) (by decide) rfl (Nat.le_of_ble_eq_true rfl) ?_
  intro pg e s m below meth cd hx hb hml hr hts hown hlocks hnm hK hsz hP hD hA hS ls hl
  have hown : s.vm.findClass RX1 = some m.cls := hown
  have hin : ∀ w ∈ wsX10, w ∈ wsX1_turnOrder := by decide +kernel
  have hl : lv_has ls 2 [(0, .ref h), (1, .int x)] := hl
  generalize hAe : va_A (Mk cI cZ h a F nq no np sh nw th wt) sz = A at hD hA hS ⊢
  refine lv_aload_n hx hb dX1_turnOrder_0 rfl (lv_at hl 0 rfl) ?_
  refine lv_iconst (v := 0) hx hb dX1_turnOrder_1 (by decide) ?_
  refine va_put (ci := 1) (v := .int 0) (ty := .int) (C := RX1) (T := TX1) (N := 18) hx hb hts hin tyX1 tyX1_ok nmX1 hown hK hP hD hS 0 rfl rfl 0 (by decide) (hts (.fieldLink RX1 47 "CurfewDeskModel" "thrown" "I") (by decide +kernel)) (fun _ h9 => h9) rfl (by decide +kernel) rfl rfl (Nat.le_of_ble_eq_true rfl) dX1_turnOrder_2 (fun H locs hP hD hS => ?_)
  have hP : va_P G vwCl (Mk cI cZ h a F nq no np sh nw 0 wt) H := hP
  have hD : va_D A (Mk cI cZ h a F nq no np sh nw 0 wt) := hD
  refine lv_aload_n hx hb dX1_turnOrder_5 rfl (lv_at hl 0 rfl) ?_
  refine lv_iload_n hx hb dX1_turnOrder_6 rfl (lv_at hl 1 rfl) ?_
  refine w_in_i (va_runV (As := [.int x]) (rest := []) ⟨hx, hb, hml, hown, hts⟩ (c_X1_isOrder l G cI cZ h a F nq no np sh nw 0 wt H.size x (by omega)) (cwV 1 hts gX1_turnOrder_X1_isOrder rfl rfl rfl (by decide +kernel) ⟨(Nat.le_of_ble_eq_true rfl), (Nat.le_of_ble_eq_true rfl)⟩) ⟨wPre_blind, va_recv hK hP (ci := 1) (q0 := 0) rfl rfl, w_pre hK hP hD⟩ rfl rfl hl.1 rfl (lv_room (Nat.le_of_ble_eq_true rfl)) dX1_turnOrder_7 ⟨(Nat.le_of_ble_eq_true rfl), (Nat.le_of_ble_eq_true rfl)⟩) hD hS hA (fun r7 u7 H locs hw7 hP hD hS => ?_)
  have hP : va_P G vwCl (Mk cI cZ h a F nq no np sh nw 0 wt) H := hP
  have hD : va_D A (Mk cI cZ h a F nq no np sh nw 0 wt) := hD
  have hw7 : r7 = b2i (p_in x no) := hw7
  subst hw7
  refine lv_if_ne (tgt := 19) hx hb dX1_turnOrder_10 (by decide) (fun c10 => ?_) (fun c10 => ?_)
  · have c10 := b2i_1.mp c10
    obtain ⟨j, hj, rfl⟩ := pin_of c10
    refine lv_aload_n hx hb dX1_turnOrder_19 rfl (lv_at hl 0 rfl) ?_
    refine va_get (ci := 1) (v := .ref (a 4)) (C := RX1) (T := TX1) (N := 18) hx hb hts hin hown hK hP 0 rfl rfl 11 (by decide) (hts (.fieldLink RX1 25 "CurfewDeskModel" "force" "[Z") (by decide +kernel)) (fun _ h9 => h9) rfl dX1_turnOrder_20 ?_
    refine lv_iload_n hx hb dX1_turnOrder_23 rfl (lv_at hl 1 rfl) ?_
    refine lv_aload_n hx hb dX1_turnOrder_24 rfl (lv_at hl 0 rfl) ?_
    refine va_get (ci := 1) (v := .ref (a 4)) (C := RX1) (T := TX1) (N := 18) hx hb hts hin hown hK hP 0 rfl rfl 11 (by decide) (hts (.fieldLink RX1 25 "CurfewDeskModel" "force" "[Z") (by decide +kernel)) (fun _ h9 => h9) rfl dX1_turnOrder_25 ?_
    refine lv_iload_n hx hb dX1_turnOrder_28 rfl (lv_at hl 1 rfl) ?_
    refine w_zald hx hb hK hP 5 1 rfl rfl (f := (F 4)) (j := j) (by omega) (by omega) dX1_turnOrder_29 ?_
    refine w_selN (v1 := 1) (v2 := 0) hx hb dX1_turnOrder_30 (by decide) dX1_turnOrder_33 (by decide) dX1_turnOrder_34 (by decide) dX1_turnOrder_37 (by decide) ?_
    rw [b2i_nz]
    refine w_zast hx hb hK hP hD hS 5 1 rfl rfl (f := (F 4)) (j := j) (by omega) (by omega) (b2i_v _) dX1_turnOrder_38 (fun H locs hP hD hS => ?_)
    have hP : va_P G vwCl (Mk cI cZ h a (va_up F 4 (upd (F 4) j (b2i (decide ((F 4) j = 0))))) nq no np sh nw 0 wt) H := hP
    have hD : va_D A (Mk cI cZ h a (va_up F 4 (upd (F 4) j (b2i (decide ((F 4) j = 0))))) nq no np sh nw 0 wt) := hD
    refine lv_aload_n hx hb dX1_turnOrder_39 rfl (lv_at hl 0 rfl) ?_
    refine va_get (ci := 1) (v := .ref (a 4)) (C := RX1) (T := TX1) (N := 18) hx hb hts hin hown hK hP 0 rfl rfl 11 (by decide) (hts (.fieldLink RX1 25 "CurfewDeskModel" "force" "[Z") (by decide +kernel)) (fun _ h9 => h9) rfl dX1_turnOrder_40 ?_
    refine lv_iload_n hx hb dX1_turnOrder_43 rfl (lv_at hl 1 rfl) ?_
    refine w_zald hx hb hK hP 5 1 rfl rfl (f := (upd (F 4) j (b2i (decide ((F 4) j = 0))))) (j := j) (by omega) (by omega) dX1_turnOrder_44 ?_
    rw [pk_us]
    have hk : k1 (p_in (nI j) no) = 0 := by rw [c10]; rfl
    have hP : va_P G vwCl (Mk cI cZ h a (nx (k1 (p_in (nI j) no)) (n_fo F (nI j).toNatClampNeg) F) nq no np sh nw (k1 (p_in (nI j) no)) wt) H := by (simp only [hk, nx0, nx1, nx2, nx3, nI_clamp (show j < 2 ^ 31 by omega)]); exact hP
    have hD : va_D A (Mk cI cZ h a (nx (k1 (p_in (nI j) no)) (n_fo F (nI j).toNatClampNeg) F) nq no np sh nw (k1 (p_in (nI j) no)) wt) := by (simp only [hk, nx0, nx1, nx2, nx3, nI_clamp (show j < 2 ^ 31 by omega)]); exact hD
    exact w_zret () hx hb hr hlocks hK hP hD hS (Nat.le_of_ble_eq_true rfl) (Nat.le_of_ble_eq_true rfl) dX1_turnOrder_45 (b2i_n _) (show k1 (p_in (nI j) no) = 0 → (b2i (decide ((F 4) j = 0))) = b2i (decide (F 4 (nI j).toNatClampNeg = 0)) from by intro _; simp only [nI_clamp (show j < 2 ^ 31 by omega)])
  · have c10 := b2i_0.mp c10
    refine lv_aload_n hx hb dX1_turnOrder_13 rfl (lv_at hl 0 rfl) ?_
    refine lv_iconst (v := 1) hx hb dX1_turnOrder_14 (by decide) ?_
    refine w_in_i (va_runV (As := [.int 1]) (rest := []) ⟨hx, hb, hml, hown, hts⟩ (c_X1_failed l G cI cZ h a F nq no np sh nw 0 wt H.size 1 ) (cwV 1 hts gX1_turnOrder_X1_failed rfl rfl rfl (by decide +kernel) ⟨(Nat.le_of_ble_eq_true rfl), (Nat.le_of_ble_eq_true rfl)⟩) ⟨wPre_blind, va_recv hK hP (ci := 1) (q0 := 0) rfl rfl, w_pre hK hP hD⟩ rfl rfl hl.1 rfl (lv_room (Nat.le_of_ble_eq_true rfl)) dX1_turnOrder_15 ⟨(Nat.le_of_ble_eq_true rfl), (Nat.le_of_ble_eq_true rfl)⟩) hD hS hA (fun r15 u15 H locs hw15 hP hD hS => ?_)
    have hP : va_P G vwCl (Mk cI cZ h a F nq no np sh nw 1 wt) H := hP
    have hD : va_D A (Mk cI cZ h a F nq no np sh nw 1 wt) := hD
    have hw15 : r15 = 0 := hw15
    subst hw15
    have hk : k1 (p_in x no) = 1 := by rw [c10]; rfl
    have hP : va_P G vwCl (Mk cI cZ h a (nx (k1 (p_in x no)) (n_fo F x.toNatClampNeg) F) nq no np sh nw (k1 (p_in x no)) wt) H := by (simp only [hk, nx0, nx1, nx2, nx3]); exact hP
    have hD : va_D A (Mk cI cZ h a (nx (k1 (p_in x no)) (n_fo F x.toNatClampNeg) F) nq no np sh nw (k1 (p_in x no)) wt) := by (simp only [hk, nx0, nx1, nx2, nx3]); exact hD
    exact w_zret () hx hb hr hlocks hK hP hD hS (Nat.le_of_ble_eq_true rfl) (Nat.le_of_ble_eq_true rfl) dX1_turnOrder_18 rfl (show k1 (p_in x no) = 0 → 0 = b2i (decide (F 4 x.toNatClampNeg = 0)) from by intro hh9; rw [hk] at hh9; exact absurd hh9 (by decide))
set_option maxHeartbeats 4000000 in
set_option maxRecDepth 100000 in
theorem c_X1_turnExempt (l : Launch) (G : va_G) (cI cZ : ClassId) (h : Nat) (a : Nat → Nat) (F : Nat → Nat → Int32) (nq no np : Nat) (sh nw : Int32) (th : Int32) (wt : Nat → Int32) (sz : Nat) (x : Int32) (t : Int32) (hno : no ≤ 10) : Met l yX1_turnExempt wsX1_turnExempt ({ frames := 2, cells := 0, slots := 0, locals := 43 } : Room) (va_Pc [.ref h, .int x, .int t] (wPre G (ty2 cI cZ) (Mk cI cZ h a F nq no np sh nw th wt) sz)) (va_Qi (fun (r : Int32) (_ : Unit) => k1 (p_in x no && p_in t 8) = 0 → r = b2i (p_ex (n_ex F x.toNatClampNeg t) x.toNatClampNeg t)) (fun _ => wP G (ty2 cI cZ) (Mk cI cZ h a (nx (k1 (p_in x no && p_in t 8)) (n_ex F x.toNatClampNeg t) F) nq no np sh nw (k1 (p_in x no && p_in t 8)) wt) (va_A (Mk cI cZ h a F nq no np sh nw th wt) sz)) (va_A (Mk cI cZ h a F nq no np sh nw th wt) sz)) 0 0 (va_A (Mk cI cZ h a F nq no np sh nw th wt) sz) := by
  refine w_met (cc := cX1_turnExempt) (maxL := 3) (ret := (some .boolean)) (by decide) rfl (Nat.le_of_ble_eq_true rfl) ?_
  intro pg e s m below meth cd hx hb hml hr hts hown hlocks hnm hK hsz hP hD hA hS ls hl
  have hown : s.vm.findClass RX1 = some m.cls := hown
  have hin : ∀ w ∈ wsX10, w ∈ wsX1_turnExempt := by decide +kernel
  have hl : lv_has ls 3 [(0, .ref h), (1, .int x), (2, .int t)] := hl
  generalize hAe : va_A (Mk cI cZ h a F nq no np sh nw th wt) sz = A at hD hA hS ⊢
  refine lv_aload_n hx hb dX1_turnExempt_0 rfl (lv_at hl 0 rfl) ?_
  refine lv_iconst (v := 0) hx hb dX1_turnExempt_1 (by decide) ?_
  refine va_put (ci := 1) (v := .int 0) (ty := .int) (C := RX1) (T := TX1) (N := 18) hx hb hts hin tyX1 tyX1_ok nmX1 hown hK hP hD hS 0 rfl rfl 0 (by decide) (hts (.fieldLink RX1 47 "CurfewDeskModel" "thrown" "I") (by decide +kernel)) (fun _ h9 => h9) rfl (by decide +kernel) rfl rfl (Nat.le_of_ble_eq_true rfl) dX1_turnExempt_2 (fun H locs hP hD hS => ?_)
  have hP : va_P G vwCl (Mk cI cZ h a F nq no np sh nw 0 wt) H := hP
  have hD : va_D A (Mk cI cZ h a F nq no np sh nw 0 wt) := hD
  refine lv_aload_n hx hb dX1_turnExempt_5 rfl (lv_at hl 0 rfl) ?_
  refine lv_iload_n hx hb dX1_turnExempt_6 rfl (lv_at hl 1 rfl) ?_
  refine w_in_i (va_runV (As := [.int x]) (rest := []) ⟨hx, hb, hml, hown, hts⟩ (c_X1_isOrder l G cI cZ h a F nq no np sh nw 0 wt H.size x (by omega)) (cwV 1 hts gX1_turnExempt_X1_isOrder rfl rfl rfl (by decide +kernel) ⟨(Nat.le_of_ble_eq_true rfl), (Nat.le_of_ble_eq_true rfl)⟩) ⟨wPre_blind, va_recv hK hP (ci := 1) (q0 := 0) rfl rfl, w_pre hK hP hD⟩ rfl rfl hl.1 rfl (lv_room (Nat.le_of_ble_eq_true rfl)) dX1_turnExempt_7 ⟨(Nat.le_of_ble_eq_true rfl), (Nat.le_of_ble_eq_true rfl)⟩) hD hS hA (fun r7 u7 H locs hw7 hP hD hS => ?_)
  have hP : va_P G vwCl (Mk cI cZ h a F nq no np sh nw 0 wt) H := hP
  have hD : va_D A (Mk cI cZ h a F nq no np sh nw 0 wt) := hD
  have hw7 : r7 = b2i (p_in x no) := hw7
  subst hw7
  refine lv_if_eq (tgt := 20) hx hb dX1_turnExempt_10 (by decide) (fun c10 => ?_) (fun c10 => ?_)
  · have c10 := b2i_0.mp c10
    refine lv_aload_n hx hb dX1_turnExempt_20 rfl (lv_at hl 0 rfl) ?_
    refine lv_iconst (v := 1) hx hb dX1_turnExempt_21 (by decide) ?_
    refine w_in_i (va_runV (As := [.int 1]) (rest := []) ⟨hx, hb, hml, hown, hts⟩ (c_X1_failed l G cI cZ h a F nq no np sh nw 0 wt H.size 1 ) (cwV 1 hts gX1_turnExempt_X1_failed rfl rfl rfl (by decide +kernel) ⟨(Nat.le_of_ble_eq_true rfl), (Nat.le_of_ble_eq_true rfl)⟩) ⟨wPre_blind, va_recv hK hP (ci := 1) (q0 := 0) rfl rfl, w_pre hK hP hD⟩ rfl rfl hl.1 rfl (lv_room (Nat.le_of_ble_eq_true rfl)) dX1_turnExempt_22 ⟨(Nat.le_of_ble_eq_true rfl), (Nat.le_of_ble_eq_true rfl)⟩) hD hS hA (fun r22 u22 H locs hw22 hP hD hS => ?_)
    have hP : va_P G vwCl (Mk cI cZ h a F nq no np sh nw 1 wt) H := hP
    have hD : va_D A (Mk cI cZ h a F nq no np sh nw 1 wt) := hD
    have hw22 : r22 = 0 := hw22
    subst hw22
    have hk : k1 (p_in x no && p_in t 8) = 1 := by rw [c10]; rfl
    have hP : va_P G vwCl (Mk cI cZ h a (nx (k1 (p_in x no && p_in t 8)) (n_ex F x.toNatClampNeg t) F) nq no np sh nw (k1 (p_in x no && p_in t 8)) wt) H := by (simp only [hk, nx0, nx1, nx2, nx3]); exact hP
    have hD : va_D A (Mk cI cZ h a (nx (k1 (p_in x no && p_in t 8)) (n_ex F x.toNatClampNeg t) F) nq no np sh nw (k1 (p_in x no && p_in t 8)) wt) := by (simp only [hk, nx0, nx1, nx2, nx3]); exact hD
    exact w_zret () hx hb hr hlocks hK hP hD hS (Nat.le_of_ble_eq_true rfl) (Nat.le_of_ble_eq_true rfl) dX1_turnExempt_25 rfl (show k1 (p_in x no && p_in t 8) = 0 → 0 = b2i (p_ex (n_ex F x.toNatClampNeg t) x.toNatClampNeg t) from by intro hh9; rw [hk] at hh9; exact absurd hh9 (by decide))
  · have c10 := b2i_1.mp c10
    obtain ⟨j, hj, rfl⟩ := pin_of c10
    refine lv_iload_n hx hb dX1_turnExempt_13 rfl (lv_at hl 2 rfl) ?_
    refine w_st_i (va_runS (As := [.int t]) (rest := []) ⟨hx, hb, hml, hown, hts⟩ (c_X1_isTrade l G H.size t ) (va_cwS 1 hts gX1_turnExempt_X1_isTrade rfl rfl rfl (by decide +kernel) ⟨(Nat.le_of_ble_eq_true rfl), (Nat.le_of_ble_eq_true rfl)⟩) ⟨wPre_blind, w_pre (hK.sub [] rfl) w_P0 (w_D0 (A := A))⟩ rfl rfl hl.1 rfl (lv_room (Nat.le_of_ble_eq_true rfl)) dX1_turnExempt_14 ⟨(Nat.le_of_ble_eq_true rfl), (Nat.le_of_ble_eq_true rfl)⟩) hP hS hA (fun r14 u14 H locs hw14 hP hS => ?_)
    have hw14 : r14 = b2i (p_in t 8) := hw14
    subst hw14
    refine lv_if_ne (tgt := 26) hx hb dX1_turnExempt_17 (by decide) (fun c17 => ?_) (fun c17 => ?_)
    · have c17 := b2i_1.mp c17
      refine lv_aload_n hx hb dX1_turnExempt_26 rfl (lv_at hl 0 rfl) ?_
      refine va_get (ci := 1) (v := .ref (a 5)) (C := RX1) (T := TX1) (N := 18) hx hb hts hin hown hK hP 0 rfl rfl 10 (by decide) (hts (.fieldLink RX1 22 "CurfewDeskModel" "exempt" "[I") (by decide +kernel)) (fun _ h9 => h9) rfl dX1_turnExempt_27 ?_
      refine lv_iload_n hx hb dX1_turnExempt_30 rfl (lv_at hl 1 rfl) ?_
      refine lv_dup2_11 hx hb dX1_turnExempt_31 rfl rfl ?_
      refine w_iald hx hb hK hP 6 0 rfl rfl (f := (F 5)) (j := j) (by omega) (by omega) dX1_turnExempt_32 ?_
      refine lv_iconst (v := 1) hx hb dX1_turnExempt_33 (by decide) ?_
      refine lv_iload_n hx hb dX1_turnExempt_34 rfl (lv_at hl 2 rfl) ?_
      refine lv_ishl hx hb dX1_turnExempt_35 ?_
      refine lv_ixor hx hb dX1_turnExempt_36 ?_
      refine w_iast hx hb hK hP hD hS 6 0 rfl rfl (f := (F 5)) (j := j) (by omega) (by omega) dX1_turnExempt_37 (fun H locs hP hD hS => ?_)
      have hP : va_P G vwCl (Mk cI cZ h a (va_up F 5 (upd (F 5) j (((F 5) j) ^^^ (1 <<< (t &&& 31))))) nq no np sh nw 0 wt) H := hP
      have hD : va_D A (Mk cI cZ h a (va_up F 5 (upd (F 5) j (((F 5) j) ^^^ (1 <<< (t &&& 31))))) nq no np sh nw 0 wt) := hD
      refine lv_aload_n hx hb dX1_turnExempt_38 rfl (lv_at hl 0 rfl) ?_
      refine va_get (ci := 1) (v := .ref (a 5)) (C := RX1) (T := TX1) (N := 18) hx hb hts hin hown hK hP 0 rfl rfl 10 (by decide) (hts (.fieldLink RX1 22 "CurfewDeskModel" "exempt" "[I") (by decide +kernel)) (fun _ h9 => h9) rfl dX1_turnExempt_39 ?_
      refine lv_iload_n hx hb dX1_turnExempt_42 rfl (lv_at hl 1 rfl) ?_
      refine w_iald hx hb hK hP 6 0 rfl rfl (f := (upd (F 5) j (((F 5) j) ^^^ (1 <<< (t &&& 31))))) (j := j) (by omega) (by omega) dX1_turnExempt_43 ?_
      rw [pk_us]
      refine lv_iload_n hx hb dX1_turnExempt_44 rfl (lv_at hl 2 rfl) ?_
      refine lv_ishr hx hb dX1_turnExempt_45 ?_
      refine lv_iconst (v := 1) hx hb dX1_turnExempt_46 (by decide) ?_
      refine lv_iand hx hb dX1_turnExempt_47 ?_
      refine lv_iconst (v := 1) hx hb dX1_turnExempt_48 (by decide) ?_
      refine w_selQ (v1 := 1) (v2 := 0) hx hb dX1_turnExempt_49 (by decide) dX1_turnExempt_52 (by decide) dX1_turnExempt_53 (by decide) dX1_turnExempt_56 (by decide) ?_
      rw [b2i_q]
      have hk : k1 (p_in (nI j) no && p_in t 8) = 0 := by rw [c10, c17]; rfl
      have hP : va_P G vwCl (Mk cI cZ h a (nx (k1 (p_in (nI j) no && p_in t 8)) (n_ex F (nI j).toNatClampNeg t) F) nq no np sh nw (k1 (p_in (nI j) no && p_in t 8)) wt) H := by (simp only [hk, nx0, nx1, nx2, nx3, nI_clamp (show j < 2 ^ 31 by omega)]); exact hP
      have hD : va_D A (Mk cI cZ h a (nx (k1 (p_in (nI j) no && p_in t 8)) (n_ex F (nI j).toNatClampNeg t) F) nq no np sh nw (k1 (p_in (nI j) no && p_in t 8)) wt) := by (simp only [hk, nx0, nx1, nx2, nx3, nI_clamp (show j < 2 ^ 31 by omega)]); exact hD
      exact w_zret () hx hb hr hlocks hK hP hD hS (Nat.le_of_ble_eq_true rfl) (Nat.le_of_ble_eq_true rfl) dX1_turnExempt_57 (b2i_n _) (show k1 (p_in (nI j) no && p_in t 8) = 0 → (b2i (decide (((((F 5) j) ^^^ (1 <<< (t &&& 31))) >>> (t &&& 31)) &&& 1 = 1))) = b2i (p_ex (n_ex F (nI j).toNatClampNeg t) (nI j).toNatClampNeg t) from by intro _; simp only [nI_clamp (show j < 2 ^ 31 by omega)]; rw [and1_q]; simp only [p_ex, n_ex, va_up_self, pk_us])
    · have c17 := b2i_0.mp c17
      refine lv_aload_n hx hb dX1_turnExempt_20 rfl (lv_at hl 0 rfl) ?_
      refine lv_iconst (v := 1) hx hb dX1_turnExempt_21 (by decide) ?_
      refine w_in_i (va_runV (As := [.int 1]) (rest := []) ⟨hx, hb, hml, hown, hts⟩ (c_X1_failed l G cI cZ h a F nq no np sh nw 0 wt H.size 1 ) (cwV 1 hts gX1_turnExempt_X1_failed rfl rfl rfl (by decide +kernel) ⟨(Nat.le_of_ble_eq_true rfl), (Nat.le_of_ble_eq_true rfl)⟩) ⟨wPre_blind, va_recv hK hP (ci := 1) (q0 := 0) rfl rfl, w_pre hK hP hD⟩ rfl rfl hl.1 rfl (lv_room (Nat.le_of_ble_eq_true rfl)) dX1_turnExempt_22 ⟨(Nat.le_of_ble_eq_true rfl), (Nat.le_of_ble_eq_true rfl)⟩) hD hS hA (fun r22 u22 H locs hw22 hP hD hS => ?_)
      have hP : va_P G vwCl (Mk cI cZ h a F nq no np sh nw 1 wt) H := hP
      have hD : va_D A (Mk cI cZ h a F nq no np sh nw 1 wt) := hD
      have hw22 : r22 = 0 := hw22
      subst hw22
      have hk : k1 (p_in (nI j) no && p_in t 8) = 1 := by rw [c10, c17]; rfl
      have hP : va_P G vwCl (Mk cI cZ h a (nx (k1 (p_in (nI j) no && p_in t 8)) (n_ex F (nI j).toNatClampNeg t) F) nq no np sh nw (k1 (p_in (nI j) no && p_in t 8)) wt) H := by (simp only [hk, nx0, nx1, nx2, nx3]); exact hP
      have hD : va_D A (Mk cI cZ h a (nx (k1 (p_in (nI j) no && p_in t 8)) (n_ex F (nI j).toNatClampNeg t) F) nq no np sh nw (k1 (p_in (nI j) no && p_in t 8)) wt) := by (simp only [hk, nx0, nx1, nx2, nx3]); exact hD
      exact w_zret () hx hb hr hlocks hK hP hD hS (Nat.le_of_ble_eq_true rfl) (Nat.le_of_ble_eq_true rfl) dX1_turnExempt_25 rfl (show k1 (p_in (nI j) no && p_in t 8) = 0 → 0 = b2i (p_ex (n_ex F (nI j).toNatClampNeg t) (nI j).toNatClampNeg t) from by intro hh9; rw [hk] at hh9; exact absurd hh9 (by decide))
set_option maxHeartbeats 4000000 in
set_option maxRecDepth 100000 in
theorem c_X1_isExempt (l : Launch) (G : va_G) (cI cZ : ClassId) (h : Nat) (a : Nat → Nat) (F : Nat → Nat → Int32) (nq no np : Nat) (sh nw : Int32) (th : Int32) (wt : Nat → Int32) (sz : Nat) (x : Int32) (t : Int32) (hno : no ≤ 10) : Met l yX1_isExempt wsX1_isExempt ({ frames := 2, cells := 0, slots := 0, locals := 43 } : Room) (va_Pc [.ref h, .int x, .int t] (wPre G (ty2 cI cZ) (Mk cI cZ h a F nq no np sh nw th wt) sz)) (va_Qi (fun (r : Int32) (_ : Unit) => k1 (p_in x no && p_in t 8) = 0 → r = b2i (p_ex F x.toNatClampNeg t)) (fun _ => wP G (ty2 cI cZ) (Mk cI cZ h a F nq no np sh nw (k1 (p_in x no && p_in t 8)) wt) (va_A (Mk cI cZ h a F nq no np sh nw th wt) sz)) (va_A (Mk cI cZ h a F nq no np sh nw th wt) sz)) 0 0 (va_A (Mk cI cZ h a F nq no np sh nw th wt) sz) := by
  refine w_met (cc := cX1_isExempt) (maxL := 3) (ret := (some .boolean)) (by decide) rfl (Nat.le_of_ble_eq_true rfl) ?_
  intro pg e s m below meth cd hx hb hml hr hts hown hlocks hnm hK hsz hP hD hA hS ls hl
  have hown : s.vm.findClass RX1 = some m.cls := hown
  have hin : ∀ w ∈ wsX10, w ∈ wsX1_isExempt := by decide +kernel
  have hl : lv_has ls 3 [(0, .ref h), (1, .int x), (2, .int t)] := hl
  generalize hAe : va_A (Mk cI cZ h a F nq no np sh nw th wt) sz = A at hD hA hS ⊢
  refine lv_aload_n hx hb dX1_isExempt_0 rfl (lv_at hl 0 rfl) ?_
  refine lv_iconst (v := 0) hx hb dX1_isExempt_1 (by decide) ?_
  refine va_put (ci := 1) (v := .int 0) (ty := .int) (C := RX1) (T := TX1) (N := 18) hx hb hts hin tyX1 tyX1_ok nmX1 hown hK hP hD hS 0 rfl rfl 0 (by decide) (hts (.fieldLink RX1 47 "CurfewDeskModel" "thrown" "I") (by decide +kernel)) (fun _ h9 => h9) rfl (by decide +kernel) rfl rfl (Nat.le_of_ble_eq_true rfl) dX1_isExempt_2 (fun H locs hP hD hS => ?_)
  have hP : va_P G vwCl (Mk cI cZ h a F nq no np sh nw 0 wt) H := hP
  have hD : va_D A (Mk cI cZ h a F nq no np sh nw 0 wt) := hD
  refine lv_aload_n hx hb dX1_isExempt_5 rfl (lv_at hl 0 rfl) ?_
  refine lv_iload_n hx hb dX1_isExempt_6 rfl (lv_at hl 1 rfl) ?_
  refine w_in_i (va_runV (As := [.int x]) (rest := []) ⟨hx, hb, hml, hown, hts⟩ (c_X1_isOrder l G cI cZ h a F nq no np sh nw 0 wt H.size x (by omega)) (cwV 1 hts gX1_isExempt_X1_isOrder rfl rfl rfl (by decide +kernel) ⟨(Nat.le_of_ble_eq_true rfl), (Nat.le_of_ble_eq_true rfl)⟩) ⟨wPre_blind, va_recv hK hP (ci := 1) (q0 := 0) rfl rfl, w_pre hK hP hD⟩ rfl rfl hl.1 rfl (lv_room (Nat.le_of_ble_eq_true rfl)) dX1_isExempt_7 ⟨(Nat.le_of_ble_eq_true rfl), (Nat.le_of_ble_eq_true rfl)⟩) hD hS hA (fun r7 u7 H locs hw7 hP hD hS => ?_)
  have hP : va_P G vwCl (Mk cI cZ h a F nq no np sh nw 0 wt) H := hP
  have hD : va_D A (Mk cI cZ h a F nq no np sh nw 0 wt) := hD
  have hw7 : r7 = b2i (p_in x no) := hw7
  subst hw7
  refine lv_if_eq (tgt := 42) hx hb dX1_isExempt_10 (by decide) (fun c10 => ?_) (fun c10 => ?_)
  · have c10 := b2i_0.mp c10
    refine lv_aload_n hx hb dX1_isExempt_42 rfl (lv_at hl 0 rfl) ?_
    refine lv_iconst (v := 1) hx hb dX1_isExempt_43 (by decide) ?_
    refine w_in_i (va_runV (As := [.int 1]) (rest := []) ⟨hx, hb, hml, hown, hts⟩ (c_X1_failed l G cI cZ h a F nq no np sh nw 0 wt H.size 1 ) (cwV 1 hts gX1_isExempt_X1_failed rfl rfl rfl (by decide +kernel) ⟨(Nat.le_of_ble_eq_true rfl), (Nat.le_of_ble_eq_true rfl)⟩) ⟨wPre_blind, va_recv hK hP (ci := 1) (q0 := 0) rfl rfl, w_pre hK hP hD⟩ rfl rfl hl.1 rfl (lv_room (Nat.le_of_ble_eq_true rfl)) dX1_isExempt_44 ⟨(Nat.le_of_ble_eq_true rfl), (Nat.le_of_ble_eq_true rfl)⟩) hD hS hA (fun r44 u44 H locs hw44 hP hD hS => ?_)
    have hP : va_P G vwCl (Mk cI cZ h a F nq no np sh nw 1 wt) H := hP
    have hD : va_D A (Mk cI cZ h a F nq no np sh nw 1 wt) := hD
    have hw44 : r44 = 0 := hw44
    subst hw44
    have hk : k1 (p_in x no && p_in t 8) = 1 := by rw [c10]; rfl
    have hP : va_P G vwCl (Mk cI cZ h a F nq no np sh nw (k1 (p_in x no && p_in t 8)) wt) H := by (simp only [hk, nx0, nx1, nx2, nx3]); exact hP
    have hD : va_D A (Mk cI cZ h a F nq no np sh nw (k1 (p_in x no && p_in t 8)) wt) := by (simp only [hk, nx0, nx1, nx2, nx3]); exact hD
    exact w_zret () hx hb hr hlocks hK hP hD hS (Nat.le_of_ble_eq_true rfl) (Nat.le_of_ble_eq_true rfl) dX1_isExempt_47 rfl (show k1 (p_in x no && p_in t 8) = 0 → 0 = b2i (p_ex F x.toNatClampNeg t) from by intro hh9; rw [hk] at hh9; exact absurd hh9 (by decide))
  · have c10 := b2i_1.mp c10
    obtain ⟨j, hj, rfl⟩ := pin_of c10
    refine lv_iload_n hx hb dX1_isExempt_13 rfl (lv_at hl 2 rfl) ?_
    refine w_st_i (va_runS (As := [.int t]) (rest := []) ⟨hx, hb, hml, hown, hts⟩ (c_X1_isTrade l G H.size t ) (va_cwS 1 hts gX1_isExempt_X1_isTrade rfl rfl rfl (by decide +kernel) ⟨(Nat.le_of_ble_eq_true rfl), (Nat.le_of_ble_eq_true rfl)⟩) ⟨wPre_blind, w_pre (hK.sub [] rfl) w_P0 (w_D0 (A := A))⟩ rfl rfl hl.1 rfl (lv_room (Nat.le_of_ble_eq_true rfl)) dX1_isExempt_14 ⟨(Nat.le_of_ble_eq_true rfl), (Nat.le_of_ble_eq_true rfl)⟩) hP hS hA (fun r14 u14 H locs hw14 hP hS => ?_)
    have hw14 : r14 = b2i (p_in t 8) := hw14
    subst hw14
    refine lv_if_eq (tgt := 42) hx hb dX1_isExempt_17 (by decide) (fun c17 => ?_) (fun c17 => ?_)
    · have c17 := b2i_0.mp c17
      refine lv_aload_n hx hb dX1_isExempt_42 rfl (lv_at hl 0 rfl) ?_
      refine lv_iconst (v := 1) hx hb dX1_isExempt_43 (by decide) ?_
      refine w_in_i (va_runV (As := [.int 1]) (rest := []) ⟨hx, hb, hml, hown, hts⟩ (c_X1_failed l G cI cZ h a F nq no np sh nw 0 wt H.size 1 ) (cwV 1 hts gX1_isExempt_X1_failed rfl rfl rfl (by decide +kernel) ⟨(Nat.le_of_ble_eq_true rfl), (Nat.le_of_ble_eq_true rfl)⟩) ⟨wPre_blind, va_recv hK hP (ci := 1) (q0 := 0) rfl rfl, w_pre hK hP hD⟩ rfl rfl hl.1 rfl (lv_room (Nat.le_of_ble_eq_true rfl)) dX1_isExempt_44 ⟨(Nat.le_of_ble_eq_true rfl), (Nat.le_of_ble_eq_true rfl)⟩) hD hS hA (fun r44 u44 H locs hw44 hP hD hS => ?_)
      have hP : va_P G vwCl (Mk cI cZ h a F nq no np sh nw 1 wt) H := hP
      have hD : va_D A (Mk cI cZ h a F nq no np sh nw 1 wt) := hD
      have hw44 : r44 = 0 := hw44
      subst hw44
      have hk : k1 (p_in (nI j) no && p_in t 8) = 1 := by rw [c10, c17]; rfl
      have hP : va_P G vwCl (Mk cI cZ h a F nq no np sh nw (k1 (p_in (nI j) no && p_in t 8)) wt) H := by (simp only [hk, nx0, nx1, nx2, nx3]); exact hP
      have hD : va_D A (Mk cI cZ h a F nq no np sh nw (k1 (p_in (nI j) no && p_in t 8)) wt) := by (simp only [hk, nx0, nx1, nx2, nx3]); exact hD
      exact w_zret () hx hb hr hlocks hK hP hD hS (Nat.le_of_ble_eq_true rfl) (Nat.le_of_ble_eq_true rfl) dX1_isExempt_47 rfl (show k1 (p_in (nI j) no && p_in t 8) = 0 → 0 = b2i (p_ex F (nI j).toNatClampNeg t) from by intro hh9; rw [hk] at hh9; exact absurd hh9 (by decide))
    · have c17 := b2i_1.mp c17
      refine lv_aload_n hx hb dX1_isExempt_20 rfl (lv_at hl 0 rfl) ?_
      refine va_get (ci := 1) (v := .ref (a 5)) (C := RX1) (T := TX1) (N := 18) hx hb hts hin hown hK hP 0 rfl rfl 10 (by decide) (hts (.fieldLink RX1 22 "CurfewDeskModel" "exempt" "[I") (by decide +kernel)) (fun _ h9 => h9) rfl dX1_isExempt_21 ?_
      refine lv_iload_n hx hb dX1_isExempt_24 rfl (lv_at hl 1 rfl) ?_
      refine w_iald hx hb hK hP 6 0 rfl rfl (f := (F 5)) (j := j) (by omega) (by omega) dX1_isExempt_25 ?_
      refine lv_iload_n hx hb dX1_isExempt_26 rfl (lv_at hl 2 rfl) ?_
      refine lv_ishr hx hb dX1_isExempt_27 ?_
      refine lv_iconst (v := 1) hx hb dX1_isExempt_28 (by decide) ?_
      refine lv_iand hx hb dX1_isExempt_29 ?_
      refine lv_iconst (v := 1) hx hb dX1_isExempt_30 (by decide) ?_
      refine lv_icmp_ne (tgt := 38) hx hb dX1_isExempt_31 (by decide) (fun c31 => ?_) (fun c31 => ?_)
      · have c31 : p_ex F j t = false := ex_f c31
        refine lv_iconst (v := 0) hx hb dX1_isExempt_38 (by decide) ?_
        refine lv_goto (tgt := 47) hx hb dX1_isExempt_39 (by decide) ?_
        have hk : k1 (p_in (nI j) no && p_in t 8) = 0 := by rw [c10, c17]; rfl
        have hP : va_P G vwCl (Mk cI cZ h a F nq no np sh nw (k1 (p_in (nI j) no && p_in t 8)) wt) H := by (simp only [hk, nx0, nx1, nx2, nx3, nI_clamp (show j < 2 ^ 31 by omega)]); exact hP
        have hD : va_D A (Mk cI cZ h a F nq no np sh nw (k1 (p_in (nI j) no && p_in t 8)) wt) := by (simp only [hk, nx0, nx1, nx2, nx3, nI_clamp (show j < 2 ^ 31 by omega)]); exact hD
        exact w_zret () hx hb hr hlocks hK hP hD hS (Nat.le_of_ble_eq_true rfl) (Nat.le_of_ble_eq_true rfl) dX1_isExempt_47 rfl (show k1 (p_in (nI j) no && p_in t 8) = 0 → 0 = b2i (p_ex F (nI j).toNatClampNeg t) from by intro _; simp only [nI_clamp (show j < 2 ^ 31 by omega)]; rw [c31]; rfl)
      · have c31 : p_ex F j t = true := ex_t c31
        refine lv_iconst (v := 1) hx hb dX1_isExempt_34 (by decide) ?_
        refine lv_goto (tgt := 47) hx hb dX1_isExempt_35 (by decide) ?_
        have hk : k1 (p_in (nI j) no && p_in t 8) = 0 := by rw [c10, c17]; rfl
        have hP : va_P G vwCl (Mk cI cZ h a F nq no np sh nw (k1 (p_in (nI j) no && p_in t 8)) wt) H := by (simp only [hk, nx0, nx1, nx2, nx3, nI_clamp (show j < 2 ^ 31 by omega)]); exact hP
        have hD : va_D A (Mk cI cZ h a F nq no np sh nw (k1 (p_in (nI j) no && p_in t 8)) wt) := by (simp only [hk, nx0, nx1, nx2, nx3, nI_clamp (show j < 2 ^ 31 by omega)]); exact hD
        exact w_zret () hx hb hr hlocks hK hP hD hS (Nat.le_of_ble_eq_true rfl) (Nat.le_of_ble_eq_true rfl) dX1_isExempt_47 rfl (show k1 (p_in (nI j) no && p_in t 8) = 0 → 1 = b2i (p_ex F (nI j).toNatClampNeg t) from by intro _; simp only [nI_clamp (show j < 2 ^ 31 by omega)]; rw [c31]; rfl)
set_option maxHeartbeats 4000000 in
set_option maxRecDepth 100000 in
theorem c_X1_tradeOf (l : Launch) (G : va_G) (cI cZ : ClassId) (h : Nat) (a : Nat → Nat) (F : Nat → Nat → Int32) (nq no np : Nat) (sh nw : Int32) (th : Int32) (wt : Nat → Int32) (sz : Nat) (x : Int32) (hnp : np ≤ 20) : Met l yX1_tradeOf wsX1_tradeOf ({ frames := 2, cells := 0, slots := 0, locals := 43 } : Room) (va_Pc [.ref h, .int x] (wPre G (ty2 cI cZ) (Mk cI cZ h a F nq no np sh nw th wt) sz)) (va_Qi (fun (r : Int32) (_ : Unit) => k1 (p_in x np) = 0 → r = F 6 x.toNatClampNeg) (fun _ => wP G (ty2 cI cZ) (Mk cI cZ h a F nq no np sh nw (k1 (p_in x np)) wt) (va_A (Mk cI cZ h a F nq no np sh nw th wt) sz)) (va_A (Mk cI cZ h a F nq no np sh nw th wt) sz)) 0 0 (va_A (Mk cI cZ h a F nq no np sh nw th wt) sz) := by
  refine w_met (cc := cX1_tradeOf) (maxL := 2) (ret := (some .int)) (by decide) rfl (Nat.le_of_ble_eq_true rfl) ?_
  intro pg e s m below meth cd hx hb hml hr hts hown hlocks hnm hK hsz hP hD hA hS ls hl
  have hown : s.vm.findClass RX1 = some m.cls := hown
  have hin : ∀ w ∈ wsX10, w ∈ wsX1_tradeOf := by decide +kernel
  have hl : lv_has ls 2 [(0, .ref h), (1, .int x)] := hl
  generalize hAe : va_A (Mk cI cZ h a F nq no np sh nw th wt) sz = A at hD hA hS ⊢
  refine lv_aload_n hx hb dX1_tradeOf_0 rfl (lv_at hl 0 rfl) ?_
  refine lv_iconst (v := 0) hx hb dX1_tradeOf_1 (by decide) ?_
  refine va_put (ci := 1) (v := .int 0) (ty := .int) (C := RX1) (T := TX1) (N := 18) hx hb hts hin tyX1 tyX1_ok nmX1 hown hK hP hD hS 0 rfl rfl 0 (by decide) (hts (.fieldLink RX1 47 "CurfewDeskModel" "thrown" "I") (by decide +kernel)) (fun _ h9 => h9) rfl (by decide +kernel) rfl rfl (Nat.le_of_ble_eq_true rfl) dX1_tradeOf_2 (fun H locs hP hD hS => ?_)
  have hP : va_P G vwCl (Mk cI cZ h a F nq no np sh nw 0 wt) H := hP
  have hD : va_D A (Mk cI cZ h a F nq no np sh nw 0 wt) := hD
  refine lv_aload_n hx hb dX1_tradeOf_5 rfl (lv_at hl 0 rfl) ?_
  refine lv_iload_n hx hb dX1_tradeOf_6 rfl (lv_at hl 1 rfl) ?_
  refine w_in_i (va_runV (As := [.int x]) (rest := []) ⟨hx, hb, hml, hown, hts⟩ (c_X1_isPerson l G cI cZ h a F nq no np sh nw 0 wt H.size x (by omega)) (cwV 1 hts gX1_tradeOf_X1_isPerson rfl rfl rfl (by decide +kernel) ⟨(Nat.le_of_ble_eq_true rfl), (Nat.le_of_ble_eq_true rfl)⟩) ⟨wPre_blind, va_recv hK hP (ci := 1) (q0 := 0) rfl rfl, w_pre hK hP hD⟩ rfl rfl hl.1 rfl (lv_room (Nat.le_of_ble_eq_true rfl)) dX1_tradeOf_7 ⟨(Nat.le_of_ble_eq_true rfl), (Nat.le_of_ble_eq_true rfl)⟩) hD hS hA (fun r7 u7 H locs hw7 hP hD hS => ?_)
  have hP : va_P G vwCl (Mk cI cZ h a F nq no np sh nw 0 wt) H := hP
  have hD : va_D A (Mk cI cZ h a F nq no np sh nw 0 wt) := hD
  have hw7 : r7 = b2i (p_in x np) := hw7
  subst hw7
  refine lv_if_eq (tgt := 22) hx hb dX1_tradeOf_10 (by decide) (fun c10 => ?_) (fun c10 => ?_)
  · have c10 := b2i_0.mp c10
    refine lv_aload_n hx hb dX1_tradeOf_22 rfl (lv_at hl 0 rfl) ?_
    refine lv_iconst (v := 1) hx hb dX1_tradeOf_23 (by decide) ?_
    refine w_in_i (va_runV (As := [.int 1]) (rest := []) ⟨hx, hb, hml, hown, hts⟩ (c_X1_fail l G cI cZ h a F nq no np sh nw 0 wt H.size 1 ) (cwV 1 hts gX1_tradeOf_X1_fail rfl rfl rfl (by decide +kernel) ⟨(Nat.le_of_ble_eq_true rfl), (Nat.le_of_ble_eq_true rfl)⟩) ⟨wPre_blind, va_recv hK hP (ci := 1) (q0 := 0) rfl rfl, w_pre hK hP hD⟩ rfl rfl hl.1 rfl (lv_room (Nat.le_of_ble_eq_true rfl)) dX1_tradeOf_24 ⟨(Nat.le_of_ble_eq_true rfl), (Nat.le_of_ble_eq_true rfl)⟩) hD hS hA (fun r24 u24 H locs hw24 hP hD hS => ?_)
    have hP : va_P G vwCl (Mk cI cZ h a F nq no np sh nw 1 wt) H := hP
    have hD : va_D A (Mk cI cZ h a F nq no np sh nw 1 wt) := hD
    have hw24 : r24 = 0 := hw24
    subst hw24
    have hk : k1 (p_in x np) = 1 := by rw [c10]; rfl
    have hP : va_P G vwCl (Mk cI cZ h a F nq no np sh nw (k1 (p_in x np)) wt) H := by (simp only [hk, nx0, nx1, nx2, nx3]); exact hP
    have hD : va_D A (Mk cI cZ h a F nq no np sh nw (k1 (p_in x np)) wt) := by (simp only [hk, nx0, nx1, nx2, nx3]); exact hD
    exact w_iret () hx hb hr hlocks hK hP hD hS (Nat.le_of_ble_eq_true rfl) (Nat.le_of_ble_eq_true rfl) dX1_tradeOf_27 (show k1 (p_in x np) = 0 → 0 = F 6 x.toNatClampNeg from by intro hh9; rw [hk] at hh9; exact absurd hh9 (by decide))
  · have c10 := b2i_1.mp c10
    obtain ⟨j, hj, rfl⟩ := pin_of c10
    refine lv_aload_n hx hb dX1_tradeOf_13 rfl (lv_at hl 0 rfl) ?_
    refine va_get (ci := 1) (v := .ref (a 6)) (C := RX1) (T := TX1) (N := 18) hx hb hts hin hown hK hP 0 rfl rfl 12 (by decide) (hts (.fieldLink RX1 29 "CurfewDeskModel" "trade" "[I") (by decide +kernel)) (fun _ h9 => h9) rfl dX1_tradeOf_14 ?_
    refine lv_iload_n hx hb dX1_tradeOf_17 rfl (lv_at hl 1 rfl) ?_
    refine w_iald hx hb hK hP 7 0 rfl rfl (f := (F 6)) (j := j) (by omega) (by omega) dX1_tradeOf_18 ?_
    refine lv_goto (tgt := 27) hx hb dX1_tradeOf_19 (by decide) ?_
    have hk : k1 (p_in (nI j) np) = 0 := by rw [c10]; rfl
    have hP : va_P G vwCl (Mk cI cZ h a F nq no np sh nw (k1 (p_in (nI j) np)) wt) H := by (simp only [hk, nx0, nx1, nx2, nx3, nI_clamp (show j < 2 ^ 31 by omega)]); exact hP
    have hD : va_D A (Mk cI cZ h a F nq no np sh nw (k1 (p_in (nI j) np)) wt) := by (simp only [hk, nx0, nx1, nx2, nx3, nI_clamp (show j < 2 ^ 31 by omega)]); exact hD
    exact w_iret () hx hb hr hlocks hK hP hD hS (Nat.le_of_ble_eq_true rfl) (Nat.le_of_ble_eq_true rfl) dX1_tradeOf_27 (show k1 (p_in (nI j) np) = 0 → ((F 6) j) = F 6 (nI j).toNatClampNeg from by intro _; simp only [nI_clamp (show j < 2 ^ 31 by omega)])
set_option maxHeartbeats 4000000 in
set_option maxRecDepth 100000 in
theorem c_X1_owes (l : Launch) (G : va_G) (cI cZ : ClassId) (h : Nat) (a : Nat → Nat) (F : Nat → Nat → Int32) (nq no np : Nat) (sh nw : Int32) (th : Int32) (wt : Nat → Int32) (sz : Nat) (x : Int32) (hnp : np ≤ 20) : Met l yX1_owes wsX1_owes ({ frames := 2, cells := 0, slots := 0, locals := 43 } : Room) (va_Pc [.ref h, .int x] (wPre G (ty2 cI cZ) (Mk cI cZ h a F nq no np sh nw th wt) sz)) (va_Qi (fun (r : Int32) (_ : Unit) => k1 (p_in x np) = 0 → r = F 8 x.toNatClampNeg) (fun _ => wP G (ty2 cI cZ) (Mk cI cZ h a F nq no np sh nw (k1 (p_in x np)) wt) (va_A (Mk cI cZ h a F nq no np sh nw th wt) sz)) (va_A (Mk cI cZ h a F nq no np sh nw th wt) sz)) 0 0 (va_A (Mk cI cZ h a F nq no np sh nw th wt) sz) := by
  refine w_met (cc := cX1_owes) (maxL := 2) (ret := (some .int)) (by decide) rfl (Nat.le_of_ble_eq_true rfl) ?_
  intro pg e s m below meth cd hx hb hml hr hts hown hlocks hnm hK hsz hP hD hA hS ls hl
  have hown : s.vm.findClass RX1 = some m.cls := hown
  have hin : ∀ w ∈ wsX10, w ∈ wsX1_owes := by decide +kernel
  have hl : lv_has ls 2 [(0, .ref h), (1, .int x)] := hl
  generalize hAe : va_A (Mk cI cZ h a F nq no np sh nw th wt) sz = A at hD hA hS ⊢
  refine lv_aload_n hx hb dX1_owes_0 rfl (lv_at hl 0 rfl) ?_
  refine lv_iconst (v := 0) hx hb dX1_owes_1 (by decide) ?_
  refine va_put (ci := 1) (v := .int 0) (ty := .int) (C := RX1) (T := TX1) (N := 18) hx hb hts hin tyX1 tyX1_ok nmX1 hown hK hP hD hS 0 rfl rfl 0 (by decide) (hts (.fieldLink RX1 47 "CurfewDeskModel" "thrown" "I") (by decide +kernel)) (fun _ h9 => h9) rfl (by decide +kernel) rfl rfl (Nat.le_of_ble_eq_true rfl) dX1_owes_2 (fun H locs hP hD hS => ?_)
  have hP : va_P G vwCl (Mk cI cZ h a F nq no np sh nw 0 wt) H := hP
  have hD : va_D A (Mk cI cZ h a F nq no np sh nw 0 wt) := hD
  refine lv_aload_n hx hb dX1_owes_5 rfl (lv_at hl 0 rfl) ?_
  refine lv_iload_n hx hb dX1_owes_6 rfl (lv_at hl 1 rfl) ?_
  refine w_in_i (va_runV (As := [.int x]) (rest := []) ⟨hx, hb, hml, hown, hts⟩ (c_X1_isPerson l G cI cZ h a F nq no np sh nw 0 wt H.size x (by omega)) (cwV 1 hts gX1_owes_X1_isPerson rfl rfl rfl (by decide +kernel) ⟨(Nat.le_of_ble_eq_true rfl), (Nat.le_of_ble_eq_true rfl)⟩) ⟨wPre_blind, va_recv hK hP (ci := 1) (q0 := 0) rfl rfl, w_pre hK hP hD⟩ rfl rfl hl.1 rfl (lv_room (Nat.le_of_ble_eq_true rfl)) dX1_owes_7 ⟨(Nat.le_of_ble_eq_true rfl), (Nat.le_of_ble_eq_true rfl)⟩) hD hS hA (fun r7 u7 H locs hw7 hP hD hS => ?_)
  have hP : va_P G vwCl (Mk cI cZ h a F nq no np sh nw 0 wt) H := hP
  have hD : va_D A (Mk cI cZ h a F nq no np sh nw 0 wt) := hD
  have hw7 : r7 = b2i (p_in x np) := hw7
  subst hw7
  refine lv_if_eq (tgt := 22) hx hb dX1_owes_10 (by decide) (fun c10 => ?_) (fun c10 => ?_)
  · have c10 := b2i_0.mp c10
    refine lv_aload_n hx hb dX1_owes_22 rfl (lv_at hl 0 rfl) ?_
    refine lv_iconst (v := 1) hx hb dX1_owes_23 (by decide) ?_
    refine w_in_i (va_runV (As := [.int 1]) (rest := []) ⟨hx, hb, hml, hown, hts⟩ (c_X1_fail l G cI cZ h a F nq no np sh nw 0 wt H.size 1 ) (cwV 1 hts gX1_owes_X1_fail rfl rfl rfl (by decide +kernel) ⟨(Nat.le_of_ble_eq_true rfl), (Nat.le_of_ble_eq_true rfl)⟩) ⟨wPre_blind, va_recv hK hP (ci := 1) (q0 := 0) rfl rfl, w_pre hK hP hD⟩ rfl rfl hl.1 rfl (lv_room (Nat.le_of_ble_eq_true rfl)) dX1_owes_24 ⟨(Nat.le_of_ble_eq_true rfl), (Nat.le_of_ble_eq_true rfl)⟩) hD hS hA (fun r24 u24 H locs hw24 hP hD hS => ?_)
    have hP : va_P G vwCl (Mk cI cZ h a F nq no np sh nw 1 wt) H := hP
    have hD : va_D A (Mk cI cZ h a F nq no np sh nw 1 wt) := hD
    have hw24 : r24 = 0 := hw24
    subst hw24
    have hk : k1 (p_in x np) = 1 := by rw [c10]; rfl
    have hP : va_P G vwCl (Mk cI cZ h a F nq no np sh nw (k1 (p_in x np)) wt) H := by (simp only [hk, nx0, nx1, nx2, nx3]); exact hP
    have hD : va_D A (Mk cI cZ h a F nq no np sh nw (k1 (p_in x np)) wt) := by (simp only [hk, nx0, nx1, nx2, nx3]); exact hD
    exact w_iret () hx hb hr hlocks hK hP hD hS (Nat.le_of_ble_eq_true rfl) (Nat.le_of_ble_eq_true rfl) dX1_owes_27 (show k1 (p_in x np) = 0 → 0 = F 8 x.toNatClampNeg from by intro hh9; rw [hk] at hh9; exact absurd hh9 (by decide))
  · have c10 := b2i_1.mp c10
    obtain ⟨j, hj, rfl⟩ := pin_of c10
    refine lv_aload_n hx hb dX1_owes_13 rfl (lv_at hl 0 rfl) ?_
    refine va_get (ci := 1) (v := .ref (a 8)) (C := RX1) (T := TX1) (N := 18) hx hb hts hin hown hK hP 0 rfl rfl 14 (by decide) (hts (.fieldLink RX1 35 "CurfewDeskModel" "debt" "[I") (by decide +kernel)) (fun _ h9 => h9) rfl dX1_owes_14 ?_
    refine lv_iload_n hx hb dX1_owes_17 rfl (lv_at hl 1 rfl) ?_
    refine w_iald hx hb hK hP 9 0 rfl rfl (f := (F 8)) (j := j) (by omega) (by omega) dX1_owes_18 ?_
    refine lv_goto (tgt := 27) hx hb dX1_owes_19 (by decide) ?_
    have hk : k1 (p_in (nI j) np) = 0 := by rw [c10]; rfl
    have hP : va_P G vwCl (Mk cI cZ h a F nq no np sh nw (k1 (p_in (nI j) np)) wt) H := by (simp only [hk, nx0, nx1, nx2, nx3, nI_clamp (show j < 2 ^ 31 by omega)]); exact hP
    have hD : va_D A (Mk cI cZ h a F nq no np sh nw (k1 (p_in (nI j) np)) wt) := by (simp only [hk, nx0, nx1, nx2, nx3, nI_clamp (show j < 2 ^ 31 by omega)]); exact hD
    exact w_iret () hx hb hr hlocks hK hP hD hS (Nat.le_of_ble_eq_true rfl) (Nat.le_of_ble_eq_true rfl) dX1_owes_27 (show k1 (p_in (nI j) np) = 0 → ((F 8) j) = F 8 (nI j).toNatClampNeg from by intro _; simp only [nI_clamp (show j < 2 ^ 31 by omega)])
set_option maxHeartbeats 4000000 in
set_option maxRecDepth 100000 in
theorem c_X1_timesFined (l : Launch) (G : va_G) (cI cZ : ClassId) (h : Nat) (a : Nat → Nat) (F : Nat → Nat → Int32) (nq no np : Nat) (sh nw : Int32) (th : Int32) (wt : Nat → Int32) (sz : Nat) (x : Int32) (hnp : np ≤ 20) : Met l yX1_timesFined wsX1_timesFined ({ frames := 2, cells := 0, slots := 0, locals := 43 } : Room) (va_Pc [.ref h, .int x] (wPre G (ty2 cI cZ) (Mk cI cZ h a F nq no np sh nw th wt) sz)) (va_Qi (fun (r : Int32) (_ : Unit) => k1 (p_in x np) = 0 → r = F 7 x.toNatClampNeg) (fun _ => wP G (ty2 cI cZ) (Mk cI cZ h a F nq no np sh nw (k1 (p_in x np)) wt) (va_A (Mk cI cZ h a F nq no np sh nw th wt) sz)) (va_A (Mk cI cZ h a F nq no np sh nw th wt) sz)) 0 0 (va_A (Mk cI cZ h a F nq no np sh nw th wt) sz) := by
  refine w_met (cc := cX1_timesFined) (maxL := 2) (ret := (some .int)) (by decide) rfl (Nat.le_of_ble_eq_true rfl) ?_
  intro pg e s m below meth cd hx hb hml hr hts hown hlocks hnm hK hsz hP hD hA hS ls hl
  have hown : s.vm.findClass RX1 = some m.cls := hown
  have hin : ∀ w ∈ wsX10, w ∈ wsX1_timesFined := by decide +kernel
  have hl : lv_has ls 2 [(0, .ref h), (1, .int x)] := hl
  generalize hAe : va_A (Mk cI cZ h a F nq no np sh nw th wt) sz = A at hD hA hS ⊢
  refine lv_aload_n hx hb dX1_timesFined_0 rfl (lv_at hl 0 rfl) ?_
  refine lv_iconst (v := 0) hx hb dX1_timesFined_1 (by decide) ?_
  refine va_put (ci := 1) (v := .int 0) (ty := .int) (C := RX1) (T := TX1) (N := 18) hx hb hts hin tyX1 tyX1_ok nmX1 hown hK hP hD hS 0 rfl rfl 0 (by decide) (hts (.fieldLink RX1 47 "CurfewDeskModel" "thrown" "I") (by decide +kernel)) (fun _ h9 => h9) rfl (by decide +kernel) rfl rfl (Nat.le_of_ble_eq_true rfl) dX1_timesFined_2 (fun H locs hP hD hS => ?_)
  have hP : va_P G vwCl (Mk cI cZ h a F nq no np sh nw 0 wt) H := hP
  have hD : va_D A (Mk cI cZ h a F nq no np sh nw 0 wt) := hD
  refine lv_aload_n hx hb dX1_timesFined_5 rfl (lv_at hl 0 rfl) ?_
  refine lv_iload_n hx hb dX1_timesFined_6 rfl (lv_at hl 1 rfl) ?_
  refine w_in_i (va_runV (As := [.int x]) (rest := []) ⟨hx, hb, hml, hown, hts⟩ (c_X1_isPerson l G cI cZ h a F nq no np sh nw 0 wt H.size x (by omega)) (cwV 1 hts gX1_timesFined_X1_isPerson rfl rfl rfl (by decide +kernel) ⟨(Nat.le_of_ble_eq_true rfl), (Nat.le_of_ble_eq_true rfl)⟩) ⟨wPre_blind, va_recv hK hP (ci := 1) (q0 := 0) rfl rfl, w_pre hK hP hD⟩ rfl rfl hl.1 rfl (lv_room (Nat.le_of_ble_eq_true rfl)) dX1_timesFined_7 ⟨(Nat.le_of_ble_eq_true rfl), (Nat.le_of_ble_eq_true rfl)⟩) hD hS hA (fun r7 u7 H locs hw7 hP hD hS => ?_)
  have hP : va_P G vwCl (Mk cI cZ h a F nq no np sh nw 0 wt) H := hP
  have hD : va_D A (Mk cI cZ h a F nq no np sh nw 0 wt) := hD
  have hw7 : r7 = b2i (p_in x np) := hw7
  subst hw7
  refine lv_if_eq (tgt := 22) hx hb dX1_timesFined_10 (by decide) (fun c10 => ?_) (fun c10 => ?_)
  · have c10 := b2i_0.mp c10
    refine lv_aload_n hx hb dX1_timesFined_22 rfl (lv_at hl 0 rfl) ?_
    refine lv_iconst (v := 1) hx hb dX1_timesFined_23 (by decide) ?_
    refine w_in_i (va_runV (As := [.int 1]) (rest := []) ⟨hx, hb, hml, hown, hts⟩ (c_X1_fail l G cI cZ h a F nq no np sh nw 0 wt H.size 1 ) (cwV 1 hts gX1_timesFined_X1_fail rfl rfl rfl (by decide +kernel) ⟨(Nat.le_of_ble_eq_true rfl), (Nat.le_of_ble_eq_true rfl)⟩) ⟨wPre_blind, va_recv hK hP (ci := 1) (q0 := 0) rfl rfl, w_pre hK hP hD⟩ rfl rfl hl.1 rfl (lv_room (Nat.le_of_ble_eq_true rfl)) dX1_timesFined_24 ⟨(Nat.le_of_ble_eq_true rfl), (Nat.le_of_ble_eq_true rfl)⟩) hD hS hA (fun r24 u24 H locs hw24 hP hD hS => ?_)
    have hP : va_P G vwCl (Mk cI cZ h a F nq no np sh nw 1 wt) H := hP
    have hD : va_D A (Mk cI cZ h a F nq no np sh nw 1 wt) := hD
    have hw24 : r24 = 0 := hw24
    subst hw24
    have hk : k1 (p_in x np) = 1 := by rw [c10]; rfl
    have hP : va_P G vwCl (Mk cI cZ h a F nq no np sh nw (k1 (p_in x np)) wt) H := by (simp only [hk, nx0, nx1, nx2, nx3]); exact hP
    have hD : va_D A (Mk cI cZ h a F nq no np sh nw (k1 (p_in x np)) wt) := by (simp only [hk, nx0, nx1, nx2, nx3]); exact hD
    exact w_iret () hx hb hr hlocks hK hP hD hS (Nat.le_of_ble_eq_true rfl) (Nat.le_of_ble_eq_true rfl) dX1_timesFined_27 (show k1 (p_in x np) = 0 → 0 = F 7 x.toNatClampNeg from by intro hh9; rw [hk] at hh9; exact absurd hh9 (by decide))
  · have c10 := b2i_1.mp c10
    obtain ⟨j, hj, rfl⟩ := pin_of c10
    refine lv_aload_n hx hb dX1_timesFined_13 rfl (lv_at hl 0 rfl) ?_
    refine va_get (ci := 1) (v := .ref (a 7)) (C := RX1) (T := TX1) (N := 18) hx hb hts hin hown hK hP 0 rfl rfl 13 (by decide) (hts (.fieldLink RX1 32 "CurfewDeskModel" "fined" "[I") (by decide +kernel)) (fun _ h9 => h9) rfl dX1_timesFined_14 ?_
    refine lv_iload_n hx hb dX1_timesFined_17 rfl (lv_at hl 1 rfl) ?_
    refine w_iald hx hb hK hP 8 0 rfl rfl (f := (F 7)) (j := j) (by omega) (by omega) dX1_timesFined_18 ?_
    refine lv_goto (tgt := 27) hx hb dX1_timesFined_19 (by decide) ?_
    have hk : k1 (p_in (nI j) np) = 0 := by rw [c10]; rfl
    have hP : va_P G vwCl (Mk cI cZ h a F nq no np sh nw (k1 (p_in (nI j) np)) wt) H := by (simp only [hk, nx0, nx1, nx2, nx3, nI_clamp (show j < 2 ^ 31 by omega)]); exact hP
    have hD : va_D A (Mk cI cZ h a F nq no np sh nw (k1 (p_in (nI j) np)) wt) := by (simp only [hk, nx0, nx1, nx2, nx3, nI_clamp (show j < 2 ^ 31 by omega)]); exact hD
    exact w_iret () hx hb hr hlocks hK hP hD hS (Nat.le_of_ble_eq_true rfl) (Nat.le_of_ble_eq_true rfl) dX1_timesFined_27 (show k1 (p_in (nI j) np) = 0 → ((F 7) j) = F 7 (nI j).toNatClampNeg from by intro _; simp only [nI_clamp (show j < 2 ^ 31 by omega)])
set_option maxHeartbeats 4000000 in
set_option maxRecDepth 100000 in
theorem c_X1_stampsUsed (l : Launch) (G : va_G) (cI cZ : ClassId) (h : Nat) (a : Nat → Nat) (F : Nat → Nat → Int32) (nq no np : Nat) (sh nw : Int32) (th : Int32) (wt : Nat → Int32) (sz : Nat) (x : Int32) : Met l yX1_stampsUsed wsX1_stampsUsed ({ frames := 2, cells := 0, slots := 0, locals := 42 } : Room) (va_Pc [.ref h, .int x] (wPre G (ty2 cI cZ) (Mk cI cZ h a F nq no np sh nw th wt) sz)) (va_Qi (fun (r : Int32) (_ : Unit) => k1 (p_in x 4) = 0 → r = F 10 x.toNatClampNeg) (fun _ => wP G (ty2 cI cZ) (Mk cI cZ h a F nq no np sh nw (k1 (p_in x 4)) wt) (va_A (Mk cI cZ h a F nq no np sh nw th wt) sz)) (va_A (Mk cI cZ h a F nq no np sh nw th wt) sz)) 0 0 (va_A (Mk cI cZ h a F nq no np sh nw th wt) sz) := by
  refine w_met (cc := cX1_stampsUsed) (maxL := 2) (ret := (some .int)) (by decide) rfl (Nat.le_of_ble_eq_true rfl) ?_
  intro pg e s m below meth cd hx hb hml hr hts hown hlocks hnm hK hsz hP hD hA hS ls hl
  have hown : s.vm.findClass RX1 = some m.cls := hown
  have hin : ∀ w ∈ wsX10, w ∈ wsX1_stampsUsed := by decide +kernel
  have hl : lv_has ls 2 [(0, .ref h), (1, .int x)] := hl
  generalize hAe : va_A (Mk cI cZ h a F nq no np sh nw th wt) sz = A at hD hA hS ⊢
  refine lv_aload_n hx hb dX1_stampsUsed_0 rfl (lv_at hl 0 rfl) ?_
  refine lv_iconst (v := 0) hx hb dX1_stampsUsed_1 (by decide) ?_
  refine va_put (ci := 1) (v := .int 0) (ty := .int) (C := RX1) (T := TX1) (N := 18) hx hb hts hin tyX1 tyX1_ok nmX1 hown hK hP hD hS 0 rfl rfl 0 (by decide) (hts (.fieldLink RX1 47 "CurfewDeskModel" "thrown" "I") (by decide +kernel)) (fun _ h9 => h9) rfl (by decide +kernel) rfl rfl (Nat.le_of_ble_eq_true rfl) dX1_stampsUsed_2 (fun H locs hP hD hS => ?_)
  have hP : va_P G vwCl (Mk cI cZ h a F nq no np sh nw 0 wt) H := hP
  have hD : va_D A (Mk cI cZ h a F nq no np sh nw 0 wt) := hD
  refine lv_iload_n hx hb dX1_stampsUsed_5 rfl (lv_at hl 1 rfl) ?_
  refine w_st_i (va_runS (As := [.int x]) (rest := []) ⟨hx, hb, hml, hown, hts⟩ (c_X1_isColour l G H.size x ) (va_cwS 1 hts gX1_stampsUsed_X1_isColour rfl rfl rfl (by decide +kernel) ⟨(Nat.le_of_ble_eq_true rfl), (Nat.le_of_ble_eq_true rfl)⟩) ⟨wPre_blind, w_pre (hK.sub [] rfl) w_P0 (w_D0 (A := A))⟩ rfl rfl hl.1 rfl (lv_room (Nat.le_of_ble_eq_true rfl)) dX1_stampsUsed_6 ⟨(Nat.le_of_ble_eq_true rfl), (Nat.le_of_ble_eq_true rfl)⟩) hP hS hA (fun r6 u6 H locs hw6 hP hS => ?_)
  have hw6 : r6 = b2i (p_in x 4) := hw6
  subst hw6
  refine lv_if_eq (tgt := 21) hx hb dX1_stampsUsed_9 (by decide) (fun c9 => ?_) (fun c9 => ?_)
  · have c9 := b2i_0.mp c9
    refine lv_aload_n hx hb dX1_stampsUsed_21 rfl (lv_at hl 0 rfl) ?_
    refine lv_iconst (v := 1) hx hb dX1_stampsUsed_22 (by decide) ?_
    refine w_in_i (va_runV (As := [.int 1]) (rest := []) ⟨hx, hb, hml, hown, hts⟩ (c_X1_fail l G cI cZ h a F nq no np sh nw 0 wt H.size 1 ) (cwV 1 hts gX1_stampsUsed_X1_fail rfl rfl rfl (by decide +kernel) ⟨(Nat.le_of_ble_eq_true rfl), (Nat.le_of_ble_eq_true rfl)⟩) ⟨wPre_blind, va_recv hK hP (ci := 1) (q0 := 0) rfl rfl, w_pre hK hP hD⟩ rfl rfl hl.1 rfl (lv_room (Nat.le_of_ble_eq_true rfl)) dX1_stampsUsed_23 ⟨(Nat.le_of_ble_eq_true rfl), (Nat.le_of_ble_eq_true rfl)⟩) hD hS hA (fun r23 u23 H locs hw23 hP hD hS => ?_)
    have hP : va_P G vwCl (Mk cI cZ h a F nq no np sh nw 1 wt) H := hP
    have hD : va_D A (Mk cI cZ h a F nq no np sh nw 1 wt) := hD
    have hw23 : r23 = 0 := hw23
    subst hw23
    have hk : k1 (p_in x 4) = 1 := by rw [c9]; rfl
    have hP : va_P G vwCl (Mk cI cZ h a F nq no np sh nw (k1 (p_in x 4)) wt) H := by (simp only [hk, nx0, nx1, nx2, nx3]); exact hP
    have hD : va_D A (Mk cI cZ h a F nq no np sh nw (k1 (p_in x 4)) wt) := by (simp only [hk, nx0, nx1, nx2, nx3]); exact hD
    exact w_iret () hx hb hr hlocks hK hP hD hS (Nat.le_of_ble_eq_true rfl) (Nat.le_of_ble_eq_true rfl) dX1_stampsUsed_26 (show k1 (p_in x 4) = 0 → 0 = F 10 x.toNatClampNeg from by intro hh9; rw [hk] at hh9; exact absurd hh9 (by decide))
  · have c9 := b2i_1.mp c9
    obtain ⟨j, hj, rfl⟩ := pin_of c9
    refine lv_aload_n hx hb dX1_stampsUsed_12 rfl (lv_at hl 0 rfl) ?_
    refine va_get (ci := 1) (v := .ref (a 10)) (C := RX1) (T := TX1) (N := 18) hx hb hts hin hown hK hP 0 rfl rfl 16 (by decide) (hts (.fieldLink RX1 41 "CurfewDeskModel" "used" "[I") (by decide +kernel)) (fun _ h9 => h9) rfl dX1_stampsUsed_13 ?_
    refine lv_iload_n hx hb dX1_stampsUsed_16 rfl (lv_at hl 1 rfl) ?_
    refine w_iald hx hb hK hP 11 0 rfl rfl (f := (F 10)) (j := j) (by omega) (by omega) dX1_stampsUsed_17 ?_
    refine lv_goto (tgt := 26) hx hb dX1_stampsUsed_18 (by decide) ?_
    have hk : k1 (p_in (nI j) 4) = 0 := by rw [c9]; rfl
    have hP : va_P G vwCl (Mk cI cZ h a F nq no np sh nw (k1 (p_in (nI j) 4)) wt) H := by (simp only [hk, nx0, nx1, nx2, nx3, nI_clamp (show j < 2 ^ 31 by omega)]); exact hP
    have hD : va_D A (Mk cI cZ h a F nq no np sh nw (k1 (p_in (nI j) 4)) wt) := by (simp only [hk, nx0, nx1, nx2, nx3, nI_clamp (show j < 2 ^ 31 by omega)]); exact hD
    exact w_iret () hx hb hr hlocks hK hP hD hS (Nat.le_of_ble_eq_true rfl) (Nat.le_of_ble_eq_true rfl) dX1_stampsUsed_26 (show k1 (p_in (nI j) 4) = 0 → ((F 10) j) = F 10 (nI j).toNatClampNeg from by intro _; simp only [nI_clamp (show j < 2 ^ 31 by omega)])
set_option maxHeartbeats 4000000 in
set_option maxRecDepth 100000 in
theorem c_X1_stampsOf (l : Launch) (G : va_G) (cI cZ : ClassId) (h : Nat) (a : Nat → Nat) (F : Nat → Nat → Int32) (nq no np : Nat) (sh nw : Int32) (th : Int32) (wt : Nat → Int32) (sz : Nat) (x : Int32) (y : Int32) (hnp : np ≤ 20) : Met l yX1_stampsOf wsX1_stampsOf ({ frames := 3, cells := 0, slots := 0, locals := 65 } : Room) (va_Pc [.ref h, .int x, .int y] (wPre G (ty2 cI cZ) (Mk cI cZ h a F nq no np sh nw th wt) sz)) (va_Qi (fun (r : Int32) (_ : Unit) => k1 (p_in x np && p_in y 4) = 0 → r = F 9 (p_pl x y)) (fun _ => wP G (ty2 cI cZ) (Mk cI cZ h a F nq no np sh nw (k1 (p_in x np && p_in y 4)) wt) (va_A (Mk cI cZ h a F nq no np sh nw th wt) sz)) (va_A (Mk cI cZ h a F nq no np sh nw th wt) sz)) 0 0 (va_A (Mk cI cZ h a F nq no np sh nw th wt) sz) := by
  refine w_met (cc := cX1_stampsOf) (maxL := 3) (ret := (some .int)) (by decide) rfl (Nat.le_of_ble_eq_true rfl) ?_
  intro pg e s m below meth cd hx hb hml hr hts hown hlocks hnm hK hsz hP hD hA hS ls hl
  have hown : s.vm.findClass RX1 = some m.cls := hown
  have hin : ∀ w ∈ wsX10, w ∈ wsX1_stampsOf := by decide +kernel
  have hl : lv_has ls 3 [(0, .ref h), (1, .int x), (2, .int y)] := hl
  generalize hAe : va_A (Mk cI cZ h a F nq no np sh nw th wt) sz = A at hD hA hS ⊢
  refine lv_aload_n hx hb dX1_stampsOf_0 rfl (lv_at hl 0 rfl) ?_
  refine lv_iload_n hx hb dX1_stampsOf_1 rfl (lv_at hl 1 rfl) ?_
  refine lv_iload_n hx hb dX1_stampsOf_2 rfl (lv_at hl 2 rfl) ?_
  refine w_in_i (va_runV (As := [.int x, .int y]) (rest := []) ⟨hx, hb, hml, hown, hts⟩ (c_X1_isPass l G cI cZ h a F nq no np sh nw th wt s.heap.size x y (by omega)) (cwV 2 hts gX1_stampsOf_X1_isPass rfl rfl rfl (by decide +kernel) ⟨(Nat.le_of_ble_eq_true rfl), (Nat.le_of_ble_eq_true rfl)⟩) ⟨wPre_blind, va_recv hK hP (ci := 1) (q0 := 0) rfl rfl, w_pre hK hP hD⟩ rfl rfl hl.1 rfl (lv_room (Nat.le_of_ble_eq_true rfl)) dX1_stampsOf_3 ⟨(Nat.le_of_ble_eq_true rfl), (Nat.le_of_ble_eq_true rfl)⟩) hD hS hA (fun r3 u3 H locs hw3 hP hD hS => ?_)
  have hP : va_P G vwCl (Mk cI cZ h a F nq no np sh nw (k1 (p_in x np && p_in y 4)) wt) H := hP
  have hD : va_D A (Mk cI cZ h a F nq no np sh nw (k1 (p_in x np && p_in y 4)) wt) := hD
  have hw3 : r3 = b2i (p_in x np && p_in y 4) := hw3
  subst hw3
  refine lv_if_eq (tgt := 22) hx hb dX1_stampsOf_6 (by decide) (fun c6 => ?_) (fun c6 => ?_)
  · have c6 := b2i_0.mp c6
    rw [c6] at hP hD
    have hP : va_P G vwCl (Mk cI cZ h a F nq no np sh nw 1 wt) H := hP
    have hD : va_D A (Mk cI cZ h a F nq no np sh nw 1 wt) := hD
    refine lv_iconst (v := 0) hx hb dX1_stampsOf_22 (by decide) ?_
    have hk : k1 (p_in x np && p_in y 4) = 1 := by rw [c6]; rfl
    have hP : va_P G vwCl (Mk cI cZ h a F nq no np sh nw (k1 (p_in x np && p_in y 4)) wt) H := by (simp only [hk, nx0, nx1, nx2, nx3]); exact hP
    have hD : va_D A (Mk cI cZ h a F nq no np sh nw (k1 (p_in x np && p_in y 4)) wt) := by (simp only [hk, nx0, nx1, nx2, nx3]); exact hD
    exact w_iret () hx hb hr hlocks hK hP hD hS (Nat.le_of_ble_eq_true rfl) (Nat.le_of_ble_eq_true rfl) dX1_stampsOf_23 (show k1 (p_in x np && p_in y 4) = 0 → 0 = F 9 (p_pl x y) from by intro hh9; rw [hk] at hh9; exact absurd hh9 (by decide))
  · have c6 := b2i_1.mp c6
    obtain ⟨hA9, hB9⟩ := (Bool.and_eq_true_iff).mp c6
    obtain ⟨j, hj, rfl⟩ := pin_of hA9
    obtain ⟨c, hc, rfl⟩ := pin_of hB9
    rw [c6] at hP hD
    have hP : va_P G vwCl (Mk cI cZ h a F nq no np sh nw 0 wt) H := hP
    have hD : va_D A (Mk cI cZ h a F nq no np sh nw 0 wt) := hD
    refine lv_aload_n hx hb dX1_stampsOf_9 rfl (lv_at hl 0 rfl) ?_
    refine va_get (ci := 1) (v := .ref (a 9)) (C := RX1) (T := TX1) (N := 18) hx hb hts hin hown hK hP 0 rfl rfl 15 (by decide) (hts (.fieldLink RX1 38 "CurfewDeskModel" "stamps" "[I") (by decide +kernel)) (fun _ h9 => h9) rfl dX1_stampsOf_10 ?_
    refine lv_iconst (v := 4) hx hb dX1_stampsOf_13 (by decide) ?_
    refine lv_iload_n hx hb dX1_stampsOf_14 rfl (lv_at hl 1 rfl) ?_
    refine lv_imul hx hb dX1_stampsOf_15 ?_
    refine lv_iload_n hx hb dX1_stampsOf_16 rfl (lv_at hl 2 rfl) ?_
    refine lv_iadd hx hb dX1_stampsOf_17 ?_
    rw [pl_eq]
    refine w_iald hx hb hK hP 10 0 rfl rfl (f := (F 9)) (j := (j * 4 + c)) (by omega) (by omega) dX1_stampsOf_18 ?_
    refine lv_goto (tgt := 23) hx hb dX1_stampsOf_19 (by decide) ?_
    have hk : k1 (p_in (nI j) np && p_in (nI c) 4) = 0 := by rw [c6]; rfl
    have hP : va_P G vwCl (Mk cI cZ h a F nq no np sh nw (k1 (p_in (nI j) np && p_in (nI c) 4)) wt) H := by (simp only [hk, nx0, nx1, nx2, nx3, p_pl, nI_clamp (show j < 2 ^ 31 by omega), nI_clamp (show c < 2 ^ 31 by omega)]); exact hP
    have hD : va_D A (Mk cI cZ h a F nq no np sh nw (k1 (p_in (nI j) np && p_in (nI c) 4)) wt) := by (simp only [hk, nx0, nx1, nx2, nx3, p_pl, nI_clamp (show j < 2 ^ 31 by omega), nI_clamp (show c < 2 ^ 31 by omega)]); exact hD
    exact w_iret () hx hb hr hlocks hK hP hD hS (Nat.le_of_ble_eq_true rfl) (Nat.le_of_ble_eq_true rfl) dX1_stampsOf_23 (show k1 (p_in (nI j) np && p_in (nI c) 4) = 0 → ((F 9) (j * 4 + c)) = F 9 (p_pl (nI j) (nI c)) from by intro _; simp only [p_pl, nI_clamp (show j < 2 ^ 31 by omega), nI_clamp (show c < 2 ^ 31 by omega)])
set_option maxHeartbeats 4000000 in
set_option maxRecDepth 100000 in
theorem c_X1_takePass (l : Launch) (G : va_G) (cI cZ : ClassId) (h : Nat) (a : Nat → Nat) (F : Nat → Nat → Int32) (nq no np : Nat) (sh nw : Int32) (th : Int32) (wt : Nat → Int32) (sz : Nat) (x : Int32) (y : Int32) (hnp : np ≤ 20) : Met l yX1_takePass wsX1_takePass ({ frames := 3, cells := 0, slots := 0, locals := 65 } : Room) (va_Pc [.ref h, .int x, .int y] (wPre G (ty2 cI cZ) (Mk cI cZ h a F nq no np sh nw th wt) sz)) (va_Qi (fun (r : Int32) (_ : Unit) => k1 (p_in x np && p_in y 4) = 0 → r = F 9 (p_pl x y)) (fun _ => wP G (ty2 cI cZ) (Mk cI cZ h a (nx (k1 (p_in x np && p_in y 4)) (n_st F (p_pl x y) 0) F) nq no np sh nw (k1 (p_in x np && p_in y 4)) wt) (va_A (Mk cI cZ h a F nq no np sh nw th wt) sz)) (va_A (Mk cI cZ h a F nq no np sh nw th wt) sz)) 0 0 (va_A (Mk cI cZ h a F nq no np sh nw th wt) sz) := by
  refine w_met (cc := cX1_takePass) (maxL := 4) (ret := (some .int)) (by decide) rfl (Nat.le_of_ble_eq_true rfl) ?_
  intro pg e s m below meth cd hx hb hml hr hts hown hlocks hnm hK hsz hP hD hA hS ls hl
  have hown : s.vm.findClass RX1 = some m.cls := hown
  have hin : ∀ w ∈ wsX10, w ∈ wsX1_takePass := by decide +kernel
  have hl : lv_has ls 4 [(0, .ref h), (1, .int x), (2, .int y)] := hl
  generalize hAe : va_A (Mk cI cZ h a F nq no np sh nw th wt) sz = A at hD hA hS ⊢
  refine lv_aload_n hx hb dX1_takePass_0 rfl (lv_at hl 0 rfl) ?_
  refine lv_iload_n hx hb dX1_takePass_1 rfl (lv_at hl 1 rfl) ?_
  refine lv_iload_n hx hb dX1_takePass_2 rfl (lv_at hl 2 rfl) ?_
  refine w_in_i (va_runV (As := [.int x, .int y]) (rest := []) ⟨hx, hb, hml, hown, hts⟩ (c_X1_isPass l G cI cZ h a F nq no np sh nw th wt s.heap.size x y (by omega)) (cwV 2 hts gX1_takePass_X1_isPass rfl rfl rfl (by decide +kernel) ⟨(Nat.le_of_ble_eq_true rfl), (Nat.le_of_ble_eq_true rfl)⟩) ⟨wPre_blind, va_recv hK hP (ci := 1) (q0 := 0) rfl rfl, w_pre hK hP hD⟩ rfl rfl hl.1 rfl (lv_room (Nat.le_of_ble_eq_true rfl)) dX1_takePass_3 ⟨(Nat.le_of_ble_eq_true rfl), (Nat.le_of_ble_eq_true rfl)⟩) hD hS hA (fun r3 u3 H locs hw3 hP hD hS => ?_)
  have hP : va_P G vwCl (Mk cI cZ h a F nq no np sh nw (k1 (p_in x np && p_in y 4)) wt) H := hP
  have hD : va_D A (Mk cI cZ h a F nq no np sh nw (k1 (p_in x np && p_in y 4)) wt) := hD
  have hw3 : r3 = b2i (p_in x np && p_in y 4) := hw3
  subst hw3
  refine lv_if_ne (tgt := 11) hx hb dX1_takePass_6 (by decide) (fun c6 => ?_) (fun c6 => ?_)
  · have c6 := b2i_1.mp c6
    obtain ⟨hA9, hB9⟩ := (Bool.and_eq_true_iff).mp c6
    obtain ⟨j, hj, rfl⟩ := pin_of hA9
    obtain ⟨c, hc, rfl⟩ := pin_of hB9
    rw [c6] at hP hD
    have hP : va_P G vwCl (Mk cI cZ h a F nq no np sh nw 0 wt) H := hP
    have hD : va_D A (Mk cI cZ h a F nq no np sh nw 0 wt) := hD
    refine lv_aload_n hx hb dX1_takePass_11 rfl (lv_at hl 0 rfl) ?_
    refine va_get (ci := 1) (v := .ref (a 9)) (C := RX1) (T := TX1) (N := 18) hx hb hts hin hown hK hP 0 rfl rfl 15 (by decide) (hts (.fieldLink RX1 38 "CurfewDeskModel" "stamps" "[I") (by decide +kernel)) (fun _ h9 => h9) rfl dX1_takePass_12 ?_
    refine lv_iconst (v := 4) hx hb dX1_takePass_15 (by decide) ?_
    refine lv_iload_n hx hb dX1_takePass_16 rfl (lv_at hl 1 rfl) ?_
    refine lv_imul hx hb dX1_takePass_17 ?_
    refine lv_iload_n hx hb dX1_takePass_18 rfl (lv_at hl 2 rfl) ?_
    refine lv_iadd hx hb dX1_takePass_19 ?_
    rw [pl_eq]
    refine w_iald hx hb hK hP 10 0 rfl rfl (f := (F 9)) (j := (j * 4 + c)) (by omega) (by omega) dX1_takePass_20 ?_
    refine lv_istore_n (lv' := [(3, .int ((F 9) (j * 4 + c))), (0, .ref h), (1, .int (nI j)), (2, .int (nI c))]) hx hb dX1_takePass_21 rfl hl (by decide) rfl (fun ls hl => ?_)
    refine lv_aload_n hx hb dX1_takePass_22 rfl (lv_at hl 1 rfl) ?_
    refine va_get (ci := 1) (v := .ref (a 9)) (C := RX1) (T := TX1) (N := 18) hx hb hts hin hown hK hP 0 rfl rfl 15 (by decide) (hts (.fieldLink RX1 38 "CurfewDeskModel" "stamps" "[I") (by decide +kernel)) (fun _ h9 => h9) rfl dX1_takePass_23 ?_
    refine lv_iconst (v := 4) hx hb dX1_takePass_26 (by decide) ?_
    refine lv_iload_n hx hb dX1_takePass_27 rfl (lv_at hl 2 rfl) ?_
    refine lv_imul hx hb dX1_takePass_28 ?_
    refine lv_iload_n hx hb dX1_takePass_29 rfl (lv_at hl 3 rfl) ?_
    refine lv_iadd hx hb dX1_takePass_30 ?_
    rw [pl_eq]
    refine lv_iconst (v := 0) hx hb dX1_takePass_31 (by decide) ?_
    refine w_iast hx hb hK hP hD hS 10 0 rfl rfl (f := (F 9)) (j := (j * 4 + c)) (by omega) (by omega) dX1_takePass_32 (fun H locs hP hD hS => ?_)
    have hP : va_P G vwCl (Mk cI cZ h a (va_up F 9 (upd (F 9) (j * 4 + c) 0)) nq no np sh nw 0 wt) H := hP
    have hD : va_D A (Mk cI cZ h a (va_up F 9 (upd (F 9) (j * 4 + c) 0)) nq no np sh nw 0 wt) := hD
    refine lv_iload_n hx hb dX1_takePass_33 rfl (lv_at hl 0 rfl) ?_
    have hk : k1 (p_in (nI j) np && p_in (nI c) 4) = 0 := by rw [c6]; rfl
    have hP : va_P G vwCl (Mk cI cZ h a (nx (k1 (p_in (nI j) np && p_in (nI c) 4)) (n_st F (p_pl (nI j) (nI c)) 0) F) nq no np sh nw (k1 (p_in (nI j) np && p_in (nI c) 4)) wt) H := by (simp only [hk, nx0, nx1, nx2, nx3, p_pl, nI_clamp (show j < 2 ^ 31 by omega), nI_clamp (show c < 2 ^ 31 by omega)]); exact hP
    have hD : va_D A (Mk cI cZ h a (nx (k1 (p_in (nI j) np && p_in (nI c) 4)) (n_st F (p_pl (nI j) (nI c)) 0) F) nq no np sh nw (k1 (p_in (nI j) np && p_in (nI c) 4)) wt) := by (simp only [hk, nx0, nx1, nx2, nx3, p_pl, nI_clamp (show j < 2 ^ 31 by omega), nI_clamp (show c < 2 ^ 31 by omega)]); exact hD
    exact w_iret () hx hb hr hlocks hK hP hD hS (Nat.le_of_ble_eq_true rfl) (Nat.le_of_ble_eq_true rfl) dX1_takePass_34 (show k1 (p_in (nI j) np && p_in (nI c) 4) = 0 → ((F 9) (j * 4 + c)) = F 9 (p_pl (nI j) (nI c)) from by intro _; simp only [p_pl, nI_clamp (show j < 2 ^ 31 by omega), nI_clamp (show c < 2 ^ 31 by omega)])
  · have c6 := b2i_0.mp c6
    rw [c6] at hP hD
    have hP : va_P G vwCl (Mk cI cZ h a F nq no np sh nw 1 wt) H := hP
    have hD : va_D A (Mk cI cZ h a F nq no np sh nw 1 wt) := hD
    refine lv_iconst (v := 0) hx hb dX1_takePass_9 (by decide) ?_
    have hk : k1 (p_in x np && p_in y 4) = 1 := by rw [c6]; rfl
    have hP : va_P G vwCl (Mk cI cZ h a (nx (k1 (p_in x np && p_in y 4)) (n_st F (p_pl x y) 0) F) nq no np sh nw (k1 (p_in x np && p_in y 4)) wt) H := by (simp only [hk, nx0, nx1, nx2, nx3]); exact hP
    have hD : va_D A (Mk cI cZ h a (nx (k1 (p_in x np && p_in y 4)) (n_st F (p_pl x y) 0) F) nq no np sh nw (k1 (p_in x np && p_in y 4)) wt) := by (simp only [hk, nx0, nx1, nx2, nx3]); exact hD
    exact w_iret () hx hb hr hlocks hK hP hD hS (Nat.le_of_ble_eq_true rfl) (Nat.le_of_ble_eq_true rfl) dX1_takePass_10 (show k1 (p_in x np && p_in y 4) = 0 → 0 = F 9 (p_pl x y) from by intro hh9; rw [hk] at hh9; exact absurd hh9 (by decide))
set_option maxHeartbeats 4000000 in
set_option maxRecDepth 100000 in
theorem c_X1_givePass (l : Launch) (G : va_G) (cI cZ : ClassId) (h : Nat) (a : Nat → Nat) (F : Nat → Nat → Int32) (nq no np : Nat) (sh nw : Int32) (th : Int32) (wt : Nat → Int32) (sz : Nat) (x : Int32) (y : Int32) (z : Int32) (hnp : np ≤ 20) : Met l yX1_givePass wsX1_givePass ({ frames := 3, cells := 0, slots := 0, locals := 65 } : Room) (va_Pc [.ref h, .int x, .int y, .int z] (wPre G (ty2 cI cZ) (Mk cI cZ h a F nq no np sh nw th wt) sz)) (va_Qi (fun (r : Int32) (_ : Unit) => k2 (p_in x np && p_in y 4) (p_wi z 1 9) = 0 → r = p_cap (F 9 (p_pl x y) + z)) (fun _ => wP G (ty2 cI cZ) (Mk cI cZ h a (nx (k2 (p_in x np && p_in y 4) (p_wi z 1 9)) (n_st F (p_pl x y) (p_cap (F 9 (p_pl x y) + z))) F) nq no np sh nw (k2 (p_in x np && p_in y 4) (p_wi z 1 9)) wt) (va_A (Mk cI cZ h a F nq no np sh nw th wt) sz)) (va_A (Mk cI cZ h a F nq no np sh nw th wt) sz)) 0 0 (va_A (Mk cI cZ h a F nq no np sh nw th wt) sz) := by
  refine w_met (cc := cX1_givePass) (maxL := 5) (ret := (some .int)) (by decide) rfl (Nat.le_of_ble_eq_true rfl) ?_
  intro pg e s m below meth cd hx hb hml hr hts hown hlocks hnm hK hsz hP hD hA hS ls hl
  have hown : s.vm.findClass RX1 = some m.cls := hown
  have hin : ∀ w ∈ wsX10, w ∈ wsX1_givePass := by decide +kernel
  have hl : lv_has ls 5 [(0, .ref h), (1, .int x), (2, .int y), (3, .int z)] := hl
  generalize hAe : va_A (Mk cI cZ h a F nq no np sh nw th wt) sz = A at hD hA hS ⊢
  refine lv_aload_n hx hb dX1_givePass_0 rfl (lv_at hl 0 rfl) ?_
  refine lv_iload_n hx hb dX1_givePass_1 rfl (lv_at hl 1 rfl) ?_
  refine lv_iload_n hx hb dX1_givePass_2 rfl (lv_at hl 2 rfl) ?_
  refine w_in_i (va_runV (As := [.int x, .int y]) (rest := []) ⟨hx, hb, hml, hown, hts⟩ (c_X1_isPass l G cI cZ h a F nq no np sh nw th wt s.heap.size x y (by omega)) (cwV 2 hts gX1_givePass_X1_isPass rfl rfl rfl (by decide +kernel) ⟨(Nat.le_of_ble_eq_true rfl), (Nat.le_of_ble_eq_true rfl)⟩) ⟨wPre_blind, va_recv hK hP (ci := 1) (q0 := 0) rfl rfl, w_pre hK hP hD⟩ rfl rfl hl.1 rfl (lv_room (Nat.le_of_ble_eq_true rfl)) dX1_givePass_3 ⟨(Nat.le_of_ble_eq_true rfl), (Nat.le_of_ble_eq_true rfl)⟩) hD hS hA (fun r3 u3 H locs hw3 hP hD hS => ?_)
  have hP : va_P G vwCl (Mk cI cZ h a F nq no np sh nw (k1 (p_in x np && p_in y 4)) wt) H := hP
  have hD : va_D A (Mk cI cZ h a F nq no np sh nw (k1 (p_in x np && p_in y 4)) wt) := hD
  have hw3 : r3 = b2i (p_in x np && p_in y 4) := hw3
  subst hw3
  refine lv_if_ne (tgt := 11) hx hb dX1_givePass_6 (by decide) (fun c6 => ?_) (fun c6 => ?_)
  · have c6 := b2i_1.mp c6
    obtain ⟨hA9, hB9⟩ := (Bool.and_eq_true_iff).mp c6
    obtain ⟨j, hj, rfl⟩ := pin_of hA9
    obtain ⟨c, hc, rfl⟩ := pin_of hB9
    rw [c6] at hP hD
    have hP : va_P G vwCl (Mk cI cZ h a F nq no np sh nw 0 wt) H := hP
    have hD : va_D A (Mk cI cZ h a F nq no np sh nw 0 wt) := hD
    refine lv_iload_n hx hb dX1_givePass_11 rfl (lv_at hl 3 rfl) ?_
    refine lv_iconst (v := 1) hx hb dX1_givePass_12 (by decide) ?_
    refine lv_bipush (v := 9) hx hb dX1_givePass_13 (by decide) ?_
    refine w_st_i (va_runS (As := [.int z, .int 1, .int 9]) (rest := []) ⟨hx, hb, hml, hown, hts⟩ (c_X1_isIn l G H.size z 1 9 ) (va_cwS 3 hts gX1_givePass_X1_isIn rfl rfl rfl (by decide +kernel) ⟨(Nat.le_of_ble_eq_true rfl), (Nat.le_of_ble_eq_true rfl)⟩) ⟨wPre_blind, w_pre (hK.sub [] rfl) w_P0 (w_D0 (A := A))⟩ rfl rfl hl.1 rfl (lv_room (Nat.le_of_ble_eq_true rfl)) dX1_givePass_15 ⟨(Nat.le_of_ble_eq_true rfl), (Nat.le_of_ble_eq_true rfl)⟩) hP hS hA (fun r15 u15 H locs hw15 hP hS => ?_)
    have hw15 : r15 = b2i (p_wi z 1 9) := hw15
    subst hw15
    refine lv_if_ne (tgt := 27) hx hb dX1_givePass_18 (by decide) (fun c18 => ?_) (fun c18 => ?_)
    · have c18 := b2i_1.mp c18
      refine lv_iconst (v := 4) hx hb dX1_givePass_27 (by decide) ?_
      refine lv_iload_n hx hb dX1_givePass_28 rfl (lv_at hl 1 rfl) ?_
      refine lv_imul hx hb dX1_givePass_29 ?_
      refine lv_iload_n hx hb dX1_givePass_30 rfl (lv_at hl 2 rfl) ?_
      refine lv_iadd hx hb dX1_givePass_31 ?_
      rw [pl_eq]
      refine lv_istore (lv' := [(4, .int (nI (j * 4 + c))), (0, .ref h), (1, .int (nI j)), (2, .int (nI c)), (3, .int z)]) hx hb dX1_givePass_32 hl (by decide) rfl (fun ls hl => ?_)
      refine lv_aload_n hx hb dX1_givePass_34 rfl (lv_at hl 1 rfl) ?_
      refine va_get (ci := 1) (v := .ref (a 9)) (C := RX1) (T := TX1) (N := 18) hx hb hts hin hown hK hP 0 rfl rfl 15 (by decide) (hts (.fieldLink RX1 38 "CurfewDeskModel" "stamps" "[I") (by decide +kernel)) (fun _ h9 => h9) rfl dX1_givePass_35 ?_
      refine lv_iload hx hb dX1_givePass_38 (lv_at hl 0 rfl) ?_
      refine lv_bipush (v := 9) hx hb dX1_givePass_40 (by decide) ?_
      refine lv_aload_n hx hb dX1_givePass_42 rfl (lv_at hl 1 rfl) ?_
      refine va_get (ci := 1) (v := .ref (a 9)) (C := RX1) (T := TX1) (N := 18) hx hb hts hin hown hK hP 0 rfl rfl 15 (by decide) (hts (.fieldLink RX1 38 "CurfewDeskModel" "stamps" "[I") (by decide +kernel)) (fun _ h9 => h9) rfl dX1_givePass_43 ?_
      refine lv_iload hx hb dX1_givePass_46 (lv_at hl 0 rfl) ?_
      refine w_iald hx hb hK hP 10 0 rfl rfl (f := (F 9)) (j := (j * 4 + c)) (by omega) (by omega) dX1_givePass_48 ?_
      refine lv_iload_n hx hb dX1_givePass_49 rfl (lv_at hl 4 rfl) ?_
      refine lv_iadd hx hb dX1_givePass_50 ?_
      refine va_mmin hx hb (hml.trans hl.1.symm) hown (hts (.methodLink RX1 113 Lib.Math.min.name) (by decide +kernel)) (hts (.static Lib.Math.min.name) (by decide +kernel)) (hts (.initialized "java/lang/Math") (by decide +kernel)) (hts (.code Lib.Math.min.name Lib.Math.min.code 2 (some .int)) (by decide +kernel)) (Nat.le_of_ble_eq_true rfl) (Nat.le_of_ble_eq_true rfl) (Nat.le_of_ble_eq_true rfl) (Nat.le_of_ble_eq_true rfl) dX1_givePass_51 ?_
      refine w_iast hx hb hK hP hD hS 10 0 rfl rfl (f := (F 9)) (j := (j * 4 + c)) (by omega) (by omega) dX1_givePass_54 (fun H locs hP hD hS => ?_)
      have hP : va_P G vwCl (Mk cI cZ h a (va_up F 9 (upd (F 9) (j * 4 + c) (if ((F 9) (j * 4 + c)) + z < 9 then (((F 9) (j * 4 + c)) + z) else 9))) nq no np sh nw 0 wt) H := hP
      have hD : va_D A (Mk cI cZ h a (va_up F 9 (upd (F 9) (j * 4 + c) (if ((F 9) (j * 4 + c)) + z < 9 then (((F 9) (j * 4 + c)) + z) else 9))) nq no np sh nw 0 wt) := hD
      refine lv_aload_n hx hb dX1_givePass_55 rfl (lv_at hl 1 rfl) ?_
      refine va_get (ci := 1) (v := .ref (a 9)) (C := RX1) (T := TX1) (N := 18) hx hb hts hin hown hK hP 0 rfl rfl 15 (by decide) (hts (.fieldLink RX1 38 "CurfewDeskModel" "stamps" "[I") (by decide +kernel)) (fun _ h9 => h9) rfl dX1_givePass_56 ?_
      refine lv_iload hx hb dX1_givePass_59 (lv_at hl 0 rfl) ?_
      refine w_iald hx hb hK hP 10 0 rfl rfl (f := (upd (F 9) (j * 4 + c) (if ((F 9) (j * 4 + c)) + z < 9 then (((F 9) (j * 4 + c)) + z) else 9))) (j := (j * 4 + c)) (by omega) (by omega) dX1_givePass_61 ?_
      rw [pk_us]
      have hk : k2 (p_in (nI j) np && p_in (nI c) 4) (p_wi z 1 9) = 0 := by rw [c6, c18]; rfl
      have hP : va_P G vwCl (Mk cI cZ h a (nx (k2 (p_in (nI j) np && p_in (nI c) 4) (p_wi z 1 9)) (n_st F (p_pl (nI j) (nI c)) (p_cap (F 9 (p_pl (nI j) (nI c)) + z))) F) nq no np sh nw (k2 (p_in (nI j) np && p_in (nI c) 4) (p_wi z 1 9)) wt) H := by (simp only [hk, nx0, nx1, nx2, nx3, p_pl, nI_clamp (show j < 2 ^ 31 by omega), nI_clamp (show c < 2 ^ 31 by omega)]); exact hP
      have hD : va_D A (Mk cI cZ h a (nx (k2 (p_in (nI j) np && p_in (nI c) 4) (p_wi z 1 9)) (n_st F (p_pl (nI j) (nI c)) (p_cap (F 9 (p_pl (nI j) (nI c)) + z))) F) nq no np sh nw (k2 (p_in (nI j) np && p_in (nI c) 4) (p_wi z 1 9)) wt) := by (simp only [hk, nx0, nx1, nx2, nx3, p_pl, nI_clamp (show j < 2 ^ 31 by omega), nI_clamp (show c < 2 ^ 31 by omega)]); exact hD
      exact w_iret () hx hb hr hlocks hK hP hD hS (Nat.le_of_ble_eq_true rfl) (Nat.le_of_ble_eq_true rfl) dX1_givePass_62 (show k2 (p_in (nI j) np && p_in (nI c) 4) (p_wi z 1 9) = 0 → (if ((F 9) (j * 4 + c)) + z < 9 then (((F 9) (j * 4 + c)) + z) else 9) = p_cap (F 9 (p_pl (nI j) (nI c)) + z) from by intro _; simp only [p_pl, p_cap, nI_clamp (show j < 2 ^ 31 by omega), nI_clamp (show c < 2 ^ 31 by omega)])
    · have c18 := b2i_0.mp c18
      refine lv_aload_n hx hb dX1_givePass_21 rfl (lv_at hl 0 rfl) ?_
      refine lv_iconst (v := 2) hx hb dX1_givePass_22 (by decide) ?_
      refine w_in_i (va_runV (As := [.int 2]) (rest := []) ⟨hx, hb, hml, hown, hts⟩ (c_X1_fail l G cI cZ h a F nq no np sh nw 0 wt H.size 2 ) (cwV 1 hts gX1_givePass_X1_fail rfl rfl rfl (by decide +kernel) ⟨(Nat.le_of_ble_eq_true rfl), (Nat.le_of_ble_eq_true rfl)⟩) ⟨wPre_blind, va_recv hK hP (ci := 1) (q0 := 0) rfl rfl, w_pre hK hP hD⟩ rfl rfl hl.1 rfl (lv_room (Nat.le_of_ble_eq_true rfl)) dX1_givePass_23 ⟨(Nat.le_of_ble_eq_true rfl), (Nat.le_of_ble_eq_true rfl)⟩) hD hS hA (fun r23 u23 H locs hw23 hP hD hS => ?_)
      have hP : va_P G vwCl (Mk cI cZ h a F nq no np sh nw 2 wt) H := hP
      have hD : va_D A (Mk cI cZ h a F nq no np sh nw 2 wt) := hD
      have hw23 : r23 = 0 := hw23
      subst hw23
      have hk : k2 (p_in (nI j) np && p_in (nI c) 4) (p_wi z 1 9) = 2 := by rw [c6, c18]; rfl
      have hP : va_P G vwCl (Mk cI cZ h a (nx (k2 (p_in (nI j) np && p_in (nI c) 4) (p_wi z 1 9)) (n_st F (p_pl (nI j) (nI c)) (p_cap (F 9 (p_pl (nI j) (nI c)) + z))) F) nq no np sh nw (k2 (p_in (nI j) np && p_in (nI c) 4) (p_wi z 1 9)) wt) H := by (simp only [hk, nx0, nx1, nx2, nx3]); exact hP
      have hD : va_D A (Mk cI cZ h a (nx (k2 (p_in (nI j) np && p_in (nI c) 4) (p_wi z 1 9)) (n_st F (p_pl (nI j) (nI c)) (p_cap (F 9 (p_pl (nI j) (nI c)) + z))) F) nq no np sh nw (k2 (p_in (nI j) np && p_in (nI c) 4) (p_wi z 1 9)) wt) := by (simp only [hk, nx0, nx1, nx2, nx3]); exact hD
      exact w_iret () hx hb hr hlocks hK hP hD hS (Nat.le_of_ble_eq_true rfl) (Nat.le_of_ble_eq_true rfl) dX1_givePass_26 (show k2 (p_in (nI j) np && p_in (nI c) 4) (p_wi z 1 9) = 0 → 0 = p_cap (F 9 (p_pl (nI j) (nI c)) + z) from by intro hh9; rw [hk] at hh9; exact absurd hh9 (by decide))
  · have c6 := b2i_0.mp c6
    rw [c6] at hP hD
    have hP : va_P G vwCl (Mk cI cZ h a F nq no np sh nw 1 wt) H := hP
    have hD : va_D A (Mk cI cZ h a F nq no np sh nw 1 wt) := hD
    refine lv_iconst (v := 0) hx hb dX1_givePass_9 (by decide) ?_
    have hk : k2 (p_in x np && p_in y 4) (p_wi z 1 9) = 1 := by rw [c6]; rfl
    have hP : va_P G vwCl (Mk cI cZ h a (nx (k2 (p_in x np && p_in y 4) (p_wi z 1 9)) (n_st F (p_pl x y) (p_cap (F 9 (p_pl x y) + z))) F) nq no np sh nw (k2 (p_in x np && p_in y 4) (p_wi z 1 9)) wt) H := by (simp only [hk, nx0, nx1, nx2, nx3]); exact hP
    have hD : va_D A (Mk cI cZ h a (nx (k2 (p_in x np && p_in y 4) (p_wi z 1 9)) (n_st F (p_pl x y) (p_cap (F 9 (p_pl x y) + z))) F) nq no np sh nw (k2 (p_in x np && p_in y 4) (p_wi z 1 9)) wt) := by (simp only [hk, nx0, nx1, nx2, nx3]); exact hD
    exact w_iret () hx hb hr hlocks hK hP hD hS (Nat.le_of_ble_eq_true rfl) (Nat.le_of_ble_eq_true rfl) dX1_givePass_10 (show k2 (p_in x np && p_in y 4) (p_wi z 1 9) = 0 → 0 = p_cap (F 9 (p_pl x y) + z) from by intro hh9; rw [hk] at hh9; exact absurd hh9 (by decide))
