set_option maxHeartbeats 4000000 in
set_option maxRecDepth 100000 in
theorem c_X0_requireQuarter (l : Launch) (G : va_G) (cI cZ : ClassId) (h : Nat) (a : Nat → Nat) (F : Nat → Nat → Int32) (nq no np : Nat) (sh nw : Int32) (sz : Nat) (x : Int32) (hnq : nq ≤ 6) (hx9 : p_in x nq = true) : Met l yX0_requireQuarter wsX0_requireQuarter ({ frames := 0, cells := 0, slots := 0, locals := 0 } : Room) (va_Pc [.ref h, .int x] (wPre G (ty2 cI cZ) (Dk cI cZ h a F nq no np sh nw) sz)) (va_Qv (fun (_ : Unit) => True) (fun _ => wP G (ty2 cI cZ) (Dk cI cZ h a F nq no np sh nw) (va_A (Dk cI cZ h a F nq no np sh nw) sz)) (va_A (Dk cI cZ h a F nq no np sh nw) sz)) 0 0 (va_A (Dk cI cZ h a F nq no np sh nw) sz) := by
  refine w_met (cc := cX0_requireQuarter) (maxL := 2) (ret := none) (by decide) rfl (Nat.le_of_ble_eq_true rfl) ?_
  intro pg e s m below meth cd hx hb hml hr hts hown hlocks hnm hK hsz hP hD hA hS ls hl
  have hown : s.vm.findClass RX0 = some m.cls := hown
  have hin : ∀ w ∈ wsX00, w ∈ wsX0_requireQuarter := by decide +kernel
  have hl : lv_has ls 2 [(0, .ref h), (1, .int x)] := hl
  generalize hAe : va_A (Dk cI cZ h a F nq no np sh nw) sz = A at hD hA hS ⊢
  refine lv_iload_n hx hb dX0_requireQuarter_0 rfl (lv_at hl 1 rfl) ?_
  refine lv_if_lt (tgt := 12) hx hb dX0_requireQuarter_1 (by decide) (fun c1 => ?_) (fun c1 => ?_)
  · first | exact absurd hx9 (by rw [pin_ge (n := nq) (by omega) c9]; decide) | exact absurd hx9 (by rw [pin_neg c1]; decide)
  · refine lv_iload_n hx hb dX0_requireQuarter_4 rfl (lv_at hl 1 rfl) ?_
    refine lv_aload_n hx hb dX0_requireQuarter_5 rfl (lv_at hl 0 rfl) ?_
    refine va_get (ci := 0) (v := .int (nI nq)) (C := RX0) (T := TX0) (N := 16) hx hb hts hin hown hK hP 0 rfl rfl 11 (by decide) (hts (.fieldLink RX0 44 "CurfewDesk" "quarterCount" "I") (by decide +kernel)) (fun _ h9 => h9) rfl dX0_requireQuarter_6 ?_
    refine lv_icmp_lt (tgt := 22) hx hb dX0_requireQuarter_9 (by decide) (fun c9 => ?_) (fun c9 => ?_)
    · exact w_vret () hx hb hr hlocks hK hP hD hS (Nat.le_of_ble_eq_true rfl) (Nat.le_of_ble_eq_true rfl) dX0_requireQuarter_22 trivial
    · first | exact absurd hx9 (by rw [pin_ge (n := nq) (by omega) c9]; decide) | exact absurd hx9 (by rw [pin_neg c1]; decide)
set_option maxHeartbeats 4000000 in
set_option maxRecDepth 100000 in
theorem cx_X0_requireQuarter (l : Launch) (hfl : l.flags = flags0) (G : va_G) (cI cZ : ClassId) (h : Nat) (a : Nat → Nat) (F : Nat → Nat → Int32) (nq no np : Nat) (sh nw : Int32) (sz : Nat) (x : Int32) (hnq : nq ≤ 6) : vx_Met l yX0_requireQuarter wsX0_requireQuarter ({ frames := 6, cells := 1, slots := 6, locals := 82 } : Room) (va_Pc [.ref h, .int x] (wPreX G (ty2 cI cZ) (Dk cI cZ h a F nq no np sh nw) sz)) (va_Qv (fun (_ : Unit) => p_in x nq = true) (fun _ => wP G (ty2 cI cZ) (Dk cI cZ h a F nq no np sh nw) (va_A (Dk cI cZ h a F nq no np sh nw) sz)) (va_A (Dk cI cZ h a F nq no np sh nw) sz)) (wXC (fun E : String => E = "java/lang/IndexOutOfBoundsException" ∧ p_in x nq = false) G (ty2 cI cZ) (Dk cI cZ h a F nq no np sh nw) (va_A (Dk cI cZ h a F nq no np sh nw) sz)) 1 6 (va_A (Dk cI cZ h a F nq no np sh nw) sz) := by
  refine w_metX (cc := cX0_requireQuarter) (maxL := 2) (ret := none) (by decide) rfl (Nat.le_of_ble_eq_true rfl) ?_
  intro pg e s m below meth cd hx hb hml hr hts hown hlocks hnm hno9 hZ hK hsz hP hD hA hS ls hl
  have hown : s.vm.findClass RX0 = some m.cls := hown
  have hin : ∀ w ∈ wsX00, w ∈ wsX0_requireQuarter := by decide +kernel
  have hl : lv_has ls 2 [(0, .ref h), (1, .int x)] := hl
  generalize hAe : va_A (Dk cI cZ h a F nq no np sh nw) sz = A at hD hA hS hZ ⊢
  refine lv_iload_n hx hb dX0_requireQuarter_0 rfl (lv_at hl 1 rfl) ?_
  refine lv_if_lt (tgt := 12) hx hb dX0_requireQuarter_1 (by decide) (fun c1 => ?_) (fun c1 => ?_)
  · exact w_throw (own := RX0) (cls := "java/lang/IndexOutOfBoundsException") (text := "no such quarter") (ik := 190) (is := 192) (ic := 194) hx hb hfl hts hown hlocks hno9 hZ hK hP hD hS (hl.1.trans hml.symm) (by decide +kernel) (by decide +kernel) (by decide +kernel) (by decide +kernel) rfl (by decide +kernel) (by decide +kernel) (by decide +kernel) (by decide +kernel) dX0_requireQuarter_12 dX0_requireQuarter_15 dX0_requireQuarter_16 dX0_requireQuarter_18 dX0_requireQuarter_21 (Nat.le_of_ble_eq_true rfl) (Nat.le_of_ble_eq_true rfl) (Nat.le_of_ble_eq_true rfl) (Nat.le_of_ble_eq_true rfl) (Nat.le_of_ble_eq_true rfl) (Nat.le_of_ble_eq_true rfl) (show "java/lang/IndexOutOfBoundsException" = "java/lang/IndexOutOfBoundsException" ∧ p_in x nq = false from by first | exact ⟨rfl, pin_ge (n := nq) (by omega) c9⟩ | exact ⟨rfl, pin_neg c1⟩)
  · refine lv_iload_n hx hb dX0_requireQuarter_4 rfl (lv_at hl 1 rfl) ?_
    refine lv_aload_n hx hb dX0_requireQuarter_5 rfl (lv_at hl 0 rfl) ?_
    refine va_get (ci := 0) (v := .int (nI nq)) (C := RX0) (T := TX0) (N := 16) hx hb hts hin hown hK hP 0 rfl rfl 11 (by decide) (hts (.fieldLink RX0 44 "CurfewDesk" "quarterCount" "I") (by decide +kernel)) (fun _ h9 => h9) rfl dX0_requireQuarter_6 ?_
    refine lv_icmp_lt (tgt := 22) hx hb dX0_requireQuarter_9 (by decide) (fun c9 => ?_) (fun c9 => ?_)
    · refine vx_ret ?_
      exact w_vret () hx hb hr hlocks hK hP hD hS (Nat.le_of_ble_eq_true rfl) (Nat.le_of_ble_eq_true rfl) dX0_requireQuarter_22 (show p_in x nq = true from by exact pin_ok (n := nq) (by omega) c1 c9)
    · exact w_throw (own := RX0) (cls := "java/lang/IndexOutOfBoundsException") (text := "no such quarter") (ik := 190) (is := 192) (ic := 194) hx hb hfl hts hown hlocks hno9 hZ hK hP hD hS (hl.1.trans hml.symm) (by decide +kernel) (by decide +kernel) (by decide +kernel) (by decide +kernel) rfl (by decide +kernel) (by decide +kernel) (by decide +kernel) (by decide +kernel) dX0_requireQuarter_12 dX0_requireQuarter_15 dX0_requireQuarter_16 dX0_requireQuarter_18 dX0_requireQuarter_21 (Nat.le_of_ble_eq_true rfl) (Nat.le_of_ble_eq_true rfl) (Nat.le_of_ble_eq_true rfl) (Nat.le_of_ble_eq_true rfl) (Nat.le_of_ble_eq_true rfl) (Nat.le_of_ble_eq_true rfl) (show "java/lang/IndexOutOfBoundsException" = "java/lang/IndexOutOfBoundsException" ∧ p_in x nq = false from by first | exact ⟨rfl, pin_ge (n := nq) (by omega) c9⟩ | exact ⟨rfl, pin_neg c1⟩)
set_option maxHeartbeats 4000000 in
set_option maxRecDepth 100000 in
theorem c_X0_requireOrder (l : Launch) (G : va_G) (cI cZ : ClassId) (h : Nat) (a : Nat → Nat) (F : Nat → Nat → Int32) (nq no np : Nat) (sh nw : Int32) (sz : Nat) (x : Int32) (hno : no ≤ 10) (hx9 : p_in x no = true) : Met l yX0_requireOrder wsX0_requireOrder ({ frames := 0, cells := 0, slots := 0, locals := 0 } : Room) (va_Pc [.ref h, .int x] (wPre G (ty2 cI cZ) (Dk cI cZ h a F nq no np sh nw) sz)) (va_Qv (fun (_ : Unit) => True) (fun _ => wP G (ty2 cI cZ) (Dk cI cZ h a F nq no np sh nw) (va_A (Dk cI cZ h a F nq no np sh nw) sz)) (va_A (Dk cI cZ h a F nq no np sh nw) sz)) 0 0 (va_A (Dk cI cZ h a F nq no np sh nw) sz) := by
  refine w_met (cc := cX0_requireOrder) (maxL := 2) (ret := none) (by decide) rfl (Nat.le_of_ble_eq_true rfl) ?_
  intro pg e s m below meth cd hx hb hml hr hts hown hlocks hnm hK hsz hP hD hA hS ls hl
  have hown : s.vm.findClass RX0 = some m.cls := hown
  have hin : ∀ w ∈ wsX00, w ∈ wsX0_requireOrder := by decide +kernel
  have hl : lv_has ls 2 [(0, .ref h), (1, .int x)] := hl
  generalize hAe : va_A (Dk cI cZ h a F nq no np sh nw) sz = A at hD hA hS ⊢
  refine lv_iload_n hx hb dX0_requireOrder_0 rfl (lv_at hl 1 rfl) ?_
  refine lv_if_lt (tgt := 12) hx hb dX0_requireOrder_1 (by decide) (fun c1 => ?_) (fun c1 => ?_)
  · first | exact absurd hx9 (by rw [pin_ge (n := no) (by omega) c9]; decide) | exact absurd hx9 (by rw [pin_neg c1]; decide)
  · refine lv_iload_n hx hb dX0_requireOrder_4 rfl (lv_at hl 1 rfl) ?_
    refine lv_aload_n hx hb dX0_requireOrder_5 rfl (lv_at hl 0 rfl) ?_
    refine va_get (ci := 0) (v := .int (nI no)) (C := RX0) (T := TX0) (N := 16) hx hb hts hin hown hK hP 0 rfl rfl 12 (by decide) (hts (.fieldLink RX0 74 "CurfewDesk" "orderCount" "I") (by decide +kernel)) (fun _ h9 => h9) rfl dX0_requireOrder_6 ?_
    refine lv_icmp_lt (tgt := 22) hx hb dX0_requireOrder_9 (by decide) (fun c9 => ?_) (fun c9 => ?_)
    · exact w_vret () hx hb hr hlocks hK hP hD hS (Nat.le_of_ble_eq_true rfl) (Nat.le_of_ble_eq_true rfl) dX0_requireOrder_22 trivial
    · first | exact absurd hx9 (by rw [pin_ge (n := no) (by omega) c9]; decide) | exact absurd hx9 (by rw [pin_neg c1]; decide)
set_option maxHeartbeats 4000000 in
set_option maxRecDepth 100000 in
theorem cx_X0_requireOrder (l : Launch) (hfl : l.flags = flags0) (G : va_G) (cI cZ : ClassId) (h : Nat) (a : Nat → Nat) (F : Nat → Nat → Int32) (nq no np : Nat) (sh nw : Int32) (sz : Nat) (x : Int32) (hno : no ≤ 10) : vx_Met l yX0_requireOrder wsX0_requireOrder ({ frames := 6, cells := 1, slots := 6, locals := 82 } : Room) (va_Pc [.ref h, .int x] (wPreX G (ty2 cI cZ) (Dk cI cZ h a F nq no np sh nw) sz)) (va_Qv (fun (_ : Unit) => p_in x no = true) (fun _ => wP G (ty2 cI cZ) (Dk cI cZ h a F nq no np sh nw) (va_A (Dk cI cZ h a F nq no np sh nw) sz)) (va_A (Dk cI cZ h a F nq no np sh nw) sz)) (wXC (fun E : String => E = "java/lang/IndexOutOfBoundsException" ∧ p_in x no = false) G (ty2 cI cZ) (Dk cI cZ h a F nq no np sh nw) (va_A (Dk cI cZ h a F nq no np sh nw) sz)) 1 6 (va_A (Dk cI cZ h a F nq no np sh nw) sz) := by
  refine w_metX (cc := cX0_requireOrder) (maxL := 2) (ret := none) (by decide) rfl (Nat.le_of_ble_eq_true rfl) ?_
  intro pg e s m below meth cd hx hb hml hr hts hown hlocks hnm hno9 hZ hK hsz hP hD hA hS ls hl
  have hown : s.vm.findClass RX0 = some m.cls := hown
  have hin : ∀ w ∈ wsX00, w ∈ wsX0_requireOrder := by decide +kernel
  have hl : lv_has ls 2 [(0, .ref h), (1, .int x)] := hl
  generalize hAe : va_A (Dk cI cZ h a F nq no np sh nw) sz = A at hD hA hS hZ ⊢
  refine lv_iload_n hx hb dX0_requireOrder_0 rfl (lv_at hl 1 rfl) ?_
  refine lv_if_lt (tgt := 12) hx hb dX0_requireOrder_1 (by decide) (fun c1 => ?_) (fun c1 => ?_)
  · exact w_throw (own := RX0) (cls := "java/lang/IndexOutOfBoundsException") (text := "no such order") (ik := 190) (is := 195) (ic := 194) hx hb hfl hts hown hlocks hno9 hZ hK hP hD hS (hl.1.trans hml.symm) (by decide +kernel) (by decide +kernel) (by decide +kernel) (by decide +kernel) rfl (by decide +kernel) (by decide +kernel) (by decide +kernel) (by decide +kernel) dX0_requireOrder_12 dX0_requireOrder_15 dX0_requireOrder_16 dX0_requireOrder_18 dX0_requireOrder_21 (Nat.le_of_ble_eq_true rfl) (Nat.le_of_ble_eq_true rfl) (Nat.le_of_ble_eq_true rfl) (Nat.le_of_ble_eq_true rfl) (Nat.le_of_ble_eq_true rfl) (Nat.le_of_ble_eq_true rfl) (show "java/lang/IndexOutOfBoundsException" = "java/lang/IndexOutOfBoundsException" ∧ p_in x no = false from by first | exact ⟨rfl, pin_ge (n := no) (by omega) c9⟩ | exact ⟨rfl, pin_neg c1⟩)
  · refine lv_iload_n hx hb dX0_requireOrder_4 rfl (lv_at hl 1 rfl) ?_
    refine lv_aload_n hx hb dX0_requireOrder_5 rfl (lv_at hl 0 rfl) ?_
    refine va_get (ci := 0) (v := .int (nI no)) (C := RX0) (T := TX0) (N := 16) hx hb hts hin hown hK hP 0 rfl rfl 12 (by decide) (hts (.fieldLink RX0 74 "CurfewDesk" "orderCount" "I") (by decide +kernel)) (fun _ h9 => h9) rfl dX0_requireOrder_6 ?_
    refine lv_icmp_lt (tgt := 22) hx hb dX0_requireOrder_9 (by decide) (fun c9 => ?_) (fun c9 => ?_)
    · refine vx_ret ?_
      exact w_vret () hx hb hr hlocks hK hP hD hS (Nat.le_of_ble_eq_true rfl) (Nat.le_of_ble_eq_true rfl) dX0_requireOrder_22 (show p_in x no = true from by exact pin_ok (n := no) (by omega) c1 c9)
    · exact w_throw (own := RX0) (cls := "java/lang/IndexOutOfBoundsException") (text := "no such order") (ik := 190) (is := 195) (ic := 194) hx hb hfl hts hown hlocks hno9 hZ hK hP hD hS (hl.1.trans hml.symm) (by decide +kernel) (by decide +kernel) (by decide +kernel) (by decide +kernel) rfl (by decide +kernel) (by decide +kernel) (by decide +kernel) (by decide +kernel) dX0_requireOrder_12 dX0_requireOrder_15 dX0_requireOrder_16 dX0_requireOrder_18 dX0_requireOrder_21 (Nat.le_of_ble_eq_true rfl) (Nat.le_of_ble_eq_true rfl) (Nat.le_of_ble_eq_true rfl) (Nat.le_of_ble_eq_true rfl) (Nat.le_of_ble_eq_true rfl) (Nat.le_of_ble_eq_true rfl) (show "java/lang/IndexOutOfBoundsException" = "java/lang/IndexOutOfBoundsException" ∧ p_in x no = false from by first | exact ⟨rfl, pin_ge (n := no) (by omega) c9⟩ | exact ⟨rfl, pin_neg c1⟩)
set_option maxHeartbeats 4000000 in
set_option maxRecDepth 100000 in
theorem c_X0_requirePerson (l : Launch) (G : va_G) (cI cZ : ClassId) (h : Nat) (a : Nat → Nat) (F : Nat → Nat → Int32) (nq no np : Nat) (sh nw : Int32) (sz : Nat) (x : Int32) (hnp : np ≤ 20) (hx9 : p_in x np = true) : Met l yX0_requirePerson wsX0_requirePerson ({ frames := 0, cells := 0, slots := 0, locals := 0 } : Room) (va_Pc [.ref h, .int x] (wPre G (ty2 cI cZ) (Dk cI cZ h a F nq no np sh nw) sz)) (va_Qv (fun (_ : Unit) => True) (fun _ => wP G (ty2 cI cZ) (Dk cI cZ h a F nq no np sh nw) (va_A (Dk cI cZ h a F nq no np sh nw) sz)) (va_A (Dk cI cZ h a F nq no np sh nw) sz)) 0 0 (va_A (Dk cI cZ h a F nq no np sh nw) sz) := by
  refine w_met (cc := cX0_requirePerson) (maxL := 2) (ret := none) (by decide) rfl (Nat.le_of_ble_eq_true rfl) ?_
  intro pg e s m below meth cd hx hb hml hr hts hown hlocks hnm hK hsz hP hD hA hS ls hl
  have hown : s.vm.findClass RX0 = some m.cls := hown
  have hin : ∀ w ∈ wsX00, w ∈ wsX0_requirePerson := by decide +kernel
  have hl : lv_has ls 2 [(0, .ref h), (1, .int x)] := hl
  generalize hAe : va_A (Dk cI cZ h a F nq no np sh nw) sz = A at hD hA hS ⊢
  refine lv_iload_n hx hb dX0_requirePerson_0 rfl (lv_at hl 1 rfl) ?_
  refine lv_if_lt (tgt := 12) hx hb dX0_requirePerson_1 (by decide) (fun c1 => ?_) (fun c1 => ?_)
  · first | exact absurd hx9 (by rw [pin_ge (n := np) (by omega) c9]; decide) | exact absurd hx9 (by rw [pin_neg c1]; decide)
  · refine lv_iload_n hx hb dX0_requirePerson_4 rfl (lv_at hl 1 rfl) ?_
    refine lv_aload_n hx hb dX0_requirePerson_5 rfl (lv_at hl 0 rfl) ?_
    refine va_get (ci := 0) (v := .int (nI np)) (C := RX0) (T := TX0) (N := 16) hx hb hts hin hown hK hP 0 rfl rfl 13 (by decide) (hts (.fieldLink RX0 59 "CurfewDesk" "personCount" "I") (by decide +kernel)) (fun _ h9 => h9) rfl dX0_requirePerson_6 ?_
    refine lv_icmp_lt (tgt := 22) hx hb dX0_requirePerson_9 (by decide) (fun c9 => ?_) (fun c9 => ?_)
    · exact w_vret () hx hb hr hlocks hK hP hD hS (Nat.le_of_ble_eq_true rfl) (Nat.le_of_ble_eq_true rfl) dX0_requirePerson_22 trivial
    · first | exact absurd hx9 (by rw [pin_ge (n := np) (by omega) c9]; decide) | exact absurd hx9 (by rw [pin_neg c1]; decide)
set_option maxHeartbeats 4000000 in
set_option maxRecDepth 100000 in
theorem cx_X0_requirePerson (l : Launch) (hfl : l.flags = flags0) (G : va_G) (cI cZ : ClassId) (h : Nat) (a : Nat → Nat) (F : Nat → Nat → Int32) (nq no np : Nat) (sh nw : Int32) (sz : Nat) (x : Int32) (hnp : np ≤ 20) : vx_Met l yX0_requirePerson wsX0_requirePerson ({ frames := 6, cells := 1, slots := 6, locals := 82 } : Room) (va_Pc [.ref h, .int x] (wPreX G (ty2 cI cZ) (Dk cI cZ h a F nq no np sh nw) sz)) (va_Qv (fun (_ : Unit) => p_in x np = true) (fun _ => wP G (ty2 cI cZ) (Dk cI cZ h a F nq no np sh nw) (va_A (Dk cI cZ h a F nq no np sh nw) sz)) (va_A (Dk cI cZ h a F nq no np sh nw) sz)) (wXC (fun E : String => E = "java/lang/IndexOutOfBoundsException" ∧ p_in x np = false) G (ty2 cI cZ) (Dk cI cZ h a F nq no np sh nw) (va_A (Dk cI cZ h a F nq no np sh nw) sz)) 1 6 (va_A (Dk cI cZ h a F nq no np sh nw) sz) := by
  refine w_metX (cc := cX0_requirePerson) (maxL := 2) (ret := none) (by decide) rfl (Nat.le_of_ble_eq_true rfl) ?_
  intro pg e s m below meth cd hx hb hml hr hts hown hlocks hnm hno9 hZ hK hsz hP hD hA hS ls hl
  have hown : s.vm.findClass RX0 = some m.cls := hown
  have hin : ∀ w ∈ wsX00, w ∈ wsX0_requirePerson := by decide +kernel
  have hl : lv_has ls 2 [(0, .ref h), (1, .int x)] := hl
  generalize hAe : va_A (Dk cI cZ h a F nq no np sh nw) sz = A at hD hA hS hZ ⊢
  refine lv_iload_n hx hb dX0_requirePerson_0 rfl (lv_at hl 1 rfl) ?_
  refine lv_if_lt (tgt := 12) hx hb dX0_requirePerson_1 (by decide) (fun c1 => ?_) (fun c1 => ?_)
  · exact w_throw (own := RX0) (cls := "java/lang/IndexOutOfBoundsException") (text := "no such person") (ik := 190) (is := 197) (ic := 194) hx hb hfl hts hown hlocks hno9 hZ hK hP hD hS (hl.1.trans hml.symm) (by decide +kernel) (by decide +kernel) (by decide +kernel) (by decide +kernel) rfl (by decide +kernel) (by decide +kernel) (by decide +kernel) (by decide +kernel) dX0_requirePerson_12 dX0_requirePerson_15 dX0_requirePerson_16 dX0_requirePerson_18 dX0_requirePerson_21 (Nat.le_of_ble_eq_true rfl) (Nat.le_of_ble_eq_true rfl) (Nat.le_of_ble_eq_true rfl) (Nat.le_of_ble_eq_true rfl) (Nat.le_of_ble_eq_true rfl) (Nat.le_of_ble_eq_true rfl) (show "java/lang/IndexOutOfBoundsException" = "java/lang/IndexOutOfBoundsException" ∧ p_in x np = false from by first | exact ⟨rfl, pin_ge (n := np) (by omega) c9⟩ | exact ⟨rfl, pin_neg c1⟩)
  · refine lv_iload_n hx hb dX0_requirePerson_4 rfl (lv_at hl 1 rfl) ?_
    refine lv_aload_n hx hb dX0_requirePerson_5 rfl (lv_at hl 0 rfl) ?_
    refine va_get (ci := 0) (v := .int (nI np)) (C := RX0) (T := TX0) (N := 16) hx hb hts hin hown hK hP 0 rfl rfl 13 (by decide) (hts (.fieldLink RX0 59 "CurfewDesk" "personCount" "I") (by decide +kernel)) (fun _ h9 => h9) rfl dX0_requirePerson_6 ?_
    refine lv_icmp_lt (tgt := 22) hx hb dX0_requirePerson_9 (by decide) (fun c9 => ?_) (fun c9 => ?_)
    · refine vx_ret ?_
      exact w_vret () hx hb hr hlocks hK hP hD hS (Nat.le_of_ble_eq_true rfl) (Nat.le_of_ble_eq_true rfl) dX0_requirePerson_22 (show p_in x np = true from by exact pin_ok (n := np) (by omega) c1 c9)
    · exact w_throw (own := RX0) (cls := "java/lang/IndexOutOfBoundsException") (text := "no such person") (ik := 190) (is := 197) (ic := 194) hx hb hfl hts hown hlocks hno9 hZ hK hP hD hS (hl.1.trans hml.symm) (by decide +kernel) (by decide +kernel) (by decide +kernel) (by decide +kernel) rfl (by decide +kernel) (by decide +kernel) (by decide +kernel) (by decide +kernel) dX0_requirePerson_12 dX0_requirePerson_15 dX0_requirePerson_16 dX0_requirePerson_18 dX0_requirePerson_21 (Nat.le_of_ble_eq_true rfl) (Nat.le_of_ble_eq_true rfl) (Nat.le_of_ble_eq_true rfl) (Nat.le_of_ble_eq_true rfl) (Nat.le_of_ble_eq_true rfl) (Nat.le_of_ble_eq_true rfl) (show "java/lang/IndexOutOfBoundsException" = "java/lang/IndexOutOfBoundsException" ∧ p_in x np = false from by first | exact ⟨rfl, pin_ge (n := np) (by omega) c9⟩ | exact ⟨rfl, pin_neg c1⟩)
set_option maxHeartbeats 4000000 in
set_option maxRecDepth 100000 in
theorem c_X0_requireTrade (l : Launch) (G : va_G) (sz : Nat) (x : Int32) (hx9 : p_in x 8 = true) : Met l yX0_requireTrade wsX0_requireTrade ({ frames := 0, cells := 0, slots := 0, locals := 0 } : Room) (va_Pc [.int x] (wPre G [] [] sz)) (va_Qv (fun (_ : Unit) => True) (fun _ => wP G [] [] (va_A [] sz)) (va_A [] sz)) 0 0 (va_A [] sz) := by
  refine w_met (cc := cX0_requireTrade) (maxL := 1) (ret := none) (by decide) rfl (Nat.le_of_ble_eq_true rfl) ?_
  intro pg e s m below meth cd hx hb hml hr hts hown hlocks hnm hK hsz hP hD hA hS ls hl
  have hown : s.vm.findClass RX0 = some m.cls := hown
  have hl : lv_has ls 1 [(0, .int x)] := hl
  generalize hAe : va_A [] sz = A at hD hA hS ⊢
  refine lv_iload_n hx hb dX0_requireTrade_0 rfl (lv_at hl 0 rfl) ?_
  refine lv_if_lt (tgt := 10) hx hb dX0_requireTrade_1 (by decide) (fun c1 => ?_) (fun c1 => ?_)
  · first | exact absurd hx9 (by rw [pin_ge (n := 8) (by omega) c7]; decide) | exact absurd hx9 (by rw [pin_neg c1]; decide)
  · refine lv_iload_n hx hb dX0_requireTrade_4 rfl (lv_at hl 0 rfl) ?_
    refine lv_bipush (v := 8) hx hb dX0_requireTrade_5 (by decide) ?_
    refine lv_icmp_lt (tgt := 20) hx hb dX0_requireTrade_7 (by decide) (fun c7 => ?_) (fun c7 => ?_)
    · exact w_vret () hx hb hr hlocks hK hP hD hS (Nat.le_of_ble_eq_true rfl) (Nat.le_of_ble_eq_true rfl) dX0_requireTrade_20 trivial
    · first | exact absurd hx9 (by rw [pin_ge (n := 8) (by omega) c7]; decide) | exact absurd hx9 (by rw [pin_neg c1]; decide)
set_option maxHeartbeats 4000000 in
set_option maxRecDepth 100000 in
theorem cx_X0_requireTrade (l : Launch) (hfl : l.flags = flags0) (G : va_G) (sz : Nat) (x : Int32) : vx_Met l yX0_requireTrade wsX0_requireTrade ({ frames := 6, cells := 1, slots := 6, locals := 82 } : Room) (va_Pc [.int x] (wPreX G [] [] sz)) (va_Qv (fun (_ : Unit) => p_in x 8 = true) (fun _ => wP G [] [] (va_A [] sz)) (va_A [] sz)) (wXC (fun E : String => E = "java/lang/IndexOutOfBoundsException" ∧ p_in x 8 = false) G [] [] (va_A [] sz)) 1 6 (va_A [] sz) := by
  refine w_metX (cc := cX0_requireTrade) (maxL := 1) (ret := none) (by decide) rfl (Nat.le_of_ble_eq_true rfl) ?_
  intro pg e s m below meth cd hx hb hml hr hts hown hlocks hnm hno9 hZ hK hsz hP hD hA hS ls hl
  have hown : s.vm.findClass RX0 = some m.cls := hown
  have hl : lv_has ls 1 [(0, .int x)] := hl
  generalize hAe : va_A [] sz = A at hD hA hS hZ ⊢
  refine lv_iload_n hx hb dX0_requireTrade_0 rfl (lv_at hl 0 rfl) ?_
  refine lv_if_lt (tgt := 10) hx hb dX0_requireTrade_1 (by decide) (fun c1 => ?_) (fun c1 => ?_)
  · exact w_throw (own := RX0) (cls := "java/lang/IndexOutOfBoundsException") (text := "no such trade") (ik := 190) (is := 199) (ic := 194) hx hb hfl hts hown hlocks hno9 hZ hK hP hD hS (hl.1.trans hml.symm) (by decide +kernel) (by decide +kernel) (by decide +kernel) (by decide +kernel) rfl (by decide +kernel) (by decide +kernel) (by decide +kernel) (by decide +kernel) dX0_requireTrade_10 dX0_requireTrade_13 dX0_requireTrade_14 dX0_requireTrade_16 dX0_requireTrade_19 (Nat.le_of_ble_eq_true rfl) (Nat.le_of_ble_eq_true rfl) (Nat.le_of_ble_eq_true rfl) (Nat.le_of_ble_eq_true rfl) (Nat.le_of_ble_eq_true rfl) (Nat.le_of_ble_eq_true rfl) (show "java/lang/IndexOutOfBoundsException" = "java/lang/IndexOutOfBoundsException" ∧ p_in x 8 = false from by first | exact ⟨rfl, pin_ge (n := 8) (by omega) c7⟩ | exact ⟨rfl, pin_neg c1⟩)
  · refine lv_iload_n hx hb dX0_requireTrade_4 rfl (lv_at hl 0 rfl) ?_
    refine lv_bipush (v := 8) hx hb dX0_requireTrade_5 (by decide) ?_
    refine lv_icmp_lt (tgt := 20) hx hb dX0_requireTrade_7 (by decide) (fun c7 => ?_) (fun c7 => ?_)
    · refine vx_ret ?_
      exact w_vret () hx hb hr hlocks hK hP hD hS (Nat.le_of_ble_eq_true rfl) (Nat.le_of_ble_eq_true rfl) dX0_requireTrade_20 (show p_in x 8 = true from by exact pin_ok (n := 8) (by omega) c1 c7)
    · exact w_throw (own := RX0) (cls := "java/lang/IndexOutOfBoundsException") (text := "no such trade") (ik := 190) (is := 199) (ic := 194) hx hb hfl hts hown hlocks hno9 hZ hK hP hD hS (hl.1.trans hml.symm) (by decide +kernel) (by decide +kernel) (by decide +kernel) (by decide +kernel) rfl (by decide +kernel) (by decide +kernel) (by decide +kernel) (by decide +kernel) dX0_requireTrade_10 dX0_requireTrade_13 dX0_requireTrade_14 dX0_requireTrade_16 dX0_requireTrade_19 (Nat.le_of_ble_eq_true rfl) (Nat.le_of_ble_eq_true rfl) (Nat.le_of_ble_eq_true rfl) (Nat.le_of_ble_eq_true rfl) (Nat.le_of_ble_eq_true rfl) (Nat.le_of_ble_eq_true rfl) (show "java/lang/IndexOutOfBoundsException" = "java/lang/IndexOutOfBoundsException" ∧ p_in x 8 = false from by first | exact ⟨rfl, pin_ge (n := 8) (by omega) c7⟩ | exact ⟨rfl, pin_neg c1⟩)
set_option maxHeartbeats 4000000 in
set_option maxRecDepth 100000 in
theorem c_X0_requireColour (l : Launch) (G : va_G) (sz : Nat) (x : Int32) (hx9 : p_in x 4 = true) : Met l yX0_requireColour wsX0_requireColour ({ frames := 0, cells := 0, slots := 0, locals := 0 } : Room) (va_Pc [.int x] (wPre G [] [] sz)) (va_Qv (fun (_ : Unit) => True) (fun _ => wP G [] [] (va_A [] sz)) (va_A [] sz)) 0 0 (va_A [] sz) := by
  refine w_met (cc := cX0_requireColour) (maxL := 1) (ret := none) (by decide) rfl (Nat.le_of_ble_eq_true rfl) ?_
  intro pg e s m below meth cd hx hb hml hr hts hown hlocks hnm hK hsz hP hD hA hS ls hl
  have hown : s.vm.findClass RX0 = some m.cls := hown
  have hl : lv_has ls 1 [(0, .int x)] := hl
  generalize hAe : va_A [] sz = A at hD hA hS ⊢
  refine lv_iload_n hx hb dX0_requireColour_0 rfl (lv_at hl 0 rfl) ?_
  refine lv_if_lt (tgt := 9) hx hb dX0_requireColour_1 (by decide) (fun c1 => ?_) (fun c1 => ?_)
  · first | exact absurd hx9 (by rw [pin_ge (n := 4) (by omega) c6]; decide) | exact absurd hx9 (by rw [pin_neg c1]; decide)
  · refine lv_iload_n hx hb dX0_requireColour_4 rfl (lv_at hl 0 rfl) ?_
    refine lv_iconst (v := 4) hx hb dX0_requireColour_5 (by decide) ?_
    refine lv_icmp_lt (tgt := 19) hx hb dX0_requireColour_6 (by decide) (fun c6 => ?_) (fun c6 => ?_)
    · exact w_vret () hx hb hr hlocks hK hP hD hS (Nat.le_of_ble_eq_true rfl) (Nat.le_of_ble_eq_true rfl) dX0_requireColour_19 trivial
    · first | exact absurd hx9 (by rw [pin_ge (n := 4) (by omega) c6]; decide) | exact absurd hx9 (by rw [pin_neg c1]; decide)
set_option maxHeartbeats 4000000 in
set_option maxRecDepth 100000 in
theorem cx_X0_requireColour (l : Launch) (hfl : l.flags = flags0) (G : va_G) (sz : Nat) (x : Int32) : vx_Met l yX0_requireColour wsX0_requireColour ({ frames := 6, cells := 1, slots := 6, locals := 82 } : Room) (va_Pc [.int x] (wPreX G [] [] sz)) (va_Qv (fun (_ : Unit) => p_in x 4 = true) (fun _ => wP G [] [] (va_A [] sz)) (va_A [] sz)) (wXC (fun E : String => E = "java/lang/IndexOutOfBoundsException" ∧ p_in x 4 = false) G [] [] (va_A [] sz)) 1 6 (va_A [] sz) := by
  refine w_metX (cc := cX0_requireColour) (maxL := 1) (ret := none) (by decide) rfl (Nat.le_of_ble_eq_true rfl) ?_
  intro pg e s m below meth cd hx hb hml hr hts hown hlocks hnm hno9 hZ hK hsz hP hD hA hS ls hl
  have hown : s.vm.findClass RX0 = some m.cls := hown
  have hl : lv_has ls 1 [(0, .int x)] := hl
  generalize hAe : va_A [] sz = A at hD hA hS hZ ⊢
  refine lv_iload_n hx hb dX0_requireColour_0 rfl (lv_at hl 0 rfl) ?_
  refine lv_if_lt (tgt := 9) hx hb dX0_requireColour_1 (by decide) (fun c1 => ?_) (fun c1 => ?_)
  · exact w_throw (own := RX0) (cls := "java/lang/IndexOutOfBoundsException") (text := "no such colour") (ik := 190) (is := 201) (ic := 194) hx hb hfl hts hown hlocks hno9 hZ hK hP hD hS (hl.1.trans hml.symm) (by decide +kernel) (by decide +kernel) (by decide +kernel) (by decide +kernel) rfl (by decide +kernel) (by decide +kernel) (by decide +kernel) (by decide +kernel) dX0_requireColour_9 dX0_requireColour_12 dX0_requireColour_13 dX0_requireColour_15 dX0_requireColour_18 (Nat.le_of_ble_eq_true rfl) (Nat.le_of_ble_eq_true rfl) (Nat.le_of_ble_eq_true rfl) (Nat.le_of_ble_eq_true rfl) (Nat.le_of_ble_eq_true rfl) (Nat.le_of_ble_eq_true rfl) (show "java/lang/IndexOutOfBoundsException" = "java/lang/IndexOutOfBoundsException" ∧ p_in x 4 = false from by first | exact ⟨rfl, pin_ge (n := 4) (by omega) c6⟩ | exact ⟨rfl, pin_neg c1⟩)
  · refine lv_iload_n hx hb dX0_requireColour_4 rfl (lv_at hl 0 rfl) ?_
    refine lv_iconst (v := 4) hx hb dX0_requireColour_5 (by decide) ?_
    refine lv_icmp_lt (tgt := 19) hx hb dX0_requireColour_6 (by decide) (fun c6 => ?_) (fun c6 => ?_)
    · refine vx_ret ?_
      exact w_vret () hx hb hr hlocks hK hP hD hS (Nat.le_of_ble_eq_true rfl) (Nat.le_of_ble_eq_true rfl) dX0_requireColour_19 (show p_in x 4 = true from by exact pin_ok (n := 4) (by omega) c1 c6)
    · exact w_throw (own := RX0) (cls := "java/lang/IndexOutOfBoundsException") (text := "no such colour") (ik := 190) (is := 201) (ic := 194) hx hb hfl hts hown hlocks hno9 hZ hK hP hD hS (hl.1.trans hml.symm) (by decide +kernel) (by decide +kernel) (by decide +kernel) (by decide +kernel) rfl (by decide +kernel) (by decide +kernel) (by decide +kernel) (by decide +kernel) dX0_requireColour_9 dX0_requireColour_12 dX0_requireColour_13 dX0_requireColour_15 dX0_requireColour_18 (Nat.le_of_ble_eq_true rfl) (Nat.le_of_ble_eq_true rfl) (Nat.le_of_ble_eq_true rfl) (Nat.le_of_ble_eq_true rfl) (Nat.le_of_ble_eq_true rfl) (Nat.le_of_ble_eq_true rfl) (show "java/lang/IndexOutOfBoundsException" = "java/lang/IndexOutOfBoundsException" ∧ p_in x 4 = false from by first | exact ⟨rfl, pin_ge (n := 4) (by omega) c6⟩ | exact ⟨rfl, pin_neg c1⟩)
set_option maxHeartbeats 4000000 in
set_option maxRecDepth 100000 in
theorem c_X0_requireWithin (l : Launch) (G : va_G) (sz : Nat) (x : Int32) (a9 : Int32) (b9 : Int32) (hx9 : p_wi x a9 b9 = true) : Met l yX0_requireWithin wsX0_requireWithin ({ frames := 0, cells := 0, slots := 0, locals := 0 } : Room) (va_Pc [.int x, .int a9, .int b9] (wPre G [] [] sz)) (va_Qv (fun (_ : Unit) => True) (fun _ => wP G [] [] (va_A [] sz)) (va_A [] sz)) 0 0 (va_A [] sz) := by
  refine w_met (cc := cX0_requireWithin) (maxL := 3) (ret := none) (by decide) rfl (Nat.le_of_ble_eq_true rfl) ?_
  intro pg e s m below meth cd hx hb hml hr hts hown hlocks hnm hK hsz hP hD hA hS ls hl
  have hown : s.vm.findClass RX0 = some m.cls := hown
  have hl : lv_has ls 3 [(0, .int x), (1, .int a9), (2, .int b9)] := hl
  generalize hAe : va_A [] sz = A at hD hA hS ⊢
  refine lv_iload_n hx hb dX0_requireWithin_0 rfl (lv_at hl 0 rfl) ?_
  refine lv_iload_n hx hb dX0_requireWithin_1 rfl (lv_at hl 1 rfl) ?_
  refine lv_icmp_lt (tgt := 10) hx hb dX0_requireWithin_2 (by decide) (fun c2 => ?_) (fun c2 => ?_)
  · first | exact absurd hx9 (by rw [pwi_gt c7]; decide) | exact absurd hx9 (by rw [pwi_lt c2]; decide)
  · refine lv_iload_n hx hb dX0_requireWithin_5 rfl (lv_at hl 0 rfl) ?_
    refine lv_iload_n hx hb dX0_requireWithin_6 rfl (lv_at hl 2 rfl) ?_
    refine lv_icmp_le (tgt := 20) hx hb dX0_requireWithin_7 (by decide) (fun c7 => ?_) (fun c7 => ?_)
    · exact w_vret () hx hb hr hlocks hK hP hD hS (Nat.le_of_ble_eq_true rfl) (Nat.le_of_ble_eq_true rfl) dX0_requireWithin_20 trivial
    · first | exact absurd hx9 (by rw [pwi_gt c7]; decide) | exact absurd hx9 (by rw [pwi_lt c2]; decide)
set_option maxHeartbeats 4000000 in
set_option maxRecDepth 100000 in
theorem cx_X0_requireWithin (l : Launch) (hfl : l.flags = flags0) (G : va_G) (sz : Nat) (x : Int32) (a9 : Int32) (b9 : Int32) : vx_Met l yX0_requireWithin wsX0_requireWithin ({ frames := 6, cells := 1, slots := 6, locals := 82 } : Room) (va_Pc [.int x, .int a9, .int b9] (wPreX G [] [] sz)) (va_Qv (fun (_ : Unit) => p_wi x a9 b9 = true) (fun _ => wP G [] [] (va_A [] sz)) (va_A [] sz)) (wXC (fun E : String => E = "java/lang/IllegalArgumentException" ∧ p_wi x a9 b9 = false) G [] [] (va_A [] sz)) 1 6 (va_A [] sz) := by
  refine w_metX (cc := cX0_requireWithin) (maxL := 3) (ret := none) (by decide) rfl (Nat.le_of_ble_eq_true rfl) ?_
  intro pg e s m below meth cd hx hb hml hr hts hown hlocks hnm hno9 hZ hK hsz hP hD hA hS ls hl
  have hown : s.vm.findClass RX0 = some m.cls := hown
  have hl : lv_has ls 3 [(0, .int x), (1, .int a9), (2, .int b9)] := hl
  generalize hAe : va_A [] sz = A at hD hA hS hZ ⊢
  refine lv_iload_n hx hb dX0_requireWithin_0 rfl (lv_at hl 0 rfl) ?_
  refine lv_iload_n hx hb dX0_requireWithin_1 rfl (lv_at hl 1 rfl) ?_
  refine lv_icmp_lt (tgt := 10) hx hb dX0_requireWithin_2 (by decide) (fun c2 => ?_) (fun c2 => ?_)
  · exact w_throw (own := RX0) (cls := "java/lang/IllegalArgumentException") (text := "out of the range that is allowed") (ik := 203) (is := 205) (ic := 207) hx hb hfl hts hown hlocks hno9 hZ hK hP hD hS (hl.1.trans hml.symm) (by decide +kernel) (by decide +kernel) (by decide +kernel) (by decide +kernel) rfl (by decide +kernel) (by decide +kernel) (by decide +kernel) (by decide +kernel) dX0_requireWithin_10 dX0_requireWithin_13 dX0_requireWithin_14 dX0_requireWithin_16 dX0_requireWithin_19 (Nat.le_of_ble_eq_true rfl) (Nat.le_of_ble_eq_true rfl) (Nat.le_of_ble_eq_true rfl) (Nat.le_of_ble_eq_true rfl) (Nat.le_of_ble_eq_true rfl) (Nat.le_of_ble_eq_true rfl) (show "java/lang/IllegalArgumentException" = "java/lang/IllegalArgumentException" ∧ p_wi x a9 b9 = false from by first | exact ⟨rfl, pwi_gt c7⟩ | exact ⟨rfl, pwi_lt c2⟩)
  · refine lv_iload_n hx hb dX0_requireWithin_5 rfl (lv_at hl 0 rfl) ?_
    refine lv_iload_n hx hb dX0_requireWithin_6 rfl (lv_at hl 2 rfl) ?_
    refine lv_icmp_le (tgt := 20) hx hb dX0_requireWithin_7 (by decide) (fun c7 => ?_) (fun c7 => ?_)
    · refine vx_ret ?_
      exact w_vret () hx hb hr hlocks hK hP hD hS (Nat.le_of_ble_eq_true rfl) (Nat.le_of_ble_eq_true rfl) dX0_requireWithin_20 (show p_wi x a9 b9 = true from by exact pwi_ok c2 c7)
    · exact w_throw (own := RX0) (cls := "java/lang/IllegalArgumentException") (text := "out of the range that is allowed") (ik := 203) (is := 205) (ic := 207) hx hb hfl hts hown hlocks hno9 hZ hK hP hD hS (hl.1.trans hml.symm) (by decide +kernel) (by decide +kernel) (by decide +kernel) (by decide +kernel) rfl (by decide +kernel) (by decide +kernel) (by decide +kernel) (by decide +kernel) dX0_requireWithin_10 dX0_requireWithin_13 dX0_requireWithin_14 dX0_requireWithin_16 dX0_requireWithin_19 (Nat.le_of_ble_eq_true rfl) (Nat.le_of_ble_eq_true rfl) (Nat.le_of_ble_eq_true rfl) (Nat.le_of_ble_eq_true rfl) (Nat.le_of_ble_eq_true rfl) (Nat.le_of_ble_eq_true rfl) (show "java/lang/IllegalArgumentException" = "java/lang/IllegalArgumentException" ∧ p_wi x a9 b9 = false from by first | exact ⟨rfl, pwi_gt c7⟩ | exact ⟨rfl, pwi_lt c2⟩)
