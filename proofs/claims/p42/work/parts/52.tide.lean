section TID
section TI1
variable {p : Program} {l : Launch} {e : Env} {R : Room} {s : State} {m : MethodId} {args : Array Value} {below : List Frame} {meth : Method} {c : Code} {H : Heap} {locs : List Loc} {cells slots : Nat} {Q : State → Prop}
variable {cc : ByteArray} {pc : Nat} {ls : Array Slot} {rest : List Value} {G : va_G} {A : Nat → Prop} {H0 : Heap} {K : Nat} {cI : ClassId} {q : Nat} {f : Nat → Int32}
theorem o_tst (hx : p.tables.exec = Jvm.exec) (hb : c.code = cc) (hK : va_K G vwCl [(cI, .int)] s) (hP : va_P G vwCl [(q, .inl (cI, 20, .inl f))] H) (hD : va_D A [(q, .inl (cI, 20, .inl f))]) (hS : va_S A H0 H locs) (hM : K ≤ slotSum H) (hF : OF f) {i v : Int32} (hi : vp_in i 20) (hv : ∃ t : Nat, t ≤ 4 ∧ v = nI t) (hdg : decode cc pc = .ok (.iastore, 1))
    (kk : ∀ (f : Nat → Int32) (H : Heap) (locs : List Loc), OF f → va_P G vwCl [(q, .inl (cI, 20, .inl f))] H → va_D A [(q, .inl (cI, 20, .inl f))] → va_S A H0 H locs → K ≤ slotSum H → W p l e R s m args below meth c H locs cells slots Q (F0 m (pc + 1) ls rest)) : W p l e R s m args below meth c H locs cells slots Q (F0 m pc ls (.int v :: .int i :: .ref q :: rest)) :=
  W_up hM (va_iast hx hb hK hP hD hS 0 0 rfl rfl hi hdg (fun H locs hP hD hS => W_dn (fun hM => kk _ H locs (OF_up hF hv) hP hD hS hM)))
end TI1
theorem o_rd20 (dd : Nat) (hd : dd < 2 ^ 31) : nI dd - nI dd / 40 * 40 = nI (dd % 40) := o_rem (n := 40) hd (by decide)
set_option maxHeartbeats 4000000 in
set_option maxRecDepth 100000 in
theorem c_X1_tide (l : Launch) (G : va_G) (cI : ClassId) (sz K dd : Nat) (hd : dd < 2 ^ 31) : Met l yX1_tide wsX1_tide ({ frames := 0, cells := 1, slots := 20, locals := 0 } : Room) (va_Pc [.int (nI dd)] (oPre G [(cI, .int)] [] [] sz K)) (va_Qi (fun (r : Int32) (_ : Unit) => ∃ t : Nat, t ≤ 4 ∧ r = nI t) (fun _ => oB G [(cI, .int)] [] (va_A [] sz) (K + 20)) (va_A [] sz)) 1 20 (va_A [] sz) := by
  refine o_met (cc := cX1_tide) (maxL := 3) (ret := (some .int)) (by decide) rfl (Nat.le_of_ble_eq_true rfl) ?_
  intro pg e s m below meth cd hx hb hml hr hts hown hlocks hnm hK hM hR hro hsz hP hD hA hS ls hl
  have hl : lv_has ls 3 [(0, .int (nI dd))] := hl
  generalize hAe : va_A [] sz = A at hD hA hS ⊢
  have hf := (hK.2 0 (cI, .int) rfl).2
  refine lv_bipush (v := 20) hx hb dX1_tide_0 (by decide) ?_
  refine o_newa (N := 20) (a0 := (20, .inl (fun _ => 0))) (ty := .int) (atype := .int) hx hb (hts (.arrayClass .int) (by decide +kernel)) rfl hf hP hD hS hA hM rfl (by decide) (by decide) (Nat.le_of_ble_eq_true rfl) (Nat.le_of_ble_eq_true rfl) (Nat.le_of_ble_eq_true rfl) dX1_tide_2 (fun q H hAr _ hP hD hS hM => ?_)
  have hF := OF_0
  refine lv_dup hx hb dX1_tide_4 rfl ?_
  refine lv_iconst (v := 0) hx hb dX1_tide_5 (by decide) ?_
  refine lv_iconst (v := 0) hx hb dX1_tide_6 (by decide) ?_
  refine o_tst (i := 0) hx hb hK hP hD hS hM hF (pk_in 0 20 (by decide)) ⟨0, by decide, rfl⟩ dX1_tide_7 (fun f H locs hF hP hD hS hM => ?_)
  refine lv_dup hx hb dX1_tide_8 rfl ?_
  refine lv_iconst (v := 1) hx hb dX1_tide_9 (by decide) ?_
  refine lv_iconst (v := 0) hx hb dX1_tide_10 (by decide) ?_
  refine o_tst (i := 1) hx hb hK hP hD hS hM hF (pk_in 1 20 (by decide)) ⟨0, by decide, rfl⟩ dX1_tide_11 (fun f H locs hF hP hD hS hM => ?_)
  refine lv_dup hx hb dX1_tide_12 rfl ?_
  refine lv_iconst (v := 2) hx hb dX1_tide_13 (by decide) ?_
  refine lv_iconst (v := 0) hx hb dX1_tide_14 (by decide) ?_
  refine o_tst (i := 2) hx hb hK hP hD hS hM hF (pk_in 2 20 (by decide)) ⟨0, by decide, rfl⟩ dX1_tide_15 (fun f H locs hF hP hD hS hM => ?_)
  refine lv_dup hx hb dX1_tide_16 rfl ?_
  refine lv_iconst (v := 3) hx hb dX1_tide_17 (by decide) ?_
  refine lv_iconst (v := 0) hx hb dX1_tide_18 (by decide) ?_
  refine o_tst (i := 3) hx hb hK hP hD hS hM hF (pk_in 3 20 (by decide)) ⟨0, by decide, rfl⟩ dX1_tide_19 (fun f H locs hF hP hD hS hM => ?_)
  refine lv_dup hx hb dX1_tide_20 rfl ?_
  refine lv_iconst (v := 4) hx hb dX1_tide_21 (by decide) ?_
  refine lv_iconst (v := 1) hx hb dX1_tide_22 (by decide) ?_
  refine o_tst (i := 4) hx hb hK hP hD hS hM hF (pk_in 4 20 (by decide)) ⟨1, by decide, rfl⟩ dX1_tide_23 (fun f H locs hF hP hD hS hM => ?_)
  refine lv_dup hx hb dX1_tide_24 rfl ?_
  refine lv_iconst (v := 5) hx hb dX1_tide_25 (by decide) ?_
  refine lv_iconst (v := 1) hx hb dX1_tide_26 (by decide) ?_
  refine o_tst (i := 5) hx hb hK hP hD hS hM hF (pk_in 5 20 (by decide)) ⟨1, by decide, rfl⟩ dX1_tide_27 (fun f H locs hF hP hD hS hM => ?_)
  refine lv_dup hx hb dX1_tide_28 rfl ?_
  refine lv_bipush (v := 6) hx hb dX1_tide_29 (by decide) ?_
  refine lv_iconst (v := 1) hx hb dX1_tide_31 (by decide) ?_
  refine o_tst (i := 6) hx hb hK hP hD hS hM hF (pk_in 6 20 (by decide)) ⟨1, by decide, rfl⟩ dX1_tide_32 (fun f H locs hF hP hD hS hM => ?_)
  refine lv_dup hx hb dX1_tide_33 rfl ?_
  refine lv_bipush (v := 7) hx hb dX1_tide_34 (by decide) ?_
  refine lv_iconst (v := 1) hx hb dX1_tide_36 (by decide) ?_
  refine o_tst (i := 7) hx hb hK hP hD hS hM hF (pk_in 7 20 (by decide)) ⟨1, by decide, rfl⟩ dX1_tide_37 (fun f H locs hF hP hD hS hM => ?_)
  refine lv_dup hx hb dX1_tide_38 rfl ?_
  refine lv_bipush (v := 8) hx hb dX1_tide_39 (by decide) ?_
  refine lv_iconst (v := 2) hx hb dX1_tide_41 (by decide) ?_
  refine o_tst (i := 8) hx hb hK hP hD hS hM hF (pk_in 8 20 (by decide)) ⟨2, by decide, rfl⟩ dX1_tide_42 (fun f H locs hF hP hD hS hM => ?_)
  refine lv_dup hx hb dX1_tide_43 rfl ?_
  refine lv_bipush (v := 9) hx hb dX1_tide_44 (by decide) ?_
  refine lv_iconst (v := 2) hx hb dX1_tide_46 (by decide) ?_
  refine o_tst (i := 9) hx hb hK hP hD hS hM hF (pk_in 9 20 (by decide)) ⟨2, by decide, rfl⟩ dX1_tide_47 (fun f H locs hF hP hD hS hM => ?_)
  refine lv_dup hx hb dX1_tide_48 rfl ?_
  refine lv_bipush (v := 10) hx hb dX1_tide_49 (by decide) ?_
  refine lv_iconst (v := 2) hx hb dX1_tide_51 (by decide) ?_
  refine o_tst (i := 10) hx hb hK hP hD hS hM hF (pk_in 10 20 (by decide)) ⟨2, by decide, rfl⟩ dX1_tide_52 (fun f H locs hF hP hD hS hM => ?_)
  refine lv_dup hx hb dX1_tide_53 rfl ?_
  refine lv_bipush (v := 11) hx hb dX1_tide_54 (by decide) ?_
  refine lv_iconst (v := 2) hx hb dX1_tide_56 (by decide) ?_
  refine o_tst (i := 11) hx hb hK hP hD hS hM hF (pk_in 11 20 (by decide)) ⟨2, by decide, rfl⟩ dX1_tide_57 (fun f H locs hF hP hD hS hM => ?_)
  refine lv_dup hx hb dX1_tide_58 rfl ?_
  refine lv_bipush (v := 12) hx hb dX1_tide_59 (by decide) ?_
  refine lv_iconst (v := 3) hx hb dX1_tide_61 (by decide) ?_
  refine o_tst (i := 12) hx hb hK hP hD hS hM hF (pk_in 12 20 (by decide)) ⟨3, by decide, rfl⟩ dX1_tide_62 (fun f H locs hF hP hD hS hM => ?_)
  refine lv_dup hx hb dX1_tide_63 rfl ?_
  refine lv_bipush (v := 13) hx hb dX1_tide_64 (by decide) ?_
  refine lv_iconst (v := 3) hx hb dX1_tide_66 (by decide) ?_
  refine o_tst (i := 13) hx hb hK hP hD hS hM hF (pk_in 13 20 (by decide)) ⟨3, by decide, rfl⟩ dX1_tide_67 (fun f H locs hF hP hD hS hM => ?_)
  refine lv_dup hx hb dX1_tide_68 rfl ?_
  refine lv_bipush (v := 14) hx hb dX1_tide_69 (by decide) ?_
  refine lv_iconst (v := 3) hx hb dX1_tide_71 (by decide) ?_
  refine o_tst (i := 14) hx hb hK hP hD hS hM hF (pk_in 14 20 (by decide)) ⟨3, by decide, rfl⟩ dX1_tide_72 (fun f H locs hF hP hD hS hM => ?_)
  refine lv_dup hx hb dX1_tide_73 rfl ?_
  refine lv_bipush (v := 15) hx hb dX1_tide_74 (by decide) ?_
  refine lv_iconst (v := 3) hx hb dX1_tide_76 (by decide) ?_
  refine o_tst (i := 15) hx hb hK hP hD hS hM hF (pk_in 15 20 (by decide)) ⟨3, by decide, rfl⟩ dX1_tide_77 (fun f H locs hF hP hD hS hM => ?_)
  refine lv_dup hx hb dX1_tide_78 rfl ?_
  refine lv_bipush (v := 16) hx hb dX1_tide_79 (by decide) ?_
  refine lv_iconst (v := 4) hx hb dX1_tide_81 (by decide) ?_
  refine o_tst (i := 16) hx hb hK hP hD hS hM hF (pk_in 16 20 (by decide)) ⟨4, by decide, rfl⟩ dX1_tide_82 (fun f H locs hF hP hD hS hM => ?_)
  refine lv_dup hx hb dX1_tide_83 rfl ?_
  refine lv_bipush (v := 17) hx hb dX1_tide_84 (by decide) ?_
  refine lv_iconst (v := 4) hx hb dX1_tide_86 (by decide) ?_
  refine o_tst (i := 17) hx hb hK hP hD hS hM hF (pk_in 17 20 (by decide)) ⟨4, by decide, rfl⟩ dX1_tide_87 (fun f H locs hF hP hD hS hM => ?_)
  refine lv_dup hx hb dX1_tide_88 rfl ?_
  refine lv_bipush (v := 18) hx hb dX1_tide_89 (by decide) ?_
  refine lv_iconst (v := 4) hx hb dX1_tide_91 (by decide) ?_
  refine o_tst (i := 18) hx hb hK hP hD hS hM hF (pk_in 18 20 (by decide)) ⟨4, by decide, rfl⟩ dX1_tide_92 (fun f H locs hF hP hD hS hM => ?_)
  refine lv_dup hx hb dX1_tide_93 rfl ?_
  refine lv_bipush (v := 19) hx hb dX1_tide_94 (by decide) ?_
  refine lv_iconst (v := 4) hx hb dX1_tide_96 (by decide) ?_
  refine o_tst (i := 19) hx hb hK hP hD hS hM hF (pk_in 19 20 (by decide)) ⟨4, by decide, rfl⟩ dX1_tide_97 (fun f H locs hF hP hD hS hM => ?_)
  refine lv_astore_n (lv' := [(1, .ref q), (0, .int (nI dd))]) hx hb dX1_tide_98 rfl hl (by decide) rfl (fun ls hl => ?_)
  refine lv_iload_n hx hb dX1_tide_99 rfl (lv_at hl 1 rfl) ?_
  refine lv_bipush (v := 40) hx hb dX1_tide_100 (by decide) ?_
  refine lv_irem hx hb dX1_tide_102 (by decide) ?_
  rw [o_rd20 dd hd]
  have hlt : dd % 40 < 40 := Nat.mod_lt _ (by decide)
  generalize dd % 40 = r at hlt ⊢
  refine lv_istore_n (lv' := [(2, .int (nI r)), (1, .ref q), (0, .int (nI dd))]) hx hb dX1_tide_103 rfl hl (by decide) rfl (fun ls hl => ?_)
  refine lv_iload_n hx hb dX1_tide_104 rfl (lv_at hl 0 rfl) ?_
  refine lv_bipush (v := 20) hx hb dX1_tide_105 (by decide) ?_
  refine lv_icmp_ge (tgt := 116) hx hb dX1_tide_107 (by decide) (fun c9 => ?_) (fun c9 => ?_)
  · have h9 : 20 ≤ r := (nI_leI (a := 20) (b := r) (by omega) (by omega)).mp c9
    refine lv_aload_n hx hb dX1_tide_116 rfl (lv_at hl 1 rfl) ?_
    refine lv_bipush (v := 39) hx hb dX1_tide_117 (by decide) ?_
    refine lv_iload_n hx hb dX1_tide_119 rfl (lv_at hl 0 rfl) ?_
    refine lv_isub hx hb dX1_tide_120 ?_
    rw [show (39 : Int32) - nI r = nI (39 - r) from o_sub (a := 39) (by omega)]
    refine w_iald hx hb hK hP 0 0 rfl rfl (f := f) (j := 39 - r) (by omega) (by omega) dX1_tide_121 ?_
    exact o_iret (w1 := fun _ => []) () hx hb hr hlocks hK hM w_P0 w_D0 hS (Nat.le_of_ble_eq_true rfl) (Nat.le_of_ble_eq_true rfl) dX1_tide_122 (hF _)
  · have h9 : r < 20 := o_ge c9 (by omega) (by omega)
    refine lv_aload_n hx hb dX1_tide_110 rfl (lv_at hl 1 rfl) ?_
    refine lv_iload_n hx hb dX1_tide_111 rfl (lv_at hl 0 rfl) ?_
    refine w_iald hx hb hK hP 0 0 rfl rfl (f := f) (j := r) (by omega) (by omega) dX1_tide_112 ?_
    refine lv_goto (tgt := 122) hx hb dX1_tide_113 (by decide) ?_
    exact o_iret (w1 := fun _ => []) () hx hb hr hlocks hK hM w_P0 w_D0 hS (Nat.le_of_ble_eq_true rfl) (Nat.le_of_ble_eq_true rfl) dX1_tide_122 (hF _)
end TID
