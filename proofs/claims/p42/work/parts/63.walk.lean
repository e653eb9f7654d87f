section LWK
theorem o_G {s : State} {a' : Array Value} (hts : ∀ w ∈ lw_tbl, w.before a' s = true) : ∃ G : va_G, va_K G vwCl [] s := by
  obtain ⟨c0, iS0, hKn0⟩ := u_known (C := RX0) (T := TX0) (N := 16) (n := 16) hts inX0 (hts (.instantiable RX0 16) (by decide +kernel))
  obtain ⟨c1, iS1, hKn1⟩ := u_known (C := RX1) (T := TX1) (N := 9) (n := 9) hts inX1 (hts (.instantiable RX1 9) (by decide +kernel))
  refine ⟨(fun k => if k = 0 then c0 else c1, fun k => if k = 0 then iS0 else iS1), fun k q hq => ?_, fun k q h => by simp at h⟩
  match k, hq with
  | 0, hq => cases hq; exact hKn0
  | 1, hq => cases hq; exact hKn1
  | k + 2, hq => simp [vwCl] at hq
theorem o_ar1 (a c t : Nat) : a + (2 * c) * t + c * 2 ≤ a + (2 * c) * (t + 1) := by rw [Nat.mul_succ (2 * c) t]; omega
/-- the law's own things done, two a time -/
def o_yk (xs : Nat → Int32) (i : Nat) : Int32 := o_xk xs (i / 2) >>> (nI (2 * (i % 2)) &&& 31) + nI (409 * (i % 2))
theorem wl_ao : Cond.arrayOver (.array .int) ∈ lw_tbl := List.mem_of_getElem? (i := 494) rfl
theorem wl_nx : Cond.methodLinkNest RL 93 yX1_init RL ∈ lw_tbl := List.mem_of_getElem? (i := 489) rfl
set_option maxHeartbeats 16000000 in
set_option maxRecDepth 100000 in
theorem law_walk {p : Program} {e : Env} {s : State} {m : MethodId} {below : List Frame} {meth : Method} {c : Code} (l : Launch) {b : Nat} {xs : Nat → Int32} (qf of1 pf tf mf qg og pg tg mg : Nat → Nat) (hx : p.tables.exec = Jvm.exec) (hb : c.code = cL_law) (hr : meth.sig.returnType = some .boolean) (hml : c.maxLocals = 17) (hown : s.vm.findClass RL = some m.cls) (hts0 : ∀ w ∈ lw_tbl, w.before #[Value.ref b] s = true) (hlocks : meth.locks = false) (hst : s.slotsTrue = true) (hbl : b < s.heap.size)
    (hscr : ∀ cI : ClassId, s.vm.findClass ("[" ++ FieldType.int.toString) = some cI → s.heap[b]? = some (vp_cell cI (16, .inl xs))) (hN : 24 + onb (xs 0) 44 = 67) (h0 : qf 0 = 0 ∧ of1 0 = 0 ∧ pf 0 = 0 ∧ tf 0 = 0 ∧ mf 0 = 0) (hrun : ORun (o_xk xs) 67 qf of1 pf tf mf) (h1 : qg 0 = qf 67 ∧ og 0 = of1 67 ∧ pg 0 = pf 67 ∧ tg 0 = tf 67 ∧ mg 0 = mf 67) (hrun2 : ORun (o_yk xs) 48 qg og pg tg mg) (hend : 7301315 ≤ mg 48) :
    W p l e RR s m #[Value.ref b] below meth c s.heap [] 0 0 (LQ below s) (entryFrame m ([Value.ref b] : List Value).toArray 17) := by
  have hts : ∀ w ∈ wsL_law, w.before #[Value.ref b] s = true := fun w h => hts0 w (wsL_law_in w h)
  have hAO : va_AOA .int s := over_moved (Vm.Alike.refl s.vm) (hts0 _ wl_ao)
  have hNX : va_Nw (.methodLinkNest RL 93 yX1_init RL) s := va_Nw.of rfl (hts0 _ wl_nx)
  obtain ⟨G, hK⟩ := o_G hts0
  have hA : ∀ q : Nat, s.heap.size ≤ q → oA s q := fun _ h => h
  have hS : va_S (oA s) s.heap s.heap [] := va_S.rf
  have hP : va_P G vwCl [] s.heap := w_P0
  have hD : va_D (oA s) [] := w_D0
  have hM : slotSum s.heap ≤ slotSum s.heap := Nat.le_refl _
  have hl := lv_entry ([.ref b]) (n := 17) (Nat.le_of_ble_eq_true rfl)
  rw [lg_entry_eq]
  generalize (lg_sl ([.ref b]) ++ List.replicate (17 - (lg_sl ([.ref b])).length) Slot.unset).toArray = ls at hl ⊢
  have hl : lv_has ls 17 [(0, .ref b)] := hl
  refine W_up hM (va_new (ci := 0) (fs := [.null, .null, .null, .null, .null, .null, .null, .null, .null, .null, .null, .int 0, .int 0, .int 0, .int 0, .int 0]) (C := RX0) (T := TX0) (N := 16) hx hb hts inlX0 tyX0 tyX0_ok hown (hts (.classLink RL 22 RX0) (by decide +kernel)) (hts (.instantiable RX0 16) (by decide +kernel)) (hts (.initialized RX0) (by decide +kernel)) hK hP hD hS hA rfl (fun j hj => by rcases (show j = 0 ∨ j = 1 ∨ j = 2 ∨ j = 3 ∨ j = 4 ∨ j = 5 ∨ j = 6 ∨ j = 7 ∨ j = 8 ∨ j = 9 ∨ j = 10 ∨ j = 11 ∨ j = 12 ∨ j = 13 ∨ j = 14 ∨ j = 15 by omega) with rfl | rfl | rfl | rfl | rfl | rfl | rfl | rfl | rfl | rfl | rfl | rfl | rfl | rfl | rfl | rfl <;> rfl) (Nat.le_of_ble_eq_true rfl) (Nat.le_of_ble_eq_true rfl) dL_law_0 (fun hc H hP hD hS => W_dn (fun hM => ?_)))
  have hP : va_P G vwCl ([] ++ [(hc, .inr (0, [.null, .null, .null, .null, .null, .null, .null, .null, .null, .null, .null, .int 0, .int 0, .int 0, .int 0, .int 0]))]) H := hP
  have hD : va_D (oA s) ([] ++ [(hc, .inr (0, [.null, .null, .null, .null, .null, .null, .null, .null, .null, .null, .null, .int 0, .int 0, .int 0, .int 0, .int 0]))]) := hD
  refine lv_dup hx hb dL_law_3 rfl ?_
  refine W_up hM (w_pl_v (B := fun _ _ => True) (wr := []) (va_runI (As := []) (rest := [.ref hc]) ⟨hx, hb, hml, hown, hts⟩ (c_X0_init l G hc H.size) (cwI 0 hts gL_law_X0_init rfl rfl rfl (hts (.initialized RX0) (by decide +kernel)) (hts (.methodLink RL 102 yX0_init) (by decide +kernel)) (hts (.instanceMethod yX0_init) (by decide +kernel)) rfl (by decide +kernel) ⟨(Nat.le_of_ble_eq_true rfl), (Nat.le_of_ble_eq_true rfl)⟩) ⟨wPre_blind, w_preP (hK.sub [] rfl) hP hD [0] (by decide) rfl rfl⟩ rfl rfl hl.1 rfl (lv_room (Nat.le_of_ble_eq_true rfl)) dL_law_4 ⟨(Nat.le_of_ble_eq_true rfl), (Nat.le_of_ble_eq_true rfl)⟩) hP hD hS hA [0] [] rfl rfl (by decide) (by decide) (fun u H locs _ hu hP hD hS => W_dn (fun hM => ?_)))
  obtain ⟨a, cI, cZ⟩ := u
  have hK2 : va_K G vwCl (ty2 cI cZ) s := hu
  have hP : va_P G vwCl (Dk cI cZ hc a (fun _ _ => 0) 0 0 0 0 0) H := hP
  have hD : va_D (oA s) (Dk cI cZ hc a (fun _ _ => 0) 0 0 0 0 0) := hD
  have hfI : s.vm.findClass ("[" ++ FieldType.int.toString) = some cI := (hK2.2 0 (cI, .int) rfl).2
  have hR : va_P G vwCl [(b, .inl (cI, 16, .inl xs))] s.heap := fun k q hk => by
    have hz : k < 1 := (List.getElem?_eq_some_iff.mp hk).1
    rw [show k = 0 by omega] at hk
    cases hk
    exact hscr cI hfI
  have hro : ∀ (k : Nat) (q : Nat × va_E), ([(b, .inl (cI, 16, .inl xs))] : va_W)[k]? = some q → ¬ oA s q.1 := fun k q hk h => by
    have hz : k < 1 := (List.getElem?_eq_some_iff.mp hk).1
    rw [show k = 0 by omega] at hk
    cases hk
    exact Nat.not_le.mpr hbl h
  have hLC : LCx p s m b meth c G cI cZ := ⟨hx, hb, hml, hr, hts, hown, hlocks, hK2⟩
  refine lv_astore_n (lv' := [(1, .ref hc), (0, .ref b)]) hx hb dL_law_7 rfl hl (by decide) rfl (fun ls hl => ?_)
  refine lv_aload_n hx hb dL_law_8 rfl (lv_at hl 0 rfl) ?_
  refine lv_aload_n hx hb dL_law_9 rfl (lv_at hl 1 rfl) ?_
  have hF := w_free hD hS hA
  have hx1 : ∀ (k : Nat) (q : Nat × va_E), ([(b, .inl (cI, 16, .inl xs))] : va_W)[k]? = some q → ∀ (j : Nat) (x : va_E), (Dk cI cZ hc a (fun _ _ => 0) 0 0 0 0 0)[j]? ≠ some (q.1, x) := fun k q hk j x hj => hro k q hk (hD.2 j (q.1, x) hj)
  refine va_callq (va_runS (As := [.ref hc, .ref b]) (rest := []) ⟨hx, hb, hml, hown, hts⟩ (c_L_build l G cI cZ hc a b xs qf of1 pf tf mf H.size (slotSum s.heap) hN h0 hrun) (va_cwS 2 hts gL_law_L_build rfl rfl rfl (by decide +kernel) ⟨(Nat.le_of_ble_eq_true rfl), (Nat.le_of_ble_eq_true rfl)⟩) ⟨oPreA_blind, fun U hU hW => ⟨(o_pre (vs := [.ref hc, .ref b]) hM hK2 hP (o_keep hR hro hS) hD hx1 U hU hW).1, (o_pre (vs := [.ref hc, .ref b]) hM hK2 hP (o_keep hR hro hS) hD hx1 U hU hW).2, va_AOA.moved hW.alike hAO, va_Nw.warmM hW hNX⟩⟩ rfl rfl hl.1 rfl (lv_room (Nat.le_of_ble_eq_true rfl)) dL_law_10 ⟨(Nat.le_of_ble_eq_true rfl), (Nat.le_of_ble_eq_true rfl)⟩) hS (fun q _ h => hF q h) hF (fun r u t H locs ht hvm hw hB hz hk hS => ?_)
  rcases hw with ⟨-, rfl⟩ | ⟨w, rfl, rfl, hFw, hrow⟩
  · refine lv_astore_nN (lv' := [(2, .null), (1, .ref hc), (0, .ref b)]) hx hb dL_law_13 rfl hl (by decide) rfl (fun ls hl => ?_)
    refine lv_aload_nN hx hb dL_law_14 rfl (lv_at hl 0 rfl) ?_
    refine lv_ifnonnullN hx hb dL_law_15 ?_
    refine lv_iconst (v := 0) hx hb dL_law_18 (by decide) ?_
    exact o_ret0 hx hb hr hlocks hS dL_law_19
  obtain ⟨⟨hP, hK3, hD⟩, hM⟩ := hB w rfl
  rw [ht] at hP hM
  have hK3 : va_K G vwCl (ty3 cI cZ w.2.2.1) s := va_K.moved hvm.symm hK3
  have hD := hD.weaken (fun _ _ _ h => hF _ h)
  obtain ⟨⟨hs, ao, ap, au⟩, ⟨ro, rp, L⟩, cR, F, nw, f⟩ := w
  refine lv_astore_n (lv' := [(2, .ref hs), (1, .ref hc), (0, .ref b)]) hx hb dL_law_13 rfl hl (by decide) rfl (fun ls hl => ?_)
  refine lv_aload_n hx hb dL_law_14 rfl (lv_at hl 0 rfl) ?_
  refine lv_ifnonnull (tgt := 20) hx hb dL_law_15 (by decide) ?_
  refine lv_iconst (v := nI 0) hx hb dL_law_20 (by decide) ?_
  refine lv_istore_n (lv' := [(3, .int (nI 0)), (2, .ref hs), (1, .ref hc), (0, .ref b)]) hx hb dL_law_21 rfl hl (by decide) rfl (fun ls hl => ?_)
  have key : ∀ (n t : Nat), t ≤ 24 → 24 < t + n → ∀ (F : Nat → Nat → Int32) (nw : Int32) (f : Nat → va_E), CI F (pg (2 * t)) → OR cI ro rp L f (og (2 * t)) → ∀ (H : Heap) (locs : List Loc), va_P G vwCl (WB cI cZ hc a ((hs, ao, ap, au), (ro, rp, L), (cR, (F, nw, f))) (tg (2 * t)) (qg (2 * t)) (og (2 * t)) (pg (2 * t))) H → va_D (oA s) (WB cI cZ hc a ((hs, ao, ap, au), (ro, rp, L), (cR, (F, nw, f))) (tg (2 * t)) (qg (2 * t)) (og (2 * t)) (pg (2 * t))) → va_S (oA s) s.heap H locs → slotSum s.heap + mg (2 * t) ≤ slotSum H → ∀ ls : Array Slot, lv_has ls 17 [(3, .int (nI t)), (2, .ref hs), (1, .ref hc), (0, .ref b)] → W p l e RR s m #[Value.ref b] below meth c H locs (549446 + 16400 * t) (10854533 + 324000 * t) (LQ below s) (F0 m 22 ls []) := by
    intro n
    induction n with
    | zero => intro t h1 h2; exact absurd h2 (by omega)
    | succ n ih =>
      intro t hi hn F nw f hF hrow H locs hP hD hS hM ls hl
      refine lv_iload_n hx hb dL_law_22 rfl (lv_at hl 0 rfl) ?_
      refine lv_bipush (v := nI 24) hx hb dL_law_23 (by decide) ?_
      refine lv_icmp_ge (tgt := 685) hx hb dL_law_25 (by decide) (fun c9 => ?_) (fun c9 => ?_)
      · have h9 : 24 ≤ t := (nI_leI (by omega) (by omega)).mp c9
        have ei : t = 24 := by omega
        subst ei
        exact o_win hst (by have h8 : slotSum s.heap + mg 48 ≤ slotSum H := hM; omega)
      · have h9 : t < 24 := o_ge c9 (by omega) (by omega)
        refine lv_aload_n hx hb dL_law_28 rfl (lv_at hl 3 rfl) ?_
        refine lv_iload_n hx hb dL_law_29 rfl (lv_at hl 0 rfl) ?_
        refine lv_bipush (v := nI 16) hx hb dL_law_30 (by decide) ?_
        refine lv_irem hx hb dL_law_32 (by decide) ?_
        rw [o_rem (m := t) (n := 16) (by omega) (by decide)]
        refine o_in (va_runS (As := [.ref b, .int (nI (t % 16))]) (rest := []) ⟨hx, hb, hml, hown, hts⟩ (c_L_cell l G cI b 16 xs H.size (slotSum s.heap + mg (2 * t)) (t % 16) (Nat.mod_lt _ (by decide)) (by decide)) (va_cwS 2 hts gL_law_L_cell rfl rfl rfl (by decide +kernel) ⟨(Nat.le_of_ble_eq_true rfl), (Nat.le_of_ble_eq_true rfl)⟩) ⟨oPre_blind, o_pre hM (hK3.sub [0] rfl) w_P0 (o_keep hR hro hS) (w_D0 (A := oA s)) o_x0⟩ rfl rfl hl.1 rfl (lv_room (Nat.le_of_ble_eq_true rfl)) dL_law_33 ⟨by dsimp only [RR]; omega, by dsimp only [RR]; omega⟩) hP hS hA (fun r39 u39 H locs hw39 hP hS hM => ?_)
        subst hw39
        refine lv_iload_n hx hb dL_law_36 rfl (lv_at hl 0 rfl) ?_
        refine lv_bipush (v := nI 16) hx hb dL_law_37 (by decide) ?_
        refine lv_idiv hx hb dL_law_39 (by decide) ?_
        rw [o_div (m := t) (n := 16) (by omega) (by decide)]
        refine lv_iconst (v := nI 3) hx hb dL_law_40 (by decide) ?_
        refine lv_imul hx hb dL_law_41 ?_
        rw [pk_mul]
        refine lv_ishr hx hb dL_law_42 ?_
        refine lv_sipush (v := nI 523) hx hb dL_law_43 (by decide) ?_
        refine lv_iload_n hx hb dL_law_46 rfl (lv_at hl 0 rfl) ?_
        refine lv_imul hx hb dL_law_47 ?_
        rw [pk_mul]
        refine lv_iadd hx hb dL_law_48 ?_
        rw [show xs (t % 16) >>> (nI (t / 16 * 3) &&& 31) + nI (523 * t) = o_xk xs t from rfl]
        refine lv_istore (lv' := [(4, .int (o_xk xs t)), (3, .int (nI t)), (2, .ref hs), (1, .ref hc), (0, .ref b)]) hx hb dL_law_49 hl (by decide) rfl (fun ls hl => ?_)
        refine lv_iconst (v := nI 0) hx hb dL_law_51 (by decide) ?_
        refine lv_istore (lv' := [(5, .int (nI 0)), (4, .int (o_xk xs t)), (3, .int (nI t)), (2, .ref hs), (1, .ref hc), (0, .ref b)]) hx hb dL_law_52 hl (by decide) rfl (fun ls hl => ?_)
        have key2 : ∀ (n2 k : Nat), k ≤ 2 → 2 < k + n2 → ∀ (F : Nat → Nat → Int32) (nw : Int32) (f : Nat → va_E), CI F (pg (2 * t + k)) → OR cI ro rp L f (og (2 * t + k)) → ∀ (H : Heap) (locs : List Loc), va_P G vwCl (WB cI cZ hc a ((hs, ao, ap, au), (ro, rp, L), (cR, (F, nw, f))) (tg (2 * t + k)) (qg (2 * t + k)) (og (2 * t + k)) (pg (2 * t + k))) H → va_D (oA s) (WB cI cZ hc a ((hs, ao, ap, au), (ro, rp, L), (cR, (F, nw, f))) (tg (2 * t + k)) (qg (2 * t + k)) (og (2 * t + k)) (pg (2 * t + k))) → va_S (oA s) s.heap H locs → slotSum s.heap + mg (2 * t + k) ≤ slotSum H → ∀ ls : Array Slot, lv_has ls 17 [(5, .int (nI k)), (4, .int (o_xk xs t)), (3, .int (nI t)), (2, .ref hs), (1, .ref hc), (0, .ref b)] → W p l e RR s m #[Value.ref b] below meth c H locs (549446 + 16400 * t + 8200 * k) (10854533 + 324000 * t + 162000 * k) (LQ below s) (F0 m 54 ls []) := by
          intro n2
          induction n2 with
          | zero => intro k h1 h2; exact absurd h2 (by omega)
          | succ n2 ih2 =>
            intro k hi2 hn2 F nw f hF hrow H locs hP hD hS hM ls hl
            refine lv_iload hx hb dL_law_54 (lv_at hl 0 rfl) ?_
            refine lv_iconst (v := nI 2) hx hb dL_law_56 (by decide) ?_
            refine lv_icmp_ge (tgt := 90) hx hb dL_law_57 (by decide) (fun c8 => ?_) (fun c8 => ?_)
            · have h8 : 2 ≤ k := (nI_leI (by omega) (by omega)).mp c8
              have ei : k = 2 := by omega
              subst ei
              obtain ⟨b1, b2, b3, b4⟩ := hrun2.2 (2 * t + 2) (by omega)
              have h679 : LK p l e s m b below meth c G (WB cI cZ hc a ((hs, ao, ap, au), (ro, rp, L), (cR, (F, nw, f))) (tg (2 * t + 2)) (qg (2 * t + 2)) (og (2 * t + 2)) (pg (2 * t + 2))) (slotSum s.heap + mg (2 * t + 2)) (549446 + 16400 * (t + 1)) (10854533 + 324000 * (t + 1)) 679 [(0, .ref b), (1, .ref hc), (2, .ref hs), (3, .int (nI t))] [] := by
                intro H locs ls cells slots hc9 hs9 hP hD hS hM hl
                refine lv_iinc (v := nI t + 1) (lv' := [(3, .int (nI t + 1)), (0, .ref b), (1, .ref hc), (2, .ref hs)]) hx hb dL_law_679 hl (k := 3) rfl rfl (by decide) rfl (fun ls hl => ?_)
                refine lv_goto (tgt := 22) hx hb dL_law_682 (by decide) ?_
                rw [nI_1] at hl
                exact W.widen hc9 hs9 (ih (t + 1) (by omega) (by omega) F nw f hF hrow H locs hP hD hS hM ls (lv_sub hl [0, 3, 2, 1] rfl))
              have hc1 : 549446 + 16400 * (t + 1) ≤ 1000000 := by omega
              have hs1 : 10854533 + 324000 * (t + 1) ≤ 19000000 := Nat.le_trans (Nat.add_le_add_left (Nat.mul_le_mul_left 324000 (show t + 1 ≤ 24 from h9)) 10854533) (Nat.le_of_ble_eq_true rfl)
              have hB9 : LBx ((hs, ao, ap, au), (ro, rp, L), (cR, (F, nw, f))) (qg (2 * t + 2)) (og (2 * t + 2)) (pg (2 * t + 2)) (549446 + 16400 * (t + 1)) (10854533 + 324000 * (t + 1)) := And.intro b1 (And.intro b2 (And.intro b3 (And.intro hF (And.intro hc1 hs1))))
              have h90 := lb_90 p l e s m b below meth c G cI cZ hc a ((hs, ao, ap, au), (ro, rp, L), (cR, (F, nw, f))) (tg (2 * t + 2)) (qg (2 * t + 2)) (og (2 * t + 2)) (pg (2 * t + 2)) (slotSum s.heap + mg (2 * t + 2)) (549446 + 16400 * (t + 1)) (10854533 + 324000 * (t + 1)) t hLC hB9 h679
              have hc9 : 549446 + 16400 * t + 8200 * 2 ≤ 549446 + 16400 * (t + 1) := by omega
              have hs9 : 10854533 + 324000 * t + 162000 * 2 ≤ 10854533 + 324000 * (t + 1) := o_ar1 10854533 162000 t
              exact h90 H locs ls _ _ hc9 hs9 hP hD hS hM (lv_sub hl [5, 4, 3, 2] rfl)
            · have h8 : k < 2 := o_ge c8 (by omega) (by omega)
              obtain ⟨dl, hst1, hmf⟩ := hrun2.1 (2 * t + k) (by omega)
              obtain ⟨b1, b2, b3, b4⟩ := hrun2.2 (2 * t + k) (by omega)
              refine lv_aload_n hx hb dL_law_60 rfl (lv_at hl 4 rfl) ?_
              refine lv_aload_n hx hb dL_law_61 rfl (lv_at hl 3 rfl) ?_
              refine lv_iload hx hb dL_law_62 (lv_at hl 1 rfl) ?_
              refine lv_iconst (v := nI 2) hx hb dL_law_64 (by decide) ?_
              refine lv_iload hx hb dL_law_65 (lv_at hl 0 rfl) ?_
              refine lv_imul hx hb dL_law_67 ?_
              rw [pk_mul]
              refine lv_ishr hx hb dL_law_68 ?_
              refine lv_sipush (v := nI 409) hx hb dL_law_69 (by decide) ?_
              refine lv_iload hx hb dL_law_72 (lv_at hl 0 rfl) ?_
              refine lv_imul hx hb dL_law_74 ?_
              rw [pk_mul]
              refine lv_iadd hx hb dL_law_75 ?_
              have e1 : (2 * t + k) / 2 = t := by omega
              have e2 : (2 * t + k) % 2 = k := by omega
              rw [show o_xk xs t >>> (nI (2 * k) &&& 31) + nI (409 * k) = o_yk xs (2 * t + k) by rw [o_yk, e1, e2]]
              have hPm : va_P G vwCl (((SM hs ao ap au (nI (tg (2 * t + k) / 48)) (nI (tg (2 * t + k) % 48)) (qg (2 * t + k)) (og (2 * t + k)) (pg (2 * t + k))) :: (Dk cI cZ hc a F (qg (2 * t + k)) (og (2 * t + k)) (pg (2 * t + k)) 0 nw)) ++ va_pl L f) H := hP.part [2, 3, 4, 5, 6, 7, 8, 9, 10, 11, 12, 13, 14] rfl
              have hDm : va_D (oA s) (((SM hs ao ap au (nI (tg (2 * t + k) / 48)) (nI (tg (2 * t + k) % 48)) (qg (2 * t + k)) (og (2 * t + k)) (pg (2 * t + k))) :: (Dk cI cZ hc a F (qg (2 * t + k)) (og (2 * t + k)) (pg (2 * t + k)) 0 nw)) ++ va_pl L f) := hD.part [2, 3, 4, 5, 6, 7, 8, 9, 10, 11, 12, 13, 14] (by decide) rfl
              refine o_pp (X := [OA cR ao ro, PA cR ap rp] ++ ((SM hs ao ap au (nI (tg (2 * t + k) / 48)) (nI (tg (2 * t + k) % 48)) (qg (2 * t + k)) (og (2 * t + k)) (pg (2 * t + k))) :: (Dk cI cZ hc a F (qg (2 * t + k)) (og (2 * t + k)) (pg (2 * t + k)) 0 nw))) (cx := (SM hs ao ap au (nI (tg (2 * t + k) / 48)) (nI (tg (2 * t + k) % 48)) (qg (2 * t + k)) (og (2 * t + k)) (pg (2 * t + k))) :: (Dk cI cZ hc a F (qg (2 * t + k)) (og (2 * t + k)) (pg (2 * t + k)) 0 nw)) (pl := va_pl L f) (wr := [OA cR ao ro, PA cR ap rp]) (rx := fun u : AC => (SM hs ao ap au (nI (tg (2 * t + k + 1) / 48)) (nI (tg (2 * t + k + 1) % 48)) (qg (2 * t + k + 1)) (og (2 * t + k + 1)) (pg (2 * t + k + 1))) :: (Dk cI cZ hc a u.1 (qg (2 * t + k + 1)) (og (2 * t + k + 1)) (pg (2 * t + k + 1)) 0 u.2.1)) (pl1 := fun u : AC => va_pl L u.2.2) (va_runS (As := [.ref hc, .ref hs, .int (o_yk xs (2 * t + k))]) (rest := []) ⟨hx, hb, hml, hown, hts⟩ (c_L_act l G cI cZ cR hc a F nw hs ao ap au ro rp L f (qg (2 * t + k)) (og (2 * t + k)) (pg (2 * t + k)) (tg (2 * t + k)) (qg (2 * t + k + 1)) (og (2 * t + k + 1)) (pg (2 * t + k + 1)) (tg (2 * t + k + 1)) dl H.size (slotSum s.heap + mg (2 * t + k)) (o_yk xs (2 * t + k)) b1 b2 b3 b4 hst1 hF hrow) (va_cwS 3 hts gL_law_L_act rfl rfl rfl (by decide +kernel) ⟨(Nat.le_of_ble_eq_true rfl), (Nat.le_of_ble_eq_true rfl)⟩) ⟨oPre_blind, o_pre hM hK3 hPm (hP.sub [0, 1] rfl) hDm (o_apart2 hD)⟩ rfl rfl hl.1 rfl (lv_room (Nat.le_of_ble_eq_true rfl)) dL_law_76 ⟨by dsimp only [RR]; omega, by dsimp only [RR]; omega⟩) hP hD hS hA [2, 3, 4, 5, 6, 7, 8, 9, 10, 11, 12, 13, 14] [0, 1] rfl rfl (by decide) (by decide) (fun r76 u H locs hw76 hP hD hS hM => ?_)
              obtain ⟨-, hF1, hrow1⟩ := hw76
              obtain ⟨F1, nw1, f1⟩ := u
              refine lv_if_ne (tgt := 84) hx hb dL_law_79 (by decide) (fun c7 => ?_) (fun c7 => ?_)
              · refine lv_iinc (v := nI k + 1) (lv' := [(5, .int (nI k + 1)), (4, .int (o_xk xs t)), (3, .int (nI t)), (2, .ref hs), (1, .ref hc), (0, .ref b)]) hx hb dL_law_84 hl (k := 0) rfl rfl (by decide) rfl (fun ls hl => ?_)
                refine lv_goto (tgt := 54) hx hb dL_law_87 (by decide) ?_
                rw [nI_1] at hl
                exact W.widen (by omega) (by omega) (ih2 (k + 1) (by omega) (by omega) F1 nw1 f1 hF1 hrow1 H locs hP hD hS (by show slotSum s.heap + mg (2 * t + k + 1) ≤ _; rw [hmf]; omega) ls hl)
              · refine lv_iconst (v := 0) hx hb dL_law_82 (by decide) ?_
                exact o_ret0 hx hb hr hlocks hS dL_law_83
        exact W.widen (by omega) (by omega) (key2 3 0 (by omega) (by omega) F nw f hF hrow H locs hP hD hS hM ls hl)
  obtain ⟨z1, z2, z3, z4, z5⟩ := h1
  exact W.widen (by omega) (by omega) (key 25 0 (by omega) (by omega) F nw f (by rw [show pg (2 * 0) = pf 67 from z3]; exact hFw) (by rw [show og (2 * 0) = of1 67 from z2]; exact hrow) H locs (by rw [show tg (2 * 0) = tf 67 from z4, show qg (2 * 0) = qf 67 from z1, show og (2 * 0) = of1 67 from z2, show pg (2 * 0) = pf 67 from z3]; exact hP) (by rw [show tg (2 * 0) = tf 67 from z4, show qg (2 * 0) = qf 67 from z1, show og (2 * 0) = of1 67 from z2, show pg (2 * 0) = pf 67 from z3]; exact hD) hS (by rw [show mg (2 * 0) = mf 67 from z5]; exact hM) ls hl)
end LWK
