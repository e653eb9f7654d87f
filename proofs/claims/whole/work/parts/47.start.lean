section WST
theorem zB_any {s : State} {w : Cond} (hw : w ∈ zB) {a' : Array Value} (h : w.before a' s = true) (a9 : Array Value) : w.before a9 s = true := by
  have hf : w.onTables = true := by
    simp only [zB, List.mem_cons, List.not_mem_nil, or_false] at hw
    rcases hw with rfl | rfl | rfl | rfl | rfl | rfl <;> rfl
  have e9 := Cond.onTables_vm (A := a') (A' := a9) (U := s) (U' := s) s.vm w hf
  rw [State.setVm_self] at e9
  rw [← e9]
  exact h
theorem zB_in : ∀ w ∈ zB, w ∈ lw_tbl := by decide +kernel
theorem zT_in : ∀ q ∈ zT, Cond.stringRef RX0 q.1 q.2 ∈ lw_tbl := by decide +kernel
theorem zT_ex : ∀ q ∈ zT, Cond.exactly (.string RX0 q.1) "java/lang/String" ∈ flatC (Jvm.Cond.and given_1 narrow_1) := by decide +kernel
theorem z_r1 : Cond.isRef (.static Bundle.tN "UNASSIGNED_STACK" Bundle.steD) ∈ flatC (Jvm.Cond.and given_1 narrow_1) := by decide +kernel
theorem z_r2 : Cond.isRef (.static Bundle.tN "SUPPRESSED_SENTINEL" Bundle.listD) ∈ flatC (Jvm.Cond.and given_1 narrow_1) := by decide +kernel
theorem z_l1 : Cond.laysStatic Bundle.tN "UNASSIGNED_STACK" Bundle.steD ∈ lw_tbl := by decide +kernel
theorem z_l2 : Cond.laysStatic Bundle.tN "SUPPRESSED_SENTINEL" Bundle.listD ∈ lw_tbl := by decide +kernel
theorem z_i : Cond.initialized Bundle.tN ∈ lw_tbl := by decide +kernel
theorem z_n1 : Cond.not (.castable xS xI) ∈ flatC (Jvm.Cond.and given_1 narrow_1) := by decide +kernel
theorem z_n2 : Cond.not (.castable xA xI) ∈ flatC (Jvm.Cond.and given_1 narrow_1) := by decide +kernel
theorem z_n3 : Cond.not (.castable xS xA) ∈ flatC (Jvm.Cond.and given_1 narrow_1) := by decide +kernel
theorem law_zX {s : State} {a' : Array Value} (hts : ∀ w ∈ lw_tbl, w.before a' s = true) (hgv : (Jvm.Cond.and given_1 narrow_1).before a' s = true) : zX (lwA s) s s.heap := by
  have hfs := flat_of_before _ hgv
  have hA : ∀ q : Nat, q < s.heap.size → ¬ lwA s q := fun q h => Nat.not_le.mpr h
  refine ⟨vx_Zqof (hts _ z_l1) (hts _ z_i) (hfs _ z_r1) hA, vx_Zqof (hts _ z_l2) (hts _ z_i) (hfs _ z_r2) hA, fun w hw a9 => zB_any hw (hts w (zB_in w hw)) a9, fun q hq => ?_⟩
  obtain ⟨sa, -, -, -, ha, -⟩ := Cond.exactly_spec (hfs _ (zT_ex q hq))
  exact ⟨sa, vk_R.of (hts _ (zT_in q hq)) ha⟩
theorem law_zN {s : State} {a' : Array Value} (hgv : (Jvm.Cond.and given_1 narrow_1).before a' s = true) : zN s := by
  have hfs := flat_of_before _ hgv
  exact ⟨va_Nc.of (hfs _ z_n1), va_Nc.of (hfs _ z_n2), va_Nc.of (hfs _ z_n3)⟩
theorem law_G {s : State} {a' : Array Value} (hts : ∀ w ∈ lw_tbl, w.before a' s = true) : ∃ G : va_G, va_K G vwCl [] s := by
  obtain ⟨c0, iS0, hKn0⟩ := u_known (C := RX0) (T := TX0) (N := 16) (n := 16) hts inX0 (hts (.instantiable RX0 16) (by decide +kernel))
  obtain ⟨c1, iS1, hKn1⟩ := u_known (C := RX1) (T := TX1) (N := 18) (n := 18) hts inX1 (hts (.instantiable RX1 18) (by decide +kernel))
  refine ⟨(fun k => if k = 0 then c0 else c1, fun k => if k = 0 then iS0 else iS1), fun k q hq => ?_, fun k q h => by simp at h⟩
  match k, hq with
  | 0, hq => cases hq; exact hKn0
  | 1, hq => cases hq; exact hKn1
  | k + 2, hq => simp [vwCl] at hq
set_option maxHeartbeats 4000000 in
set_option maxRecDepth 100000 in
theorem whole_start {p : Program} {e : Env} {s : State} {m : MethodId} {below : List Frame} {meth : Method} {c : Code} (l : Launch) (hflags : l.flags = flags0) {b L : Nat} {xs : Nat → Int32} (hL : L ≤ 2560) (C0 : lw_At p s m meth c b L xs) : W p l e room_1 s m #[Value.ref b] below meth c s.heap [] 0 0 (lw_Z below #[Value.ref b] s) (entryFrame m ([Value.ref b] : List Value).toArray 9) := by
  obtain ⟨hx, hb, hr, hml, hown, hts0, hX, hbl, hlocks, hgv⟩ := C0
  have hown : s.vm.findClass RL = some m.cls := hown
  have hb : c.code = cL_law := hb
  have hts : ∀ w ∈ wsL_law, w.before #[Value.ref b] s = true := fun w h => hts0 w (wsL_law_in w h)
  have hZ := law_zX hts0 hgv
  have hN := law_zN hgv
  obtain ⟨G, hK⟩ := law_G hts0
  have hA : ∀ q : Nat, s.heap.size ≤ q → lwA s q := fun _ h => h
  have hS : va_S (lwA s) s.heap s.heap [] := va_S.rf
  have hP : va_P G vwCl [] s.heap := w_P0
  have hD : va_D (lwA s) [] := w_D0
  have hl := lv_entry ([.ref b]) (n := 9) (Nat.le_of_ble_eq_true rfl)
  rw [lg_entry_eq]
  generalize (lg_sl ([.ref b]) ++ List.replicate (9 - (lg_sl ([.ref b])).length) Slot.unset).toArray = ls at hl ⊢
  have hl : lv_has ls 9 [(0, .ref b)] := hl
  refine va_new (ci := 0) (fs := [.null, .null, .null, .null, .null, .null, .null, .null, .null, .null, .null, .int 0, .int 0, .int 0, .int 0, .int 0]) (C := RX0) (T := TX0) (N := 16) hx hb hts inlX0 tyX0 tyX0_ok hown (hts (.classLink RL 8 RX0) (by decide +kernel)) (hts (.instantiable RX0 16) (by decide +kernel)) (hts (.initialized RX0) (by decide +kernel)) hK hP hD hS hA rfl (fun j hj => by rcases (show j = 0 ∨ j = 1 ∨ j = 2 ∨ j = 3 ∨ j = 4 ∨ j = 5 ∨ j = 6 ∨ j = 7 ∨ j = 8 ∨ j = 9 ∨ j = 10 ∨ j = 11 ∨ j = 12 ∨ j = 13 ∨ j = 14 ∨ j = 15 by omega) with rfl | rfl | rfl | rfl | rfl | rfl | rfl | rfl | rfl | rfl | rfl | rfl | rfl | rfl | rfl | rfl <;> rfl) (Nat.le_of_ble_eq_true rfl) (Nat.le_of_ble_eq_true rfl) dL_law_0 (fun h H hP hD hS => ?_)
  have hP : va_P G vwCl ([] ++ [(h, .inr (0, [.null, .null, .null, .null, .null, .null, .null, .null, .null, .null, .null, .int 0, .int 0, .int 0, .int 0, .int 0]))]) H := hP
  have hD : va_D (lwA s) ([] ++ [(h, .inr (0, [.null, .null, .null, .null, .null, .null, .null, .null, .null, .null, .null, .int 0, .int 0, .int 0, .int 0, .int 0]))]) := hD
  refine lv_dup hx hb dL_law_3 rfl ?_
  refine w_pl_v (B := fun _ _ => True) (wr := []) (va_runI (As := []) (rest := [.ref h]) ⟨hx, hb, hml, hown, hts⟩ (c_X0_init l G h H.size) (cwI 0 hts gL_law_X0_init rfl rfl rfl (hts (.initialized RX0) (by decide +kernel)) (hts (.methodLink RL 106 yX0_init) (by decide +kernel)) (hts (.instanceMethod yX0_init) (by decide +kernel)) rfl (by decide +kernel) ⟨(Nat.le_of_ble_eq_true rfl), (Nat.le_of_ble_eq_true rfl)⟩) ⟨wPre_blind, w_preP (hK.sub [] rfl) hP hD [0] (by decide) rfl rfl⟩ rfl rfl hl.1 rfl (lv_room (Nat.le_of_ble_eq_true rfl)) dL_law_4 ⟨(Nat.le_of_ble_eq_true rfl), (Nat.le_of_ble_eq_true rfl)⟩) hP hD hS hA [0] [] rfl rfl (by decide) (by decide) (fun u H locs _ hu hP hD hS => ?_)
  obtain ⟨a, cI, cZ⟩ := u
  have hK1 : va_K G vwCl (ty2 cI cZ) s := hu
  have hP : va_P G vwCl (Dk cI cZ h a (fun _ _ => 0) 0 0 0 0 0) H := hP
  have hD : va_D (lwA s) (Dk cI cZ h a (fun _ _ => 0) 0 0 0 0 0) := hD
  refine lv_astore_n (lv' := [(1, .ref h), (0, .ref b)]) hx hb dL_law_7 rfl hl (by decide) rfl (fun ls hl => ?_)
  refine va_new (ci := 1) (fs := [.int 0, .int 0, .int 0, .int 0, .int 0, .int 0, .null, .null, .null, .null, .null, .null, .null, .null, .null, .null, .null, .null]) (C := RX1) (T := TX1) (N := 18) hx hb hts inlX1 tyX1 tyX1_ok hown (hts (.classLink RL 107 RX1) (by decide +kernel)) (hts (.instantiable RX1 18) (by decide +kernel)) (hts (.initialized RX1) (by decide +kernel)) hK hP hD hS hA rfl (fun j hj => by rcases (show j = 0 ∨ j = 1 ∨ j = 2 ∨ j = 3 ∨ j = 4 ∨ j = 5 ∨ j = 6 ∨ j = 7 ∨ j = 8 ∨ j = 9 ∨ j = 10 ∨ j = 11 ∨ j = 12 ∨ j = 13 ∨ j = 14 ∨ j = 15 ∨ j = 16 ∨ j = 17 by omega) with rfl | rfl | rfl | rfl | rfl | rfl | rfl | rfl | rfl | rfl | rfl | rfl | rfl | rfl | rfl | rfl | rfl | rfl <;> rfl) (Nat.le_of_ble_eq_true rfl) (Nat.le_of_ble_eq_true rfl) dL_law_8 (fun h2 H hP hD hS => ?_)
  have hP : va_P G vwCl (Dk cI cZ h a (fun _ _ => 0) 0 0 0 0 0 ++ [(h2, .inr (1, [.int 0, .int 0, .int 0, .int 0, .int 0, .int 0, .null, .null, .null, .null, .null, .null, .null, .null, .null, .null, .null, .null]))]) H := hP
  have hD : va_D (lwA s) (Dk cI cZ h a (fun _ _ => 0) 0 0 0 0 0 ++ [(h2, .inr (1, [.int 0, .int 0, .int 0, .int 0, .int 0, .int 0, .null, .null, .null, .null, .null, .null, .null, .null, .null, .null, .null, .null]))]) := hD
  refine lv_dup hx hb dL_law_11 rfl ?_
  refine w_pl_v (B := fun _ _ => True) (wr := Dk cI cZ h a (fun _ _ => 0) 0 0 0 0 0) (va_runI (As := []) (rest := [.ref h2]) ⟨hx, hb, hml, hown, hts⟩ (c_X1_init l G h2 H.size) (cwI 0 hts gL_law_X1_init rfl rfl rfl (hts (.initialized RX1) (by decide +kernel)) (hts (.methodLink RL 109 yX1_init) (by decide +kernel)) (hts (.instanceMethod yX1_init) (by decide +kernel)) rfl (by decide +kernel) ⟨(Nat.le_of_ble_eq_true rfl), (Nat.le_of_ble_eq_true rfl)⟩) ⟨wPre_blind, w_preP (hK.sub [] rfl) hP hD [12] (by decide) rfl rfl⟩ rfl rfl hl.1 rfl (lv_room (Nat.le_of_ble_eq_true rfl)) dL_law_12 ⟨(Nat.le_of_ble_eq_true rfl), (Nat.le_of_ble_eq_true rfl)⟩) hP hD hS hA [12] [0, 1, 2, 3, 4, 5, 6, 7, 8, 9, 10, 11] rfl rfl (by decide) (by decide) (fun v H locs _ hv hP hD hS => ?_)
  obtain ⟨a2, dI, dZ⟩ := v
  have hK2 : va_K G vwCl (ty2 dI dZ) s := hv
  have hP : va_P G vwCl (Dk cI cZ h a (fun _ _ => 0) 0 0 0 0 0 ++ Mk dI dZ h2 a2 (fun _ _ => 0) 0 0 0 0 0 0 (fun _ => 0)) H := hP
  have hD : va_D (lwA s) (Dk cI cZ h a (fun _ _ => 0) 0 0 0 0 0 ++ Mk dI dZ h2 a2 (fun _ _ => 0) 0 0 0 0 0 0 (fun _ => 0)) := hD
  refine lv_astore_n (lv' := [(2, .ref h2), (1, .ref h), (0, .ref b)]) hx hb dL_law_15 rfl hl (by decide) rfl (fun ls hl => ?_)
  refine lv_iconst (v := 1) hx hb dL_law_16 (by decide) ?_
  refine va_newa (atype := .long) (ty := .long) (a0 := (1, .inr (.inl (fun _ => 0)))) hx hb (hts (.arrayClass .long) (by decide +kernel)) rfl (hK1.app hK2) hP hD hS hA (fun cA => rfl) (by decide) (by decide) (Nat.le_of_ble_eq_true rfl) (Nat.le_of_ble_eq_true rfl) (Nat.le_of_ble_eq_true rfl) dL_law_17 (fun ao cL H hK3 hP hD hS => ?_)
  refine lv_astore_n (lv' := [(3, .ref ao), (2, .ref h2), (1, .ref h), (0, .ref b)]) hx hb dL_law_19 rfl hl (by decide) rfl (fun ls hl => ?_)
  refine lv_iconst (v := 0) hx hb dL_law_20 (by decide) ?_
  refine lv_istore (lv' := [(4, .int 0), (3, .ref ao), (2, .ref h2), (1, .ref h), (0, .ref b)]) hx hb dL_law_21 hl (by decide) rfl (fun ls hl => ?_)
  have C : lwC p l s m c G cI cZ dI dZ cL b L xs := ⟨hflags, hx, hb, hml, hown, hts, hK3, hX, hbl, hZ, hN⟩
  refine W.widen (k := 26 + 1000 * 0) (n := 447 + 10000 * 0) (Nat.le_of_ble_eq_true rfl) (Nat.le_of_ble_eq_true rfl) ?_
  exact law_loop C hr hlocks hL 513 0 (by omega) _ 0 0 0 0 0 0 (fun _ => 0) (fun _ => 0) H _ ls inv_0 hP hD hS (lv_sub hl [4, 3, 2, 1, 0] rfl)
end WST
