section BLD
section BL1
variable {p : Program} {l : Launch} {e : Env} {R : Room} {s : State} {m : MethodId} {args : Array Value} {below : List Frame} {meth : Method} {c : Code} {H : Heap} {locs : List Loc} {cells slots : Nat} {Q : State → Prop}
variable {cc : ByteArray} {pc : Nat} {ls : Array Slot} {rest st0 : List Value} {G : va_G} {tys tysC : List (ClassId × FieldType)} {ww wc wr wm : va_W} {A : Nat → Prop} {H0 : Heap} {mc ms : Nat} {aa : Array Value} {K : Nat}
theorem o_plv {S : Type} {post : S → Prop} {w1 : S → va_W} {tysU : S → List (ClassId × FieldType)} {K1 : Nat} (hr : va_Run p l e R s m args below meth c H locs cells slots mc ms (F0 m pc ls st0) rest (va_Qv post (fun u => oB G (tysU u) (w1 u) (va_A wc H.size) K1) (va_A wc H.size) aa) (va_A wc H.size))
    (hP : va_P G vwCl ww H) (hD : va_D A ww) (hS : va_S A H0 H locs) (hA : ∀ q : Nat, H0.size ≤ q → A q) (isC isR : List Nat) (hC : isC.map (fun i => ww[i]?) = wc.map some) (hR : isR.map (fun i => ww[i]?) = wr.map some) (hn : va_nd isR = true) (hdis : ∀ i ∈ isR, i ∉ isC)
    (kk : ∀ (u : S) (H1 : Heap) (locs1 : List Loc), post u → va_K G vwCl (tysU u) s → va_P G vwCl (wr ++ w1 u) H1 → va_D A (wr ++ w1 u) → va_S A H0 H1 locs1 → K1 ≤ slotSum H1 → W p l e R s m args below meth c H1 locs1 (cells + mc) (slots + ms) Q (F0 m (pc + 3) ls rest)) : W p l e R s m args below meth c H locs cells slots Q (F0 m pc ls st0) := by
  have hF := va_free hD hS hA isC hC
  refine va_callv hr hS (fun q _ h => hF q h) hF (fun u t H1 locs1 ht hvm hw hB hz hk hS1 => ?_)
  obtain ⟨⟨hP1, hK1, hD1⟩, hM1⟩ := hB
  rw [ht] at hP1 hM1
  obtain ⟨hP2, hD2⟩ := va_join (wr := wr) (w1 := w1 u) hP hD isC isR hC hR hn hdis hk hF hP1 hD1
  exact kk u H1 locs1 hw (va_K.moved hvm.symm hK1) hP2 hD2 hS1 hM1
/-- a call that has a part of the world and the pool -/
theorem o_pp {S : Type} {post : Int32 → S → Prop} {rx pl1 : S → va_W} {K1 : Nat} {X cx pl : va_W} (hr : va_Run p l e R s m args below meth c H locs cells slots mc ms (F0 m pc ls st0) rest (va_Qi post (fun u => oB G tysC (rx u ++ pl1 u) (va_A (cx ++ pl) H.size) K1) (va_A (cx ++ pl) H.size) aa) (va_A (cx ++ pl) H.size))
    (hP : va_P G vwCl (X ++ pl) H) (hD : va_D A (X ++ pl)) (hS : va_S A H0 H locs) (hA : ∀ q : Nat, H0.size ≤ q → A q) (isC isR : List Nat) (hC : isC.map (fun i => X[i]?) = cx.map some) (hR : isR.map (fun i => X[i]?) = wr.map some) (hn : va_nd isR = true) (hdis : ∀ i ∈ isR, i ∉ isC)
    (kk : ∀ (r : Int32) (u : S) (H1 : Heap) (locs1 : List Loc), post r u → va_P G vwCl ((wr ++ rx u) ++ pl1 u) H1 → va_D A ((wr ++ rx u) ++ pl1 u) → va_S A H0 H1 locs1 → K1 ≤ slotSum H1 → W p l e R s m args below meth c H1 locs1 (cells + mc) (slots + ms) Q (F0 m (pc + 3) ls (.int r :: rest))) : W p l e R s m args below meth c H locs cells slots Q (F0 m pc ls st0) := by
  have hF := va_freeP hD hS hA isC hC
  refine va_calli hr hS (fun q _ h => hF q h) hF (fun r u t H1 locs1 ht hvm hw hB hz hk hS1 => ?_)
  obtain ⟨⟨hP1, hK1, hD1⟩, hM1⟩ := hB
  rw [ht] at hP1 hM1
  obtain ⟨hP2, hD2⟩ := va_joinP (wr := wr) (rx := rx u) (pl1 := pl1 u) hP hD isC isR hC hR hn hdis hk hF hP1 hD1
  exact kk r u H1 locs1 hw hP2 hD2 hS1 hM1
end BL1
theorem o_apart2 {A : Nat → Prop} {Y Z pl : va_W} (hD : va_D A ((Y ++ Z) ++ pl)) : ∀ (k : Nat) (q : Nat × va_E), Y[k]? = some q → ∀ (j : Nat) (x : va_E), (Z ++ pl)[j]? ≠ some (q.1, x) := by
  intro k q hk j x hj
  rw [List.append_assoc] at hD
  have hl := (List.getElem?_eq_some_iff.mp hk).1
  have h1 : (Y ++ (Z ++ pl))[k]? = some q := by rw [List.getElem?_append_left hl]; exact hk
  have h2 : (Y ++ (Z ++ pl))[Y.length + j]? = some (q.1, x) := by rw [List.getElem?_append_right (by omega), Nat.add_sub_cancel_left]; exact hj
  have := hD.1 k (Y.length + j) q (q.1, x) h1 h2 rfl
  omega
theorem o_preI {s : State} {H : Heap} {G : va_G} {cI cZ : ClassId} {hs K : Nat} {A : Nat → Prop} {vs : List Value} (hM : K ≤ slotSum H) (hK : va_K G vwCl (ty2 cI cZ) s) (hAO : va_AOA .int s) (hP : va_P G vwCl (siZ hs) H) (hD : va_D A (siZ hs)) : ∀ U : State, U.heap = H → s.WarmedH U.vm → va_Pc vs (oPreI G cI cZ hs H.size K) vs.toArray U :=
  fun U hU hW => ⟨(o_pre (vs := vs) hM hK hP w_P0 hD (fun _ _ h => by simp at h) U hU hW).1, (o_pre (vs := vs) hM hK hP w_P0 hD (fun _ _ h => by simp at h) U hU hW).2, va_AOA.moved hW.alike hAO⟩
/-- the script's cells, shifted -/
def o_xk (xs : Nat → Int32) (k : Nat) : Int32 := xs (k % 16) >>> (nI (k / 16 * 3) &&& 31) + nI (523 * k)
abbrev BW : Type := (Nat × Nat × Nat × Nat) × (((Nat → Nat) × (Nat → Nat) × List Nat) × (ClassId × AC))
abbrev WBx (cI cZ : ClassId) (hc : Nat) (a : Nat → Nat) (w : BW) (T Q O P : Nat) : va_W := [OA w.2.2.1 w.1.2.1 w.2.1.1, PA w.2.2.1 w.1.2.2.1 w.2.1.2.1] ++ (SM w.1.1 w.1.2.1 w.1.2.2.1 w.1.2.2.2 (nI (T / 48)) (nI (T % 48)) Q O P :: Dk cI cZ hc a w.2.2.2.1 Q O P 0 w.2.2.2.2.1)
abbrev WB (cI cZ : ClassId) (hc : Nat) (a : Nat → Nat) (w : BW) (T Q O P : Nat) : va_W := WBx cI cZ hc a w T Q O P ++ va_pl w.2.1.2.2 w.2.2.2.2.2
def BQ (cI : ClassId) (O P : Nat) (w : BW) : Prop := CI w.2.2.2.1 P ∧ OR cI w.2.1.1 w.2.1.2.1 w.2.1.2.2 w.2.2.2.2.2 O
/-- a run of things done, told by numbers -/
def ORun (x : Nat → Int32) (N : Nat) (qf of1 pf tf mf : Nat → Nat) : Prop :=
  (∀ k, k < N → ∃ d, o_step (x k) (qf k) (of1 k) (pf k) (tf k) = some ((qf (k + 1), of1 (k + 1), pf (k + 1), tf (k + 1)), d) ∧ mf (k + 1) = mf k + d) ∧ ∀ k, k ≤ N → qf k ≤ 6 ∧ of1 k ≤ 10 ∧ pf k ≤ 20 ∧ tf k < 1000000
def oPreA (G : va_G) (tys : List (ClassId × FieldType)) (wm wr : va_W) (sz K : Nat) (U : State) : Prop := oPre G tys wm wr sz K U ∧ va_AOA .int U ∧ va_Nw (.methodLinkNest RL 93 yX1_init RL) U
theorem oPreA_blind {G : va_G} {tys : List (ClassId × FieldType)} {wm wr : va_W} {sz K : Nat} {vs : List Value} : FrameBlind (va_Pc vs (oPreA G tys wm wr sz K)) := by
  intro a U g mk q
  obtain ⟨h1, h2, h3, h5⟩ := q
  have h4 := oPre_blind (vs := vs) a U g mk ⟨h1, h2⟩
  exact ⟨h4.1, h4.2, va_AOA.moved (u := U) (U := U.calling g mk a) (Vm.Alike.refl U.vm) h3, va_Nw.same (u := U) (U := U.calling g mk a) rfl rfl h5⟩
theorem wb_in : ∀ w ∈ wsX10, w ∈ wsL_build := by decide +kernel
set_option maxHeartbeats 16000000 in
set_option maxRecDepth 100000 in
theorem c_L_build (l : Launch) (G : va_G) (cI cZ : ClassId) (hc : Nat) (a : Nat → Nat) (b : Nat) (xs : Nat → Int32) (qf of1 pf tf mf : Nat → Nat) (sz K : Nat) (hN : 24 + onb (xs 0) 44 = 67) (h0 : qf 0 = 0 ∧ of1 0 = 0 ∧ pf 0 = 0 ∧ tf 0 = 0 ∧ mf 0 = 0) (hrun : ORun (o_xk xs) 67 qf of1 pf tf mf) :
    Met l yL_build wsL_build ({ frames := 7, cells := 549434, slots := 10854313, locals := 172 } : Room) (va_Pc [.ref hc, .ref b] (oPreA G (ty2 cI cZ) (Dk cI cZ hc a (fun _ _ => 0) 0 0 0 0 0) [(b, .inl (cI, 16, .inl xs))] sz K)) (va_Qq (fun (r : Option Nat) (u : Option BW) => (u = none ∧ r = none) ∨ ∃ w : BW, u = some w ∧ r = some w.1.1 ∧ BQ cI (of1 67) (pf 67) w) (fun u t => ∀ w : BW, u = some w → oB G (ty3 cI cZ w.2.2.1) (WB cI cZ hc a w (tf 67) (qf 67) (of1 67) (pf 67)) (va_A (Dk cI cZ hc a (fun _ _ => 0) 0 0 0 0 0) sz) (K + mf 67) t) (va_A (Dk cI cZ hc a (fun _ _ => 0) 0 0 0 0 0) sz)) 549434 10854313 (va_A (Dk cI cZ hc a (fun _ _ => 0) 0 0 0 0 0) sz) := by
  refine Met.ofW (cc := cL_build) (maxL := 5) (ret := (some (.object "CurfewDeskLaw$Sim"))) (by decide) rfl ?_
  intro pg e s m args below meth cd s₁ B hml hv
  obtain ⟨rfl, ⟨hsz, hM, hP, hR, hK, hD0, hx0⟩, hAO, hNX⟩ := hv
  have hts := atoms_spec (ws := wsL_build) B.pre
  have hl := lv_entry [.ref hc, .ref b] (n := 5) (Nat.le_of_ble_eq_true rfl)
  rw [lg_entry_eq]
  generalize (lg_sl [.ref hc, .ref b] ++ List.replicate (5 - (lg_sl [.ref hc, .ref b]).length) Slot.unset).toArray = ls at hl ⊢
  have hx := B.exec
  have hb := B.bytes
  have hr := B.returns
  have hlocks := B.notSynchronized
  have hown : s.vm.findClass RL = some m.cls := findClass_of_methodNamed B.named
  have hD := hD0.self (sz := sz)
  have hA : ∀ q : Nat, s.heap.size ≤ q → va_A (Dk cI cZ hc a (fun _ _ => 0) 0 0 0 0 0) sz q := fun q h => Or.inr (by rw [← hsz]; exact h)
  have hS : va_S (va_A (Dk cI cZ hc a (fun _ _ => 0) 0 0 0 0 0) sz) s.heap s.heap [] := va_S.rf
  have hro : ∀ (k : Nat) (q : Nat × va_E), ([(b, .inl (cI, 16, .inl xs))] : va_W)[k]? = some q → ¬ va_A (Dk cI cZ hc a (fun _ _ => 0) 0 0 0 0 0) sz q.1 := fun k q hk h => by
    rcases h with ⟨j, x, hj⟩ | h
    · exact hx0 k q hk j x hj
    · have := (hR k q hk).lt
      omega
  have hl : lv_has ls 5 [(0, .ref hc), (1, .ref b)] := hl
  generalize hAe : va_A (Dk cI cZ hc a (fun _ _ => 0) 0 0 0 0 0) sz = A at hD hA hS hro ⊢
  refine W_up hM (va_new (ci := 1) (fs := [.int 0, .int 0, .int 0, .int 0, .int 0, .int 0, .null, .null, .null]) (own := RL) (C := RX1) (T := TX1) (N := 9) hx hb hts wb_in tyX1 tyX1_ok hown (hts (.classLink RL 16 RX1) (by decide +kernel)) (hts (.instantiable RX1 9) (by decide +kernel)) (hts (.initialized RX1) (by decide +kernel)) hK hP hD hS hA rfl (fun j hj => by rcases (show j = 0 ∨ j = 1 ∨ j = 2 ∨ j = 3 ∨ j = 4 ∨ j = 5 ∨ j = 6 ∨ j = 7 ∨ j = 8 by omega) with rfl | rfl | rfl | rfl | rfl | rfl | rfl | rfl | rfl <;> rfl) (Nat.le_of_ble_eq_true rfl) (Nat.le_of_ble_eq_true rfl) dL_build_0 (fun hs H hP hD hS => W_dn (fun hM => ?_)))
  have hP : va_P G vwCl ((Dk cI cZ hc a (fun _ _ => 0) 0 0 0 0 0) ++ siZ hs) H := hP
  have hD : va_D A ((Dk cI cZ hc a (fun _ _ => 0) 0 0 0 0 0) ++ siZ hs) := hD
  refine lv_dup hx hb dL_build_3 rfl ?_
  refine o_plv (wr := (Dk cI cZ hc a (fun _ _ => 0) 0 0 0 0 0)) (va_runIN (As := []) (rest := [.ref hs]) ⟨hx, hb, hml, hown, hts⟩ (c_X1_init l G cI cZ hs H.size K) ⟨va_cnB 0 hts gL_build_X1_init_n93 rfl rfl rfl hNX (hts (.initialized RX1) (by decide +kernel)) (by decide +kernel) ⟨(Nat.le_of_ble_eq_true rfl), (Nat.le_of_ble_eq_true rfl)⟩, rfl, hts (.instanceMethod yX1_init) (by decide +kernel)⟩ ⟨oPreI_blind, o_preI hM hK hAO (hP.sub [12] rfl) (hD.sub [12] (by decide) rfl)⟩ rfl rfl hl.1 rfl (lv_room (Nat.le_of_ble_eq_true rfl)) dL_build_4 ⟨(Nat.le_of_ble_eq_true rfl), (Nat.le_of_ble_eq_true rfl)⟩) hP hD hS hA [12] [0, 1, 2, 3, 4, 5, 6, 7, 8, 9, 10, 11] rfl rfl (by decide) (by decide) (fun u H locs hu hK hP hD hS hM => ?_)
  obtain ⟨⟨cR, ao, ap, au⟩, ro, rp, L, f⟩ := u
  have hK3 : va_K G vwCl (ty3 cI cZ cR) s := hK
  have hP : va_P G vwCl (((Dk cI cZ hc a (fun _ _ => 0) 0 0 0 0 0) ++ [SM hs ao ap au 0 0 0 0 0, OA cR ao ro, PA cR ap rp]) ++ va_pl L f) H := hP
  have hD : va_D A (((Dk cI cZ hc a (fun _ _ => 0) 0 0 0 0 0) ++ [SM hs ao ap au 0 0 0 0 0, OA cR ao ro, PA cR ap rp]) ++ va_pl L f) := hD
  have hP : va_P G vwCl (WB cI cZ hc a ((hs, ao, ap, au), (ro, rp, L), (cR, (fun _ _ => 0, 0, f))) 0 0 0 0) H := hP.part [13, 14, 12, 0, 1, 2, 3, 4, 5, 6, 7, 8, 9, 10, 11] rfl
  have hD : va_D A (WB cI cZ hc a ((hs, ao, ap, au), (ro, rp, L), (cR, (fun _ _ => 0, 0, f))) 0 0 0 0) := hD.part [13, 14, 12, 0, 1, 2, 3, 4, 5, 6, 7, 8, 9, 10, 11] (by decide) rfl
  refine lv_astore_n (lv' := [(2, .ref hs), (0, .ref hc), (1, .ref b)]) hx hb dL_build_7 rfl hl (by decide) rfl (fun ls hl => ?_)
  refine lv_bipush (v := nI 24) hx hb dL_build_8 (by decide) ?_
  refine lv_aload_n hx hb dL_build_10 rfl (lv_at hl 2 rfl) ?_
  refine lv_iconst (v := nI 0) hx hb dL_build_11 (by decide) ?_
  refine o_in (va_runS (As := [.ref b, .int (nI 0)]) (rest := [.int (nI 24)]) ⟨hx, hb, hml, hown, hts⟩ (c_L_cell l G cI b 16 xs H.size K 0 (by omega) (by decide)) (va_cwS 2 hts gL_build_L_cell rfl rfl rfl (by decide +kernel) ⟨(Nat.le_of_ble_eq_true rfl), (Nat.le_of_ble_eq_true rfl)⟩) ⟨oPre_blind, o_pre hM (hK3.sub [0] rfl) w_P0 (o_keep hR hro hS) (w_D0 (A := A)) o_x0⟩ rfl rfl hl.1 rfl (lv_room (Nat.le_of_ble_eq_true rfl)) dL_build_12 ⟨(Nat.le_of_ble_eq_true rfl), (Nat.le_of_ble_eq_true rfl)⟩) hP hS hA (fun r12 u12 H locs hw12 hP hS hM => ?_)
  subst hw12
  refine lv_bipush (v := nI 44) hx hb dL_build_15 (by decide) ?_
  refine o_st (va_runS (As := [.int (xs 0), .int (nI 44)]) (rest := [.int (nI 24)]) ⟨hx, hb, hml, hown, hts⟩ (c_L_below l G _ (xs 0) 44 (by omega) (by omega)) (va_cwS 2 hts gL_build_L_below rfl rfl rfl (by decide +kernel) ⟨(Nat.le_of_ble_eq_true rfl), (Nat.le_of_ble_eq_true rfl)⟩) ⟨wPre_blind, w_pre (hK.sub [] rfl) w_P0 (w_D0 (A := A))⟩ rfl rfl hl.1 rfl (lv_room (Nat.le_of_ble_eq_true rfl)) dL_build_17 ⟨(Nat.le_of_ble_eq_true rfl), (Nat.le_of_ble_eq_true rfl)⟩) hM hP hS hA (fun r17 u17 H locs hw17 hP hS hM => ?_)
  subst hw17
  refine lv_iadd hx hb dL_build_20 ?_
  rw [nI_add, hN]
  refine lv_istore_n (lv' := [(3, .int (nI 67)), (2, .ref hs), (0, .ref hc), (1, .ref b)]) hx hb dL_build_21 rfl hl (by decide) rfl (fun ls hl => ?_)
  refine lv_iconst (v := nI 0) hx hb dL_build_22 (by decide) ?_
  refine lv_istore (lv' := [(4, .int (nI 0)), (3, .int (nI 67)), (2, .ref hs), (0, .ref hc), (1, .ref b)]) hx hb dL_build_23 hl (by decide) rfl (fun ls hl => ?_)
  have key : ∀ (n k : Nat), k ≤ 67 → 67 < k + n → ∀ (F : Nat → Nat → Int32) (nw : Int32) (f : Nat → va_E), CI F (pf k) → OR cI ro rp L f (of1 k) → ∀ (H : Heap) (locs : List Loc), va_P G vwCl (WB cI cZ hc a ((hs, ao, ap, au), (ro, rp, L), (cR, (F, nw, f))) (tf k) (qf k) (of1 k) (pf k)) H → va_D A (WB cI cZ hc a ((hs, ao, ap, au), (ro, rp, L), (cR, (F, nw, f))) (tf k) (qf k) (of1 k) (pf k)) → va_S A s.heap H locs → K + mf k ≤ slotSum H → ∀ ls : Array Slot, lv_has ls 5 [(4, .int (nI k)), (3, .int (nI 67)), (2, .ref hs), (0, .ref hc), (1, .ref b)] → W pg l e ({ frames := 7, cells := 549434, slots := 10854313, locals := 172 } : Room) s m ([.ref hc, .ref b] : List Value).toArray below meth cd H locs (34 + 8200 * k) (313 + 162000 * k) (MQ below (va_Qq (fun (r : Option Nat) (u : Option BW) => (u = none ∧ r = none) ∨ ∃ w : BW, u = some w ∧ r = some w.1.1 ∧ BQ cI (of1 67) (pf 67) w) (fun u t => ∀ w : BW, u = some w → oB G (ty3 cI cZ w.2.2.1) (WB cI cZ hc a w (tf 67) (qf 67) (of1 67) (pf 67)) A (K + mf 67) t) A) ([.ref hc, .ref b] : List Value).toArray s 549434 10854313 A) (F0 m 25 ls []) := by
    intro n
    induction n with
    | zero => intro k h1 h2; exact absurd h2 (by omega)
    | succ n ih =>
      intro k hi hn F nw f hF hrow H locs hP hD hS hM ls hl
      refine lv_iload hx hb dL_build_25 (lv_at hl 0 rfl) ?_
      refine lv_iload_n hx hb dL_build_27 rfl (lv_at hl 1 rfl) ?_
      refine lv_icmp_ge (tgt := 71) hx hb dL_build_28 (by decide) (fun c9 => ?_) (fun c9 => ?_)
      · have h9 : 67 ≤ k := (nI_leI (by omega) (by omega)).mp c9
        have ei : k = 67 := by omega
        subst ei
        refine lv_aload_n hx hb dL_build_71 rfl (lv_at hl 2 rfl) ?_
        refine W.widen (k := 549434) (n := 10854313) (by omega) (by omega) ?_
        exact W.aret (v := .ref hs) hx hb hr (Or.inl ⟨_, rfl⟩) (Or.inr ⟨_, rfl⟩) (fun t ht hW => ⟨⟨some hs, some ((hs, ao, ap, au), (ro, rp, L), (cR, (F, nw, f))), rfl, Or.inr ⟨_, rfl, rfl, hF, hrow⟩, fun w hw => by
          cases hw
          exact ⟨⟨by rw [ht]; exact hP, va_K.moved hW.alike hK3, hD⟩, by rw [ht]; exact hM⟩⟩, hS.F ht⟩) hS.2.2 dL_build_72 hlocks
      · have h9 : k < 67 := o_ge c9 (by omega) (by omega)
        obtain ⟨dl, hst, hmf⟩ := hrun.1 k h9
        obtain ⟨b1, b2, b3, b4⟩ := hrun.2 k hi
        refine lv_aload_n hx hb dL_build_31 rfl (lv_at hl 3 rfl) ?_
        refine lv_aload_n hx hb dL_build_32 rfl (lv_at hl 2 rfl) ?_
        refine lv_aload_n hx hb dL_build_33 rfl (lv_at hl 4 rfl) ?_
        refine lv_iload hx hb dL_build_34 (lv_at hl 0 rfl) ?_
        refine lv_bipush (v := nI 16) hx hb dL_build_36 (by decide) ?_
        refine lv_irem hx hb dL_build_38 (by decide) ?_
        rw [o_rem (m := k) (n := 16) (by omega) (by decide)]
        refine o_in (va_runS (As := [.ref b, .int (nI (k % 16))]) (rest := [.ref hs, .ref hc]) ⟨hx, hb, hml, hown, hts⟩ (c_L_cell l G cI b 16 xs H.size (K + mf k) (k % 16) (Nat.mod_lt _ (by decide)) (by decide)) (va_cwS 2 hts gL_build_L_cell rfl rfl rfl (by decide +kernel) ⟨(Nat.le_of_ble_eq_true rfl), (Nat.le_of_ble_eq_true rfl)⟩) ⟨oPre_blind, o_pre hM (hK3.sub [0] rfl) w_P0 (o_keep hR hro hS) (w_D0 (A := A)) o_x0⟩ rfl rfl hl.1 rfl (lv_room (Nat.le_of_ble_eq_true rfl)) dL_build_39 ⟨by dsimp only; omega, by dsimp only; omega⟩) hP hS hA (fun r39 u39 H locs hw39 hP hS hM => ?_)
        subst hw39
        refine lv_iload hx hb dL_build_42 (lv_at hl 0 rfl) ?_
        refine lv_bipush (v := nI 16) hx hb dL_build_44 (by decide) ?_
        refine lv_idiv hx hb dL_build_46 (by decide) ?_
        rw [o_div (m := k) (n := 16) (by omega) (by decide)]
        refine lv_iconst (v := nI 3) hx hb dL_build_47 (by decide) ?_
        refine lv_imul hx hb dL_build_48 ?_
        rw [pk_mul]
        refine lv_ishr hx hb dL_build_49 ?_
        refine lv_sipush (v := nI 523) hx hb dL_build_50 (by decide) ?_
        refine lv_iload hx hb dL_build_53 (lv_at hl 0 rfl) ?_
        refine lv_imul hx hb dL_build_55 ?_
        rw [pk_mul]
        refine lv_iadd hx hb dL_build_56 ?_
        rw [show xs (k % 16) >>> (nI (k / 16 * 3) &&& 31) + nI (523 * k) = o_xk xs k from rfl]
        have hPm : va_P G vwCl (((SM hs ao ap au (nI (tf k / 48)) (nI (tf k % 48)) (qf k) (of1 k) (pf k)) :: (Dk cI cZ hc a F (qf k) (of1 k) (pf k) 0 nw)) ++ va_pl L f) H := hP.part [2, 3, 4, 5, 6, 7, 8, 9, 10, 11, 12, 13, 14] rfl
        have hDm : va_D A (((SM hs ao ap au (nI (tf k / 48)) (nI (tf k % 48)) (qf k) (of1 k) (pf k)) :: (Dk cI cZ hc a F (qf k) (of1 k) (pf k) 0 nw)) ++ va_pl L f) := hD.part [2, 3, 4, 5, 6, 7, 8, 9, 10, 11, 12, 13, 14] (by decide) rfl
        refine o_pp (X := [OA cR ao ro, PA cR ap rp] ++ ((SM hs ao ap au (nI (tf k / 48)) (nI (tf k % 48)) (qf k) (of1 k) (pf k)) :: (Dk cI cZ hc a F (qf k) (of1 k) (pf k) 0 nw))) (cx := (SM hs ao ap au (nI (tf k / 48)) (nI (tf k % 48)) (qf k) (of1 k) (pf k)) :: (Dk cI cZ hc a F (qf k) (of1 k) (pf k) 0 nw)) (pl := va_pl L f) (wr := [OA cR ao ro, PA cR ap rp]) (rx := fun u : AC => (SM hs ao ap au (nI (tf (k + 1) / 48)) (nI (tf (k + 1) % 48)) (qf (k + 1)) (of1 (k + 1)) (pf (k + 1))) :: (Dk cI cZ hc a u.1 (qf (k + 1)) (of1 (k + 1)) (pf (k + 1)) 0 u.2.1)) (pl1 := fun u : AC => va_pl L u.2.2) (va_runS (As := [.ref hc, .ref hs, .int (o_xk xs k)]) (rest := []) ⟨hx, hb, hml, hown, hts⟩ (c_L_act l G cI cZ cR hc a F nw hs ao ap au ro rp L f (qf k) (of1 k) (pf k) (tf k) (qf (k + 1)) (of1 (k + 1)) (pf (k + 1)) (tf (k + 1)) dl H.size (K + mf k) (o_xk xs k) b1 b2 b3 b4 hst hF hrow) (va_cwS 3 hts gL_build_L_act rfl rfl rfl (by decide +kernel) ⟨(Nat.le_of_ble_eq_true rfl), (Nat.le_of_ble_eq_true rfl)⟩) ⟨oPre_blind, o_pre hM hK3 hPm (hP.sub [0, 1] rfl) hDm (o_apart2 hD)⟩ rfl rfl hl.1 rfl (lv_room (Nat.le_of_ble_eq_true rfl)) dL_build_57 ⟨by dsimp only; omega, by dsimp only; omega⟩) hP hD hS hA [2, 3, 4, 5, 6, 7, 8, 9, 10, 11, 12, 13, 14] [0, 1] rfl rfl (by decide) (by decide) (fun r57 u H locs hw57 hP hD hS hM => ?_)
        obtain ⟨-, hF1, hrow1⟩ := hw57
        obtain ⟨F1, nw1, f1⟩ := u
        refine lv_if_ne (tgt := 65) hx hb dL_build_60 (by decide) (fun c8 => ?_) (fun c8 => ?_)
        · refine lv_iinc (v := nI k + 1) (lv' := [(4, .int (nI k + 1)), (3, .int (nI 67)), (2, .ref hs), (0, .ref hc), (1, .ref b)]) hx hb dL_build_65 hl (k := 0) rfl rfl (by decide) rfl (fun ls hl => ?_)
          refine lv_goto (tgt := 25) hx hb dL_build_68 (by decide) ?_
          rw [nI_1] at hl
          exact W.widen (by omega) (by omega) (ih (k + 1) (by omega) (by omega) F1 nw1 f1 hF1 hrow1 H locs hP hD hS (by rw [hmf]; omega) ls hl)
        · refine lv_null hx hb dL_build_63 ?_
          refine W.widen (k := 549434) (n := 10854313) (by omega) (by omega) ?_
          exact W.aret (v := .null) hx hb hr (Or.inl ⟨_, rfl⟩) (Or.inl rfl) (fun t ht hW => ⟨⟨none, none, rfl, Or.inl ⟨rfl, rfl⟩, fun w hw => by cases hw⟩, hS.F ht⟩) hS.2.2 dL_build_64 hlocks
  obtain ⟨z1, z2, z3, z4, z5⟩ := h0
  have hF0 : CI (fun _ _ => 0) (pf 0) := ⟨fun k hk => by rw [z3] at hk; omega, fun _ => Or.inl rfl⟩
  have hrow0 : OR cI ro rp L f (of1 0) := ⟨fun i hi => by rw [z2] at hi; omega, hu⟩
  exact W.widen (by omega) (by omega) (key 68 0 (by omega) (by omega) (fun _ _ => 0) 0 f hF0 hrow0 H locs (by rw [z1, z2, z3, z4]; exact hP) (by rw [z1, z2, z3, z4]; exact hD) hS (by rw [z5]; exact hM) ls hl)
end BLD
