section STE
theorem o_pwi {a k n : Nat} (h1 : a ≤ k) (h2 : k ≤ n) (hn : n < 2 ^ 31 := by decide) : p_wi (nI k) (nI a) (nI n) = true := by
  simp only [p_wi, Bool.and_eq_true, decide_eq_true_eq]
  exact ⟨nI_le h1 (by omega), nI_le h2 hn⟩
theorem o_pwi4 {k : Nat} (h : k ≤ 4) : p_wi (nI k) 0 4 = true := o_pwi (a := 0) (n := 4) (by omega) h
/-- the law's below, over counted numbers -/
def onb (v : Int32) (n : Nat) : Nat := (v.toBitVec.toNat &&& 2147483647) % n
theorem onb_lt {v : Int32} {n : Nat} (h : 0 < n) : onb v n < n := Nat.mod_lt _ h
theorem o_and2 (v : Int32) : v.toBitVec.toNat &&& 2147483647 < 2 ^ 31 ∧ v &&& 2147483647 = nI (v.toBitVec.toNat &&& 2147483647) := by
  have h1 := @Nat.and_le_right v.toBitVec.toNat 2147483647
  refine ⟨by omega, Int32.toInt_inj.mp ?_⟩
  rw [nI_toInt (by omega)]
  show (v.toBitVec &&& 2147483647#32).toInt = _
  have e : (v.toBitVec &&& 2147483647#32).toNat = (v.toBitVec.toNat &&& 2147483647) := by rw [BitVec.toNat_and]; rfl
  rw [BitVec.toInt_eq_toNat_of_lt (by rw [e]; omega), e]
theorem ob_onb (v : Int32) {n : Nat} (hn : n < 2 ^ 31) : ob v (nI n) = nI (onb v n) := by
  obtain ⟨h1, h2⟩ := o_and2 v
  rw [ob, h2, o_rem h1 hn]
  rfl
set_option maxHeartbeats 4000000 in
set_option maxRecDepth 100000 in
theorem c_L_below (l : Launch) (G : va_G) (sz : Nat) (v : Int32) (n : Nat) (h0 : 0 < n) (hn : n < 2 ^ 31) : Met l yL_below wsL_below ({ frames := 0, cells := 0, slots := 0, locals := 0 } : Room) (va_Pc [.int v, .int (nI n)] (wPre G [] [] sz)) (va_Qi (fun (r : Int32) (_ : Unit) => r = nI (onb v n)) (fun _ => wP G [] [] (va_A [] sz)) (va_A [] sz)) 0 0 (va_A [] sz) := by
  refine w_met (cc := cL_below) (maxL := 2) (ret := (some .int)) (by decide) rfl (Nat.le_of_ble_eq_true rfl) ?_
  intro pg e s m below meth cd hx hb hml hr hts hown hlocks hnm hK hsz hP hD hA hS ls hl
  have hown : s.vm.findClass RL = some m.cls := hown
  have hl : lv_has ls 2 [(0, .int v), (1, .int (nI n))] := hl
  generalize hAe : va_A [] sz = A at hD hA hS ⊢
  refine lv_iload_n hx hb dL_below_0 rfl (lv_at hl 0 rfl) ?_
  refine lv_ldc (v := 2147483647) hx hb hown (hts _ (List.mem_cons_of_mem _ List.mem_cons_self)) dL_below_1 ?_
  refine lv_iand hx hb dL_below_3 ?_
  refine lv_iload_n hx hb dL_below_4 rfl (lv_at hl 1 rfl) ?_
  refine lv_irem hx hb dL_below_5 (nI_ne0 h0 hn) ?_
  exact w_iret () hx hb hr hlocks hK hP hD hS (Nat.le_of_ble_eq_true rfl) (Nat.le_of_ble_eq_true rfl) dL_below_6 (show (v &&& 2147483647) - (v &&& 2147483647) / nI n * nI n = nI (onb v n) from ob_onb v hn)
set_option maxHeartbeats 4000000 in
set_option maxRecDepth 100000 in
theorem c_L_cell (l : Launch) (G : va_G) (cI : ClassId) (b N : Nat) (xs : Nat → Int32) (sz K k : Nat) (hk : k < N) (hN : N < 2 ^ 31) : Met l yL_cell wsL_cell ({ frames := 0, cells := 0, slots := 0, locals := 0 } : Room) (va_Pc [.ref b, .int (nI k)] (oPre G [(cI, .int)] [] [(b, .inl (cI, N, .inl xs))] sz K)) (va_Qi (fun (r : Int32) (_ : Unit) => r = xs k) (fun _ => oB G [(cI, .int)] [] (va_A [] sz) K) (va_A [] sz)) 0 0 (va_A [] sz) := by
  refine o_met (cc := cL_cell) (maxL := 2) (ret := (some .int)) (by decide) rfl (Nat.le_of_ble_eq_true rfl) ?_
  intro pg e s m below meth cd hx hb hml hr hts hown hlocks hnm hK hM hP hro hsz _ hD hA hS ls hl
  have hl : lv_has ls 2 [(0, .ref b), (1, .int (nI k))] := hl
  generalize hAe : va_A [] sz = A at hD hA hS ⊢
  refine lv_iload_n hx hb dL_cell_0 rfl (lv_at hl 1 rfl) ?_
  refine lv_aload_n hx hb dL_cell_1 rfl (lv_at hl 0 rfl) ?_
  refine va_alen hx hb hK hP 0 0 rfl rfl (v := nI N) rfl dL_cell_2 ?_
  refine lv_icmp_ge (tgt := 12) hx hb dL_cell_3 (by decide) (fun c3 => absurd ((nI_leI (by omega) (by omega)).mp c3) (by omega)) (fun c3 => ?_)
  refine lv_aload_n hx hb dL_cell_6 rfl (lv_at hl 0 rfl) ?_
  refine lv_iload_n hx hb dL_cell_7 rfl (lv_at hl 1 rfl) ?_
  refine w_iald (f := xs) (j := k) hx hb hK hP 0 0 rfl rfl hk (by omega) dL_cell_8 ?_
  refine lv_goto (tgt := 18) hx hb dL_cell_9 (by decide) ?_
  exact o_iret (w1 := fun _ => []) () hx hb hr hlocks hK hM w_P0 w_D0 hS (Nat.le_of_ble_eq_true rfl) (Nat.le_of_ble_eq_true rfl) dL_cell_18 rfl
/-! what a thing done is, told by numbers alone: quarters, orders, people, half hours gone by; and what it weighs at least -/
def o_sort (x : Int32) : Nat := onb (x >>> (9 &&& 31)) 24
def o_hn (x : Int32) : Nat := if onb x 5 = 0 then 200 else 12
def o_hv (x : Int32) : Nat := 1 + onb (x >>> (2 &&& 31)) (o_hn x)
def o_gs (O T : Nat) : Nat → Nat
  | 0 => 0
  | n + 1 => o_gs O T n + o_pc O (T + n)
def o_step (x : Int32) (Q O P T : Nat) : Option ((Nat × Nat × Nat × Nat) × Nat) :=
  if Q = 0 ∨ o_sort x = 0 then (if Q = 6 then some ((Q, O, P, T), 0) else some ((Q + 1, O, P, T), 0))
  else if o_sort x < 4 ∨ P = 0 then (if P = 20 then some ((Q, O, P, T), 0) else some ((Q, O, P + 1, T), 0))
  else if o_sort x < 7 ∨ O = 0 then (if O = 10 then some ((Q, O, P, T), 0) else some ((Q, O + 1, P, T), 0))
  else if 18 ≤ o_sort x then some ((Q, O, P, T + o_hv x), o_gs O T (o_hv x)) else none
theorem o_hv_le (x : Int32) : 1 ≤ o_hv x ∧ o_hv x ≤ 200 := by
  have h : onb (x >>> (2 &&& 31)) (o_hn x) < o_hn x := onb_lt (by unfold o_hn; split <;> omega)
  have h2 : o_hn x ≤ 200 := by unfold o_hn; split <;> omega
  unfold o_hv
  omega
/-- the desk's trades are trades, in force is 0 or 1 -/
def CI (F : Nat → Nat → Int32) (pn : Nat) : Prop := (∀ k, k < pn → p_in (F 6 k) 8 = true) ∧ ∀ j, F 4 j = 0 ∨ F 4 j = 1
def OR (cI : ClassId) (ro rp : Nat → Nat) (L : List Nat) (f : Nat → va_E) (on : Nat) : Prop := (∀ i, i < on → RO cI L f (ro i)) ∧ SIok cI ro rp L f
abbrev AC : Type := (Nat → Nat → Int32) × Int32 × (Nat → va_E)
theorem CI_pe {F : Nat → Nat → Int32} {pn : Nat} {v : Int32} (h : CI F pn) (hv : p_in v 8 = true) : CI (n_pe F pn v) (pn + 1) := by
  refine ⟨fun k hk => ?_, fun j => ?_⟩
  · show p_in (va_up F 6 (upd (F 6) pn v) 6 k) 8 = true
    rw [va_up_self]
    by_cases e : k = pn
    · subst e; rw [pk_us]; exact hv
    · rw [show upd (F 6) pn v k = F 6 k from if_neg e]; exact h.1 k (by omega)
  · show va_up F 6 (upd (F 6) pn v) 4 j = 0 ∨ va_up F 6 (upd (F 6) pn v) 4 j = 1
    rw [va_up_ne _ _ (by decide)]; exact h.2 j
theorem CI_or {F : Nat → Nat → Int32} {pn on : Nat} {q b c d : Int32} (h : CI F pn) : CI (n_or F on q b c d) pn := by
  refine ⟨fun k hk => ?_, fun j => ?_⟩
  · show p_in (n_or F on q b c d 6 k) 8 = true
    simp only [n_or]
    rw [va_up_ne _ _ (by decide), va_up_ne _ _ (by decide), va_up_ne _ _ (by decide), va_up_ne _ _ (by decide), va_up_ne _ _ (by decide)]
    exact h.1 k hk
  · show n_or F on q b c d 4 j = 0 ∨ n_or F on q b c d 4 j = 1
    simp only [n_or]
    rw [va_up_self]
    by_cases e : j = on
    · subst e; rw [pk_us]; exact Or.inr rfl
    · rw [show upd (F 4) on 1 j = F 4 j from if_neg e]; exact h.2 j
theorem o_up_up {f : Nat → va_E} {r : Nat} {e1 e2 : va_E} : va_up (va_up f r e1) r e2 = va_up f r e2 := by
  funext j
  by_cases h : j = r
  · subst h; rw [va_up_self, va_up_self]
  · rw [va_up_ne _ _ h, va_up_ne _ _ h, va_up_ne _ _ h]
theorem o_up_id {f : Nat → va_E} {r : Nat} {e1 : va_E} (h : f r = e1) : f = va_up f r e1 := by
  funext j
  by_cases hj : j = r
  · subst hj; rw [va_up_self, h]
  · rw [va_up_ne _ _ hj]
/-- a person's row written -/
theorem OR_pe {cI : ClassId} {ro rp : Nat → Nat} {L : List Nat} {f : Nat → va_E} {on pn : Nat} {g : Nat → Int32} (h : OR cI ro rp L f on) (hon : on ≤ 10) (hp : pn < 20) : OR cI ro rp L (va_up f (rp pn) (.inl (cI, 7, .inl g))) on := by
  obtain ⟨h1, h2, h3, h4, h5⟩ := h
  refine ⟨fun i hi => ?_, fun i hi => ?_, fun i hi => ?_, h4, h5⟩
  · obtain ⟨m1, g1, a1, e1, e2⟩ := h1 i hi
    exact ⟨m1, g1, a1, by rw [va_up_ne _ _ (h5 i pn (by omega) hp)]; exact e1, e2⟩
  · obtain ⟨m1, g1, e1⟩ := h2 i hi
    exact ⟨m1, g1, by rw [va_up_ne _ _ (h5 i pn hi hp)]; exact e1⟩
  · obtain ⟨m1, g1, e1⟩ := h3 i hi
    by_cases e : rp i = rp pn
    · exact ⟨m1, g, by rw [e, va_up_self]⟩
    · exact ⟨m1, g1, by rw [va_up_ne _ _ e]; exact e1⟩
/-- an order's row written -/
theorem OR_or {cI : ClassId} {ro rp : Nat → Nat} {L : List Nat} {f : Nat → va_E} {on a1 : Nat} {g : Nat → Int32} (h : OR cI ro rp L f on) (hon : on < 10) (e1 : g 1 = nI a1) (ha : a1 ≤ 4) (e4 : g 4 = 1) : OR cI ro rp L (va_up f (ro on) (.inl (cI, 13, .inl g))) (on + 1) := by
  obtain ⟨h1, h2, h3, h4, h5⟩ := h
  refine ⟨fun i hi => ?_, fun i hi => ?_, fun i hi => ?_, h4, h5⟩
  · by_cases e : i = on
    · subst e
      exact ⟨(h2 i hon).1, g, a1, va_up_self _ _ _, e1, ha, e4⟩
    · obtain ⟨m1, g1, a2, e5, e6⟩ := h1 i (by omega)
      exact ⟨m1, g1, a2, by rw [va_up_ne _ _ (fun q => e (h4 i on (by omega) hon q))]; exact e5, e6⟩
  · obtain ⟨m1, g1, e5⟩ := h2 i hi
    by_cases e : i = on
    · subst e; exact ⟨m1, g, va_up_self _ _ _⟩
    · exact ⟨m1, g1, by rw [va_up_ne _ _ (fun q => e (h4 i on hi hon q))]; exact e5⟩
  · obtain ⟨m1, g1, e5⟩ := h3 i hi
    exact ⟨m1, g1, by rw [va_up_ne _ _ (fun q => h5 on i hon hi q.symm)]; exact e5⟩
section ST1
variable {p : Program} {l : Launch} {e : Env} {R : Room} {s : State} {m : MethodId} {args : Array Value} {below : List Frame} {meth : Method} {c : Code} {H : Heap} {locs : List Loc} {cells slots : Nat} {Q : State → Prop}
variable {cc : ByteArray} {pc : Nat} {ls : Array Slot} {rest : List Value} {G : va_G} {tys : List (ClassId × FieldType)} {X : va_W} {L : List Nat} {f : Nat → va_E} {A : Nat → Prop} {H0 : Heap} {K : Nat} {cI : ClassId} {r n : Nat} {g : Nat → Int32}
/-- a row of the pool written -/
theorem o_pst (hx : p.tables.exec = Jvm.exec) (hb : c.code = cc) (hK : va_K G vwCl tys s) (t0 : Nat) (ht : tys[t0]? = some (cI, .int)) (hP : va_P G vwCl (X ++ va_pl L (va_up f r (.inl (cI, n, .inl g)))) H) (hD : va_D A (X ++ va_pl L (va_up f r (.inl (cI, n, .inl g))))) (hS : va_S A H0 H locs) (hM : K ≤ slotSum H) (hm : r ∈ L) {j : Nat} {v : Int32} (hj : j < n) (hn : n < 2 ^ 31) (hdg : decode cc pc = .ok (.iastore, 1))
    (kk : ∀ (H : Heap) (locs : List Loc), va_P G vwCl (X ++ va_pl L (va_up f r (.inl (cI, n, .inl (upd g j v))))) H → va_D A (X ++ va_pl L (va_up f r (.inl (cI, n, .inl (upd g j v))))) → va_S A H0 H locs → K ≤ slotSum H → W p l e R s m args below meth c H locs cells slots Q (F0 m (pc + 1) ls rest)) : W p l e R s m args below meth c H locs cells slots Q (F0 m pc ls (.int v :: .int (nI j) :: .ref r :: rest)) := by
  obtain ⟨k, hk⟩ := va_pl_get (X := X) (f := va_up f r (.inl (cI, n, .inl g))) hm
  have hset := fun e : va_E => va_pl_set (e := e) hD hm hk
  have hk2 := hk
  rw [va_up_self] at hk2
  refine W_up hM (w_iast (x := v) hx hb hK hP hD hS k t0 hk2 ht hj hn hdg (fun H locs hP hD hS => W_dn (fun hM => ?_)))
  rw [hset, o_up_up] at hP hD
  exact kk H locs hP hD hS hM
/-- a row of the pool read -/
theorem o_pld (hx : p.tables.exec = Jvm.exec) (hb : c.code = cc) (hK : va_K G vwCl tys s) (t0 : Nat) (ht : tys[t0]? = some (cI, .int)) (hP : va_P G vwCl (X ++ va_pl L (va_up f r (.inl (cI, n, .inl g)))) H) (hm : r ∈ L) {j : Nat} (hj : j < n) (hn : n < 2 ^ 31) (hdg : decode cc pc = .ok (.iaload, 1))
    (kk : W p l e R s m args below meth c H locs cells slots Q (F0 m (pc + 1) ls (.int (g j) :: rest))) : W p l e R s m args below meth c H locs cells slots Q (F0 m pc ls (.int (nI j) :: .ref r :: rest)) := by
  obtain ⟨k, hk⟩ := va_pl_get (X := X) (f := va_up f r (.inl (cI, n, .inl g))) hm
  rw [va_up_self] at hk
  exact w_iald (f := g) hx hb hK hP k t0 hk ht hj hn hdg kk
end ST1
/-- cells of the rows and of the sim are apart -/
theorem o_apart {A : Nat → Prop} {hs ao : Nat} {es e2 eo : va_E} {X pl : va_W} (hD : va_D A (((hs, es) :: X) ++ pl)) (ho : ¬ A ao) : ∀ (k : Nat) (q : Nat × va_E), ([(ao, eo)] ++ pl)[k]? = some q → ∀ (j : Nat) (x : va_E), ([(hs, e2)] : va_W)[j]? ≠ some (q.1, x) := by
  intro k q hk j x hj
  have hj0 : j < 1 := (List.getElem?_eq_some_iff.mp hj).1
  rw [show j = 0 by omega] at hj
  have e1 : hs = q.1 := by
    have h := Option.some.inj hj
    exact congrArg Prod.fst h
  cases k with
  | zero =>
    have h := Option.some.inj hk
    have h2 : ao = q.1 := congrArg Prod.fst h
    exact ho (by rw [h2, ← e1]; exact hD.2 0 (hs, es) rfl)
  | succ k =>
    have h2 : (((hs, es) :: X) ++ pl)[(X.length + 1) + k]? = some q := by
      rw [List.getElem?_append_right (by simp), List.length_cons, Nat.add_sub_cancel_left]
      exact hk
    have h3 := hD.1 0 ((X.length + 1) + k) (hs, es) q rfl h2 e1
    omega
theorem wa_quarters : Cond.fieldLink RL 15 "CurfewDeskLaw$Sim" "quarters" "I" ∈ wsL_act := by decide +kernel
theorem wa_people : Cond.fieldLink RL 27 "CurfewDeskLaw$Sim" "people" "I" ∈ wsL_act := by decide +kernel
theorem wa_person : Cond.fieldLink RL 30 "CurfewDeskLaw$Sim" "person" "[[I" ∈ wsL_act := by decide +kernel
theorem wa_orders : Cond.fieldLink RL 38 "CurfewDeskLaw$Sim" "orders" "I" ∈ wsL_act := by decide +kernel
theorem wa_order : Cond.fieldLink RL 41 "CurfewDeskLaw$Sim" "order" "[[I" ∈ wsL_act := by decide +kernel
theorem wa_in : ∀ w ∈ wsX10, w ∈ wsL_act := by decide +kernel
end STE
