section INV
/-! what stays true of the desk's arrays between two calls -/
theorem k1_0 {b : Bool} : k1 b = 0 ↔ b = true := by cases b <;> simp [k1]
theorem k2_0 {b d : Bool} : k2 b d = 0 ↔ b = true ∧ d = true := by cases b <;> cases d <;> simp [k2]
theorem k3_0 {b d f : Bool} : k3 b d f = 0 ↔ b = true ∧ d = true ∧ f = true := by cases b <;> cases d <;> cases f <;> simp [k3]
def p_Inv (F : Nat → Nat → Int32) (nq no np : Nat) : Prop := nq ≤ 6 ∧ no ≤ 10 ∧ np ≤ 20 ∧ (∀ o, o < no → ∃ c, c < 4 ∧ F 3 o = nI c) ∧ (∀ j, F 4 j = 0 ∨ F 4 j = 1) ∧ (∀ o, o < no → ∃ k, k < nq ∧ F 0 o = nI k) ∧ ∀ k, ∃ v, v ≤ 9 ∧ F 9 k = nI v
theorem inv_0 : p_Inv (fun _ _ => 0) 0 0 0 := ⟨by omega, by omega, by omega, fun o h => absurd h (by omega), fun _ => Or.inl rfl, fun o h => absurd h (by omega), fun _ => ⟨0, by omega, rfl⟩⟩
variable {F F' : Nat → Nat → Int32} {nq no np : Nat}
theorem inv_keep (h : p_Inv F nq no np) (e0 : F' 0 = F 0) (e3 : F' 3 = F 3) (e4 : F' 4 = F 4) (e9 : ∀ k, ∃ v, v ≤ 9 ∧ F' 9 k = nI v) : p_Inv F' nq no np := by
  obtain ⟨h1, h2, h3, h4, h5, h6, h7⟩ := h
  exact ⟨h1, h2, h3, by rw [e3]; exact h4, by rw [e4]; exact h5, by rw [e0]; exact h6, e9⟩
theorem inv_9 (h : p_Inv F nq no np) : ∀ k, ∃ v, v ≤ 9 ∧ F 9 k = nI v := h.2.2.2.2.2.2
theorem inv_addQuarter (h : p_Inv F nq no np) : p_Inv F (nx (k1 (!decide (nq = 6))) (nq + 1) nq) no np := by
  by_cases hk : k1 (!decide (nq = 6)) = 0
  · simp only [nx, if_pos hk]
    have h6 : nq ≠ 6 := by simpa using k1_0.mp hk
    obtain ⟨h1, h2, h3, h4, h5, h7, h8⟩ := h
    exact ⟨by omega, h2, h3, h4, h5, fun o ho => by obtain ⟨k, hk, e⟩ := h7 o ho; exact ⟨k, by omega, e⟩, h8⟩
  · simp only [nx, if_neg hk]
    exact h
theorem inv_addPerson (x : Int32) (h : p_Inv F nq no np) : p_Inv (nx (k2 (p_in x 8) (!decide (np = 20))) (n_pe F np x) F) nq no (nx (k2 (p_in x 8) (!decide (np = 20))) (np + 1) np) := by
  by_cases hk : k2 (p_in x 8) (!decide (np = 20)) = 0
  · simp only [nx, if_pos hk]
    have h6 : np ≠ 20 := by simpa using (k2_0.mp hk).2
    obtain ⟨h1, h2, h3, h4⟩ := inv_keep (F' := n_pe F np x) h (va_up_ne _ _ (by decide)) (va_up_ne _ _ (by decide)) (va_up_ne _ _ (by decide)) (by rw [n_pe, va_up_ne _ _ (by decide)]; exact inv_9 h)
    exact ⟨h1, h2, by omega, h4⟩
  · simp only [nx, if_neg hk]
    exact h
theorem inv_addOrder (x y z v : Int32) (h : p_Inv F nq no np) : p_Inv (nx (k3 (p_in x nq && p_in v 4) (p_wi y 0 4 && p_wi z 0 4) (!decide (no = 10))) (n_or F no x y z v) F) nq (nx (k3 (p_in x nq && p_in v 4) (p_wi y 0 4 && p_wi z 0 4) (!decide (no = 10))) (no + 1) no) np := by
  by_cases hk : k3 (p_in x nq && p_in v 4) (p_wi y 0 4 && p_wi z 0 4) (!decide (no = 10)) = 0
  · simp only [nx, if_pos hk]
    obtain ⟨ha, -, hc⟩ := k3_0.mp hk
    have h6 : no ≠ 10 := by simpa using hc
    obtain ⟨hx, hv⟩ := (Bool.and_eq_true _ _).mp ha
    obtain ⟨j, hj, rfl⟩ := pin_of hx
    obtain ⟨c, hc, rfl⟩ := pin_of hv
    have e0 : n_or F no (nI j) y z (nI c) 0 = upd (F 0) no (nI j) := rfl
    have e3 : n_or F no (nI j) y z (nI c) 3 = upd (F 3) no (nI c) := rfl
    have e4 : n_or F no (nI j) y z (nI c) 4 = upd (F 4) no 1 := rfl
    have e9 : n_or F no (nI j) y z (nI c) 9 = F 9 := rfl
    obtain ⟨h1, h2, h3, h4, h5, h7, h8⟩ := h
    refine ⟨h1, by omega, h3, fun o ho => ?_, fun i => ?_, fun o ho => ?_, by rw [e9]; exact h8⟩
    · rw [e3]
      by_cases e : o = no
      · exact ⟨c, hc, by simp [upd, e]⟩
      · obtain ⟨d, hd, e2⟩ := h4 o (by omega)
        exact ⟨d, hd, by simp [upd, e, e2]⟩
    · rw [e4]
      by_cases e : i = no
      · exact Or.inr (by simp [upd, e])
      · have := h5 i
        simpa [upd, e] using this
    · rw [e0]
      by_cases e : o = no
      · exact ⟨j, hj, by simp [upd, e]⟩
      · obtain ⟨d, hd, e2⟩ := h7 o (by omega)
        exact ⟨d, hd, by simp [upd, e, e2]⟩
  · simp only [nx, if_neg hk]
    exact h
theorem inv_nx (k : Int32) (h : p_Inv F nq no np) (h' : k = 0 → p_Inv F' nq no np) : p_Inv (nx k F' F) nq no np := by
  by_cases hk : k = 0
  · simp only [nx, if_pos hk]
    exact h' hk
  · simp only [nx, if_neg hk]
    exact h
theorem inv_ex (o : Nat) (t : Int32) (h : p_Inv F nq no np) : p_Inv (n_ex F o t) nq no np := inv_keep h (va_up_ne _ _ (by decide)) (va_up_ne _ _ (by decide)) (va_up_ne _ _ (by decide)) (by rw [n_ex, va_up_ne _ _ (by decide)]; exact inv_9 h)
theorem inv_fo (o : Nat) (h : p_Inv F nq no np) : p_Inv (n_fo F o) nq no np := by
  obtain ⟨h1, h2, h3, h4, h5, h7, h8⟩ := h
  have e4 : n_fo F o 4 = upd (F 4) o (b2i (decide (F 4 o = 0))) := rfl
  refine ⟨h1, h2, h3, by rw [n_fo, va_up_ne _ _ (by decide)]; exact h4, fun i => ?_, by rw [n_fo, va_up_ne _ _ (by decide)]; exact h7, by rw [n_fo, va_up_ne _ _ (by decide)]; exact h8⟩
  rw [e4]
  by_cases e : i = o
  · by_cases z : F 4 o = 0
    · exact Or.inr (by simp [upd, e, z, b2i])
    · exact Or.inl (by simp [upd, e, z, b2i])
  · have := h5 i
    simpa [upd, e] using this
theorem n9_upd {f : Nat → Int32} (h : ∀ k, ∃ v, v ≤ 9 ∧ f k = nI v) {k : Nat} {w : Int32} (hw : ∃ v, v ≤ 9 ∧ w = nI v) : ∀ i, ∃ v, v ≤ 9 ∧ upd f k w i = nI v := fun i => by
  by_cases e : i = k
  · obtain ⟨v, h1, h2⟩ := hw
    exact ⟨v, h1, by simp [upd, e, h2]⟩
  · obtain ⟨v, h1, h2⟩ := h i
    exact ⟨v, h1, by simp [upd, e, h2]⟩
theorem inv_st (k : Nat) (w : Int32) (h : p_Inv F nq no np) (hw : ∃ v, v ≤ 9 ∧ w = nI v) : p_Inv (n_st F k w) nq no np :=
  inv_keep h (va_up_ne _ _ (by decide)) (va_up_ne _ _ (by decide)) (va_up_ne _ _ (by decide)) (by rw [n_st, va_up_self]; exact n9_upd (inv_9 h) hw)
theorem cap_9 {x z : Int32} (hx : ∃ v, v ≤ 9 ∧ x = nI v) (hz : p_wi z 1 9 = true) : ∃ v, v ≤ 9 ∧ p_cap (x + z) = nI v := by
  obtain ⟨v, hv, rfl⟩ := hx
  obtain ⟨j, hj, rfl⟩ := pwi_ofn (b := 9) (by decide) (by decide) hz
  rw [nI_add]
  unfold p_cap
  by_cases hl : nI (v + j) < 9
  · rw [if_pos hl]
    have := (nI_ltI (a := v + j) (b := 9) (by omega) (by omega)).mp hl
    exact ⟨v + j, by omega, rfl⟩
  · rw [if_neg hl]
    exact ⟨9, by omega, rfl⟩
theorem us_9 {p c : Nat} (h : ∀ k, ∃ v, v ≤ 9 ∧ F 9 k = nI v) : ∀ k, ∃ v, v ≤ 9 ∧ p_us F p c 9 k = nI v := by
  unfold p_us
  by_cases e : F 9 (p * 4 + c) = 0
  · rw [if_pos e]; exact h
  · rw [if_neg e]
    have e9 : p_use F p c 9 = upd (F 9) (p * 4 + c) (F 9 (p * 4 + c) - 1) := rfl
    rw [e9]
    refine n9_upd h ?_
    obtain ⟨v, h1, h2⟩ := h (p * 4 + c)
    rw [h2] at e ⊢
    have hv : v ≠ 0 := fun z => e (by rw [z]; rfl)
    obtain ⟨w, rfl⟩ : ∃ w, v = w + 1 := ⟨v - 1, by omega⟩
    exact ⟨w, by omega, pred1 w⟩
theorem go_9 (sh : Int32) (p : Nat) (q t : Int32) (h : ∀ k, ∃ v, v ≤ 9 ∧ F 9 k = nI v) : ∀ o k, ∃ v, v ≤ 9 ∧ (p_go F sh p q t o).1 9 k = nI v
  | 0 => h
  | o + 1 => by
    have ih := go_9 sh p q t h o
    simp only [p_go]
    by_cases e : p_bars F sh o p q t = true
    · rw [if_pos e]; exact us_9 ih
    · rw [if_neg e]; exact ih
theorem inv_go (sh : Int32) (p : Nat) (q t : Int32) (h : p_Inv F nq no np) : p_Inv (n_go F sh no p q t) nq no np := by
  have hg := inv_keep (F' := (p_go F sh p q t no).1) h (go_keep F sh p q t 0 (by decide) (by decide) no) (go_keep F sh p q t 3 (by decide) (by decide) no) (go_keep F sh p q t 4 (by decide) (by decide) no) (go_9 sh p q t (inv_9 h) no)
  unfold n_go
  by_cases e : (p_go F sh p q t no).2 = true
  · rw [if_pos e]
    exact inv_keep hg rfl rfl rfl (inv_9 hg)
  · rw [if_neg e]; exact hg
theorem inv_turnOrder (x : Int32) (h : p_Inv F nq no np) : p_Inv (nx (k1 (p_in x no)) (n_fo F x.toNatClampNeg) F) nq no np := inv_nx _ h (fun _ => inv_fo _ h)
theorem inv_turnExempt (x t : Int32) (h : p_Inv F nq no np) : p_Inv (nx (k1 (p_in x no && p_in t 8)) (n_ex F x.toNatClampNeg t) F) nq no np := inv_nx _ h (fun _ => inv_ex _ _ h)
theorem inv_takePass (x y : Int32) (h : p_Inv F nq no np) : p_Inv (nx (k1 (p_in x np && p_in y 4)) (n_st F (p_pl x y) 0) F) nq no np := inv_nx _ h (fun _ => inv_st _ _ h ⟨0, by omega, rfl⟩)
theorem inv_givePass (x y z : Int32) (h : p_Inv F nq no np) : p_Inv (nx (k2 (p_in x np && p_in y 4) (p_wi z 1 9)) (n_st F (p_pl x y) (p_cap (F 9 (p_pl x y) + z))) F) nq no np := inv_nx _ h (fun hk => inv_st _ _ h (cap_9 (inv_9 h _) (k2_0.mp hk).2))
theorem inv_goOut (sh x' t : Int32) (x : Int32) (h : p_Inv F nq no np) : p_Inv (nx (k1 (p_in x np && p_in x' nq)) (n_go F sh no x.toNatClampNeg x' t) F) nq no np := inv_nx _ h (fun _ => inv_go _ _ _ _ h)
end INV
