section PU2
theorem w0_at (F : Nat → Nat → Int32) (wt : Nat → Int32) (p c : Nat) : ∀ i, p_w0 F wt p i c = if c < i then -F 9 (p * 4 + c) else wt c
  | 0 => by simp [p_w0]
  | i + 1 => by
    simp only [p_w0, upd]
    by_cases h : c = i
    · subst h; simp
    · rw [if_neg h, w0_at F wt p c i]
      by_cases h2 : c < i
      · rw [if_pos h2, if_pos (by omega)]
      · rw [if_neg h2, if_neg (by omega)]
theorem w1_at (F : Nat → Nat → Int32) (sh : Int32) (w0 : Nat → Int32) (p : Nat) (q t : Int32) (c : Nat) : ∀ o, p_w1 F sh w0 p q t o c = w0 c + nI (p_ct (fun o => decide ((F 3 o).toNatClampNeg = c) && p_bars F sh o p q t) o)
  | 0 => by simp only [p_w1, p_ct]; rw [show nI 0 = 0 from nI_0, Int32.add_zero]
  | o + 1 => by
    have ih := w1_at F sh w0 p q t c o
    simp only [p_w1, p_ct]
    rcases Bool.eq_false_or_eq_true (p_bars F sh o p q t) with hb | hb
    rotate_left
    · simp only [hb, Bool.and_false, Bool.false_eq_true, if_false, Nat.add_zero]
      exact ih
    · simp only [hb, if_true, Bool.and_true, decide_eq_true_eq, upd]
      by_cases h : c = (F 3 o).toNatClampNeg
      · rw [if_pos h, if_pos h.symm, ← h, ih, Int32.add_assoc, nI_1]
      · rw [if_neg h, if_neg (fun e => h e.symm), ih, Nat.add_zero]
theorem nI_m1 {o : Nat} (h : o < 1000) : (!decide (nI o = -1)) = true := by
  have h1 : ¬ nI o = -1 := fun e => by
    have h2 := congrArg Int32.toInt e
    rw [nI_toInt (by omega), show (-1 : Int32).toInt = -1 by decide] at h2
    omega
  rw [decide_eq_false h1]; rfl
theorem miss_eq {F : Nat → Nat → Int32} {sh : Int32} {no p : Nat} {q t : Int32} (wt : Nat → Int32) (hno : no ≤ 10) (H3 : ∀ o, o < no → ∃ c, c < 4 ∧ F 3 o = nI c) :
    p_sm (fun c => p_max0 (p_w1 F sh (p_w0 F wt p 4) p q t no c)) 4 = p_miss F sh no p q t (-1) := by
  unfold p_miss
  refine sm_cong (fun c hc => ?_)
  unfold p_lack
  rw [w1_at, w0_at, if_pos hc, Int32.add_comm, ← Int32.sub_eq_add_neg]
  rw [ct_cong (d := p_need F sh p q t (-1) c) (fun o ho => ?_)]
  obtain ⟨k, hk, ek⟩ := H3 o ho
  unfold p_need
  rw [nI_m1 (by omega), Bool.true_and, ek, nI_clamp (by omega)]
  congr 1
  exact decide_eq_decide.mpr (nI_eq (by omega) (by omega)).symm
theorem sm_add (f g : Nat → Int32) : ∀ n, p_sm (fun k => f k + g k) n = p_sm f n + p_sm g n
  | 0 => by simp only [p_sm]; rw [Int32.add_zero]
  | n + 1 => by
    simp only [p_sm]
    rw [sm_add f g n]
    simp only [Int32.add_assoc]
    congr 1
    rw [← Int32.add_assoc, Int32.add_comm (p_sm g n) (f n), Int32.add_assoc]
theorem sm_b2i (b : Nat → Bool) : ∀ n, p_sm (fun k => b2i (b k)) n = nI (p_ct b n)
  | 0 => nI_0.symm
  | n + 1 => by rw [← nct_b, ← sm_b2i b n]; rfl
theorem sm_swap (b : Nat → Nat → Bool) (n : Nat) : ∀ m, p_sm (fun k => nI (p_ct (fun o => b o k) n)) m = p_sm (fun o => nI (p_ct (b o) m)) n
  | 0 => by
    simp only [p_sm]
    have h : ∀ j, (0 : Int32) = p_sm (fun o => nI (p_ct (b o) 0)) j := fun j => by
      induction j with
      | zero => rfl
      | succ j ih => simp only [p_sm]; rw [← ih]; rfl
    exact h n
  | m + 1 => by
    simp only [p_sm]
    rw [sm_swap b n m, ← sm_b2i, ← sm_add]
    exact sm_cong (fun o _ => nct_b)
theorem pa_eq (F : Nat → Nat → Int32) (sh nw : Int32) (no hh : Nat) : p_sm (fun k => nI (p_ct (p_pB F sh nw k) no)) hh = a_pa F sh nw no hh := by
  have h : ∀ k o, p_pB F sh nw k o = p_tb F sh nw o k := fun k o => by
    unfold p_pB p_tb
    rw [Int32.add_assoc, nI_1]
  unfold a_pa
  rw [← sm_swap (fun o w => p_tb F sh nw o w) no hh]
  refine sm_cong (fun k _ => ?_)
  rw [ct_cong (fun o _ => h k o)]
/-! missing stamps, counted -/
theorem max0_sub {n s : Nat} (hn : n ≤ 10) (hs : s ≤ 9) : p_max0 (nI n - nI s) = nI (n - s) := by
  unfold p_max0
  by_cases h : s < n
  · rw [pk_sub (Nat.le_of_lt h)]
    exact if_pos (show (0 : Int32) < nI (n - s) from nI_lt (a := 0) (b := n - s) (by omega) (by omega))
  · have h2 : (nI n - nI s).toInt = (n : Int) - s := pk_sub_toInt (by omega) (by omega)
    have h3 : ¬ (0 : Int32) < nI n - nI s := by
      rw [Int32.lt_iff_toInt_lt, h2, show (0 : Int32).toInt = 0 by decide]
      omega
    rw [if_neg h3, show n - s = 0 by omega]
    rfl
theorem sm_nI (f : Nat → Nat) : ∀ n, p_sm (fun k => nI (f k)) n = nI (p_sn f n)
  | 0 => nI_0.symm
  | n + 1 => by simp only [p_sm, p_sn]; rw [sm_nI f n, nI_add]
def m_nat (F : Nat → Nat → Int32) (sh : Int32) (S : Nat → Nat) (no p : Nat) (q t sp : Int32) : Nat := p_sn (fun c => p_ct (p_need F sh p q t sp c) no - S (p * 4 + c)) 4
theorem miss_nat {F : Nat → Nat → Int32} {sh : Int32} {S : Nat → Nat} {no p : Nat} {q t sp : Int32} (hno : no ≤ 10) (H9 : ∀ k, S k ≤ 9 ∧ F 9 k = nI (S k)) : p_miss F sh no p q t sp = nI (m_nat F sh S no p q t sp) := by
  unfold p_miss m_nat
  rw [← sm_nI]
  refine sm_cong (fun c _ => ?_)
  unfold p_lack
  rw [(H9 _).2, max0_sub (Nat.le_trans (ct_le _ _) hno) (H9 _).1]
theorem sn_le4 {f : Nat → Nat} {b : Nat} (h : ∀ k, f k ≤ b) : p_sn f 4 ≤ 4 * b := sn_le h 4
theorem m_nat_le {F : Nat → Nat → Int32} {sh : Int32} {S : Nat → Nat} {no p : Nat} {q t sp : Int32} (hno : no ≤ 10) : m_nat F sh S no p q t sp ≤ 40 :=
  sn_le4 (b := 10) (fun c => Nat.le_trans (Nat.sub_le _ _) (Nat.le_trans (ct_le _ _) hno))
theorem sn_mono {f g : Nat → Nat} : ∀ {n : Nat}, (∀ k, k < n → f k ≤ g k) → p_sn f n ≤ p_sn g n
  | 0, _ => Nat.le_refl _
  | n + 1, h => by
    have h1 := sn_mono (f := f) (g := g) (n := n) (fun k hk => h k (by omega))
    have h2 := h n (by omega)
    simp only [p_sn]; omega
theorem sn_cong {f g : Nat → Nat} : ∀ {n : Nat}, (∀ k, k < n → f k = g k) → p_sn f n = p_sn g n
  | 0, _ => rfl
  | n + 1, h => by simp only [p_sn]; rw [sn_cong (fun k hk => h k (by omega)), h n (by omega)]
theorem sn_add (f g : Nat → Nat) : ∀ n, p_sn (fun k => f k + g k) n = p_sn f n + p_sn g n
  | 0 => rfl
  | n + 1 => by have := sn_add f g n; simp only [p_sn]; omega
theorem sn_ct (b : Nat → Bool) : ∀ n, p_sn (fun k => if b k then 1 else 0) n = p_ct b n
  | 0 => rfl
  | n + 1 => by simp only [p_sn, p_ct]; rw [sn_ct b n]
theorem ct_sub {b d : Nat → Bool} : ∀ {n : Nat}, (∀ k, k < n → b k = true → d k = true) → p_ct b n ≤ p_ct d n
  | 0, _ => Nat.le_refl _
  | n + 1, h => by
    have h1 := ct_sub (b := b) (d := d) (n := n) (fun k hk => h k (by omega))
    have h2 := h n (by omega)
    simp only [p_ct]
    cases hb : b n
    · simp only [Bool.false_eq_true, if_false]; split <;> omega
    · rw [h2 hb]; simp only [if_true]; omega
/-- two counts that differ at one place alone -/
theorem ct_one {b d : Nat → Bool} {i : Nat} (hi : b i = true → d i = true) : ∀ {n : Nat}, i < n → (∀ k, k < n → k ≠ i → b k = d k) → p_ct d n = p_ct b n + (if !b i && d i then 1 else 0)
  | 0, h, _ => absurd h (Nat.not_lt_zero i)
  | n + 1, h, hk => by
    simp only [p_ct]
    by_cases e : i = n
    · subst e
      rw [ct_cong (b := b) (d := d) (n := i) (fun k h1 => hk k (by omega) (by omega))]
      cases hb : b i
      · cases hd : d i <;> simp
      · rw [hi hb]; simp
    · rw [ct_one hi (n := n) (by omega) (fun k h1 h2 => hk k (by omega) h2), hk n (by omega) (by omega)]
      omega
/-! which order had best be lifted: both ways -/
section BL
variable {F : Nat → Nat → Int32} {sh t : Int32} {S : Nat → Nat} {nq no np : Nat}
theorem bars_off {o p : Nat} {q : Int32} (h : F 4 o = 0) : p_bars F sh o p q t = false := by
  simp only [p_bars, p_on, h, decide_true, Bool.not_true, Bool.false_and, Bool.and_false]
theorem bars_lf {o o' p : Nat} {q : Int32} (h : o' ≠ o) : p_bars (p_lf F o) sh o' p q t = p_bars F sh o' p q t := by
  have e4 : p_lf F o 4 o' = F 4 o' := by simp only [p_lf, va_up_self, upd, if_neg h]
  have e0 : p_lf F o 0 = F 0 := va_up_ne _ _ (by decide)
  have e1 : p_lf F o 1 = F 1 := va_up_ne _ _ (by decide)
  have e2 : p_lf F o 2 = F 2 := va_up_ne _ _ (by decide)
  have e5 : p_lf F o 5 = F 5 := va_up_ne _ _ (by decide)
  have e6 : p_lf F o 6 = F 6 := va_up_ne _ _ (by decide)
  simp only [p_bars, p_on, p_at, p_ex, e4, e0, e1, e2, e5, e6]
theorem bars_lf0 {o p : Nat} {q : Int32} : p_bars (p_lf F o) sh o p q t = false := bars_off (by simp only [p_lf, va_up_self, upd, if_true])
theorem nI_ne {a b : Nat} (ha : a < 2 ^ 31) (hb : b < 2 ^ 31) (h : a ≠ b) : (!decide (nI a = nI b)) = true := by
  rw [decide_eq_false (mt (nI_eq ha hb).mp h)]; rfl
theorem need_mono {p c o : Nat} {q : Int32} (hno : no ≤ 10) : ∀ k, k < no → p_need F sh p q t (nI o) c k = true → p_need F sh p q t (-1) c k = true := fun k hk h => by
  simp only [p_need, Bool.and_eq_true] at h ⊢
  exact ⟨nI_m1 (by omega), h.2⟩
theorem m_nat_mono {p o : Nat} {q : Int32} (hno : no ≤ 10) : m_nat F sh S no p q t (nI o) ≤ m_nat F sh S no p q t (-1) := by
  unfold m_nat
  refine sn_mono (fun c _ => ?_)
  have := ct_sub (n := no) (need_mono (F := F) (sh := sh) (t := t) (p := p) (c := c) (o := o) (q := q) hno)
  omega
theorem m_nat_off {p o : Nat} {q : Int32} (hno : no ≤ 10) (ho : o < no) (h : F 4 o = 0) : m_nat F sh S no p q t (nI o) = m_nat F sh S no p q t (-1) := by
  unfold m_nat
  refine sn_cong (fun c _ => ?_)
  rw [ct_cong (fun k hk => ?_)]
  unfold p_need
  by_cases e : k = o
  · subst e; rw [bars_off h]; simp
  · rw [nI_ne (by omega) (by omega) e, nI_m1 (by omega)]
/-- the order lifted, seen from a quarter: its own or another -/
theorem m_nat_lf {p o qo q : Nat} (hno : no ≤ 10) (ho : o < no) (hq : q < 2 ^ 31) (hqo : qo < 2 ^ 31) (e0 : F 0 o = nI qo) :
    m_nat (p_lf F o) sh S no p (nI q) t (-1) = if q = qo then m_nat F sh S no p (nI qo) t (nI o) else m_nat F sh S no p (nI q) t (-1) := by
  have e3 : p_lf F o 3 = F 3 := va_up_ne _ _ (by decide)
  by_cases h : q = qo
  · subst h
    rw [if_pos rfl]
    unfold m_nat
    refine sn_cong (fun c _ => ?_)
    rw [ct_cong (fun k hk => ?_)]
    unfold p_need
    rw [e3, nI_m1 (by omega)]
    by_cases e : k = o
    · subst e; rw [bars_lf0]; simp
    · rw [bars_lf e, nI_ne (by omega) (by omega) e]
  · rw [if_neg h]
    unfold m_nat
    refine sn_cong (fun c _ => ?_)
    rw [ct_cong (fun k hk => ?_)]
    unfold p_need
    rw [e3]
    by_cases e : k = o
    · subst e
      have hb : p_bars F sh k p (nI q) t = false := by
        simp only [p_bars, e0]
        rw [decide_eq_false (mt (nI_eq hqo hq).mp (fun z => h z.symm))]
        rfl
      rw [bars_lf0, hb]
    · rw [bars_lf e]
theorem dec0 {n : Nat} (h : n < 2 ^ 31) : decide (nI n = 0) = decide (n = 0) := decide_eq_decide.mpr (nI_eq (b := 0) h (by omega))
theorem dec0' {n : Nat} (h : n < 2 ^ 31) : decide (nI n ≤ 0) = decide (n = 0) := decide_eq_decide.mpr ((nI_leI (b := 0) h (by omega)).trans (by omega))
theorem fr_eq (H9 : ∀ k, S k ≤ 9 ∧ F 9 k = nI (S k)) (hno : no ≤ 10) (o p : Nat) : p_fr F sh no t o p = (!decide (m_nat F sh S no p (F 0 o) t (-1) = 0) && decide (m_nat F sh S no p (F 0 o) t (nI o) = 0)) := by
  have h1 := m_nat_le (F := F) (sh := sh) (S := S) (p := p) (q := F 0 o) (t := t) (sp := -1) hno
  have h2 := m_nat_le (F := F) (sh := sh) (S := S) (p := p) (q := F 0 o) (t := t) (sp := nI o) hno
  unfold p_fr
  rw [miss_nat hno H9, miss_nat hno H9, dec0 (by omega), dec0' (by omega)]
theorem pq_eq (H9 : ∀ k, S k ≤ 9 ∧ F 9 k = nI (S k)) (hno : no ≤ 10) (p q : Nat) : p_pq F sh no t p q = decide (m_nat F sh S no p (nI q) t (-1) = 0) := by
  have h1 := m_nat_le (F := F) (sh := sh) (S := S) (p := p) (q := nI q) (t := t) (sp := -1) hno
  unfold p_pq
  rw [miss_nat hno H9, dec0 (by omega)]
theorem fr_off (H9 : ∀ k, S k ≤ 9 ∧ F 9 k = nI (S k)) (hno : no ≤ 10) {o : Nat} (ho : o < no) (h : F 4 o = 0) : p_bf F sh t no np o = 0 := by
  unfold p_bf
  rw [ct_cong (d := fun _ => false) (fun p _ => ?_)]
  · have : ∀ n, p_ct (fun _ => false) n = 0 := fun n => by
      induction n with
      | zero => rfl
      | succ n ih => simp [p_ct, ih]
    exact this np
  · rw [fr_eq H9 hno, m_nat_off hno ho h]
    cases decide (m_nat F sh S no p (F 0 o) t (-1) = 0) <;> rfl
theorem pr_lf (H9 : ∀ k, S k ≤ 9 ∧ F 9 k = nI (S k)) (hno : no ≤ 10) (hnq : nq ≤ 6) {o qo : Nat} (ho : o < no) (hqo : qo < nq) (e0 : F 0 o = nI qo) : p_pr (p_lf F o) sh nq no np t = p_pr F sh nq no np t + p_bf F sh t no np o := by
  have e9 : p_lf F o 9 = F 9 := va_up_ne _ _ (by decide)
  have H9' : ∀ k, S k ≤ 9 ∧ p_lf F o 9 k = nI (S k) := fun k => by rw [e9]; exact H9 k
  unfold p_pr p_bf
  rw [← sn_ct, ← sn_add]
  refine sn_cong (fun p _ => ?_)
  have hd : ∀ q, q < nq → p_pq (p_lf F o) sh no t p q = decide ((if q = qo then m_nat F sh S no p (nI qo) t (nI o) else m_nat F sh S no p (nI q) t (-1)) = 0) := fun q hq => by
    rw [pq_eq H9' hno, m_nat_lf hno ho (by omega) (by omega) e0]
  have hm := m_nat_mono (F := F) (sh := sh) (t := t) (S := S) (p := p) (o := o) (q := nI qo) hno
  rw [ct_cong hd, ct_cong (b := p_pq F sh no t p) (d := fun q => decide (m_nat F sh S no p (nI q) t (-1) = 0)) (fun q _ => pq_eq H9 hno p q)]
  rw [ct_one (b := fun q => decide (m_nat F sh S no p (nI q) t (-1) = 0)) (i := qo) (fun h => ?_) hqo (fun k hk hne => ?_)]
  · rw [fr_eq H9 hno, e0]
    simp only [if_true]
  · simp only [if_true, decide_eq_true_eq] at h ⊢
    omega
  · simp only [if_neg hne]
theorem bl_eq (H9 : ∀ k, S k ≤ 9 ∧ F 9 k = nI (S k)) (hno : no ≤ 10) (hnq : nq ≤ 6) (H0 : ∀ o, o < no → ∃ k, k < nq ∧ F 0 o = nI k) : ∀ i, i ≤ no → (p_bM F sh nq no np t i).1 = (p_bl (p_bf F sh t no np) i).1 ∧ (p_bM F sh nq no np t i).2 = p_pr F sh nq no np t + (p_bl (p_bf F sh t no np) i).2
  | 0, _ => ⟨rfl, rfl⟩
  | i + 1, hi => by
    obtain ⟨h1, h2⟩ := bl_eq H9 hno hnq H0 i (by omega)
    obtain ⟨qo, hqo, e0⟩ := H0 i (by omega)
    simp only [p_bM, p_bl]
    by_cases h4 : F 4 i = 0
    · rw [if_pos h4, if_neg (by rw [fr_off H9 hno (by omega) h4]; omega)]
      exact ⟨h1, h2⟩
    · rw [if_neg h4, pr_lf H9 hno hnq (by omega) hqo e0, h2]
      by_cases hl : (p_bl (p_bf F sh t no np) i).2 < p_bf F sh t no np i
      · rw [if_pos (by omega), if_pos hl]
        exact ⟨rfl, rfl⟩
      · rw [if_neg (by omega), if_neg hl]
        exact ⟨h1, h2⟩
end BL
end PU2
