section ART
theorem o_sub {a b : Nat} (h : b ≤ a) : nI a - nI b = nI (a - b) := by
  have e : nI a = nI (a - b) + nI b := by rw [nI_add]; congr 1; omega
  rw [e, Int32.add_sub_cancel]
theorem o_div {m n : Nat} (hm : m < 2 ^ 31) (hn : n < 2 ^ 31) : nI m / nI n = nI (m / n) := by
  have h1 : m / n ≤ m := Nat.div_le_self m n
  apply Int32.toInt_inj.mp
  rw [Int32.toInt_div, nI_toInt hm, nI_toInt hn, nI_toInt (by omega), show (m : Int).tdiv (n : Int) = ((m / n : Nat) : Int) from (Int.ofNat_tdiv m n).symm]
  generalize m / n = c at h1 ⊢
  exact Int.bmod_eq_of_le_mul_two (by omega) (by omega)
theorem o_rem {m n : Nat} (hm : m < 2 ^ 31) (hn : n < 2 ^ 31) : nI m - nI m / nI n * nI n = nI (m % n) := by
  rw [o_div hm hn, pk_mul, o_sub (Nat.div_mul_le_self m n), Nat.mod_def, Nat.mul_comm n (m / n)]
theorem o_and (v : Int32) : ∃ m : Nat, m < 2 ^ 31 ∧ v &&& 2147483647 = nI m := by
  have e : (v &&& 2147483647).toInt = ((v.toBitVec &&& 2147483647#32).toNat : Int) := by
    show (v.toBitVec &&& 2147483647#32).toInt = _
    apply BitVec.toInt_eq_toNat_of_lt
    rw [BitVec.toNat_and]
    have h1 := @Nat.and_le_right v.toBitVec.toNat (2147483647#32).toNat
    have h2 : (2147483647#32).toNat = 2147483647 := rfl
    omega
  apply nI_of
  rw [i32_lt0, e]
  omega
/-- the law's below(v, n) -/
def ob (v n : Int32) : Int32 := (v &&& 2147483647) - (v &&& 2147483647) / n * n
theorem ob_nI (v : Int32) {n : Nat} (h0 : 0 < n) (hn : n < 2 ^ 31) : ∃ j : Nat, j < n ∧ ob v (nI n) = nI j := by
  obtain ⟨m, hm, e⟩ := o_and v
  refine ⟨m % n, Nat.mod_lt _ h0, ?_⟩
  rw [ob, e, o_rem hm hn]
/-- two tides at most, one at least, of what an order costs at a half hour of the day -/
def o_dl (hh : Nat) : Nat := if hh < 30 then 40 else 20
def OF (f : Nat → Int32) : Prop := ∀ j, ∃ t : Nat, t ≤ 4 ∧ f j = nI t
theorem OF_0 : OF (fun _ => 0) := fun _ => ⟨0, by omega, rfl⟩
theorem OF_up {f : Nat → Int32} {i : Nat} {v : Int32} (h : OF f) (hv : ∃ t : Nat, t ≤ 4 ∧ v = nI t) : OF (upd f i v) := fun j => by
  by_cases e : j = i
  · subst e
    obtain ⟨t, h1, h2⟩ := hv
    exact ⟨t, h1, by rw [pk_us]; exact h2⟩
  · obtain ⟨t, h1, h2⟩ := h j
    exact ⟨t, h1, by simp [upd, e, h2]⟩
theorem o_ge {a b : Nat} (h : ¬ nI b ≤ nI a) (ha : a < 2 ^ 31) (hb : b < 2 ^ 31) : a < b := by
  rcases Nat.lt_or_ge a b with q | q
  · exact q
  · exact absurd (nI_le q ha) h
end ART
