section ROW
/-! array rows with a counted index -/
section RW1
variable {p : Program} {l : Launch} {e : Env} {R : Room} {s : State} {m : MethodId} {args : Array Value} {below : List Frame} {meth : Method} {c : Code} {H : Heap} {locs : List Loc} {cells slots : Nat} {Q : State → Prop}
variable {cc : ByteArray} {pc : Nat} {ls : Array Slot} {rest : List Value} {D : va_G} {cl : List vw_C} {A : Nat → Prop} {a : Nat} {tys : List (ClassId × FieldType)} {ws : va_W} {H0 : Heap}
theorem w_iald (hexec : p.tables.exec = Jvm.exec) (hb : c.code = cc) (hK : va_K D cl tys s) (hP : va_P D cl ws H) (q0 t0 : Nat) {cA : ClassId} {n : Nat} {f : Nat → Int32} (ha : ws[q0]? = some (a, .inl (cA, n, .inl f))) (ht : tys[t0]? = some (cA, .int)) {j : Nat} (hj : j < n) (hn : n < 2 ^ 31) (hdg : decode cc pc = .ok (.iaload, 1))
    (kk : W p l e R s m args below meth c H locs cells slots Q (F0 m (pc + 1) ls (.int (f j) :: rest))) : W p l e R s m args below meth c H locs cells slots Q (F0 m pc ls (.int (nI j) :: .ref a :: rest)) :=
  va_iald hexec hb hK hP q0 t0 ha ht (vp_in_nI hj hn) hdg (by rw [nI_clamp (by omega)]; exact kk)
theorem w_zald (hexec : p.tables.exec = Jvm.exec) (hb : c.code = cc) (hK : va_K D cl tys s) (hP : va_P D cl ws H) (q0 t0 : Nat) {cA : ClassId} {n : Nat} {f : Nat → Int32} (ha : ws[q0]? = some (a, .inl (cA, n, .inl f))) (ht : tys[t0]? = some (cA, .boolean)) {j : Nat} (hj : j < n) (hn : n < 2 ^ 31) (hdg : decode cc pc = .ok (.baload, 1))
    (kk : W p l e R s m args below meth c H locs cells slots Q (F0 m (pc + 1) ls (.int (f j) :: rest))) : W p l e R s m args below meth c H locs cells slots Q (F0 m pc ls (.int (nI j) :: .ref a :: rest)) :=
  va_zald hexec hb hK hP q0 t0 ha ht (vp_in_nI hj hn) hdg (by rw [nI_clamp (by omega)]; exact kk)
theorem w_iast (hexec : p.tables.exec = Jvm.exec) (hb : c.code = cc) (hK : va_K D cl tys s) (hP : va_P D cl ws H) (hD : va_D A ws) (hS : va_S A H0 H locs) (q0 t0 : Nat) {cA : ClassId} {n : Nat} {f : Nat → Int32} (ha : ws[q0]? = some (a, .inl (cA, n, .inl f))) (ht : tys[t0]? = some (cA, .int)) {j : Nat} {x : Int32} (hj : j < n) (hn : n < 2 ^ 31) (hdg : decode cc pc = .ok (.iastore, 1))
    (kk : ∀ (H1 : Heap) (locs1 : List Loc), va_P D cl (ws.set q0 (a, .inl (cA, n, .inl (upd f j x)))) H1 → va_D A (ws.set q0 (a, .inl (cA, n, .inl (upd f j x)))) → va_S A H0 H1 locs1 → W p l e R s m args below meth c H1 locs1 cells slots Q (F0 m (pc + 1) ls rest)) : W p l e R s m args below meth c H locs cells slots Q (F0 m pc ls (.int x :: .int (nI j) :: .ref a :: rest)) :=
  va_iast hexec hb hK hP hD hS q0 t0 ha ht (vp_in_nI hj hn) hdg (by rw [nI_clamp (by omega)]; exact kk)
/-- a boolean stored that is 0 or 1 -/
theorem w_zast (hexec : p.tables.exec = Jvm.exec) (hb : c.code = cc) (hK : va_K D cl tys s) (hP : va_P D cl ws H) (hD : va_D A ws) (hS : va_S A H0 H locs) (q0 t0 : Nat) {cA : ClassId} {n : Nat} {f : Nat → Int32} (ha : ws[q0]? = some (a, .inl (cA, n, .inl f))) (ht : tys[t0]? = some (cA, .boolean)) {j : Nat} {x : Int32} (hj : j < n) (hn : n < 2 ^ 31) (hx : vp_nar .boolean x = x) (hdg : decode cc pc = .ok (.bastore, 1))
    (kk : ∀ (H1 : Heap) (locs1 : List Loc), va_P D cl (ws.set q0 (a, .inl (cA, n, .inl (upd f j x)))) H1 → va_D A (ws.set q0 (a, .inl (cA, n, .inl (upd f j x)))) → va_S A H0 H1 locs1 → W p l e R s m args below meth c H1 locs1 cells slots Q (F0 m (pc + 1) ls rest)) : W p l e R s m args below meth c H locs cells slots Q (F0 m pc ls (.int x :: .int (nI j) :: .ref a :: rest)) :=
  va_zast hexec hb hK hP hD hS q0 t0 ha ht (vp_in_nI hj hn) hdg (by rw [nI_clamp (by omega), hx]; exact kk)
theorem w_selN {x v1 v2 : Int32} {off off3 n1 n2 : Int} (hx : p.tables.exec = Jvm.exec) (hb : c.code = cc) (d0 : decode cc pc = .ok (.ifCond .ne off, 3)) (t0 : (pc : Int) + off = ((pc + 7 : Nat) : Int)) (d1 : decode cc (pc + 3) = .ok (.iconst n1, 1)) (e1 : Int32.ofInt n1 = v1) (d2 : decode cc (pc + 4) = .ok (.goto off3, 3)) (t2 : ((pc + 4 : Nat) : Int) + off3 = ((pc + 8 : Nat) : Int)) (d3 : decode cc (pc + 7) = .ok (.iconst n2, 1)) (e2 : Int32.ofInt n2 = v2)
    (kk : W p l e R s m args below meth c H locs cells slots Q (F0 m (pc + 8) ls (.int (if x = 0 then v1 else v2) :: rest))) : W p l e R s m args below meth c H locs cells slots Q (F0 m pc ls (.int x :: rest)) := by
  refine lv_if_ne hx hb d0 t0 (fun h => ?_) (fun h => ?_)
  · rw [if_neg h] at kk
    exact lv_iconst hx hb d3 e2 kk
  · rw [if_pos h] at kk
    exact lv_iconst hx hb d1 e1 (lv_goto hx hb d2 t2 kk)
theorem w_selQ {x y v1 v2 : Int32} {off off3 n1 n2 : Int} (hx : p.tables.exec = Jvm.exec) (hb : c.code = cc) (d0 : decode cc pc = .ok (.if_icmp .ne off, 3)) (t0 : (pc : Int) + off = ((pc + 7 : Nat) : Int)) (d1 : decode cc (pc + 3) = .ok (.iconst n1, 1)) (e1 : Int32.ofInt n1 = v1) (d2 : decode cc (pc + 4) = .ok (.goto off3, 3)) (t2 : ((pc + 4 : Nat) : Int) + off3 = ((pc + 8 : Nat) : Int)) (d3 : decode cc (pc + 7) = .ok (.iconst n2, 1)) (e2 : Int32.ofInt n2 = v2)
    (kk : W p l e R s m args below meth c H locs cells slots Q (F0 m (pc + 8) ls (.int (if x = y then v1 else v2) :: rest))) : W p l e R s m args below meth c H locs cells slots Q (F0 m pc ls (.int y :: .int x :: rest)) := by
  refine lv_icmp_ne hx hb d0 t0 (fun h => ?_) (fun h => ?_)
  · rw [if_neg h] at kk
    exact lv_iconst hx hb d3 e2 kk
  · rw [if_pos h] at kk
    exact lv_iconst hx hb d1 e1 (lv_goto hx hb d2 t2 kk)
end RW1
theorem w_P0 {G : va_G} {H : Heap} : va_P G vwCl [] H := fun k q h => by simp at h
theorem w_D0 {A : Nat → Prop} : va_D A [] := ⟨fun i j p q h => by simp at h, fun k q h => by simp at h⟩
/-! the pure picture: numbers as the machine has them, F the arrays' contents, sh the shift -/
def b2i (b : Bool) : Int32 := if b then 1 else 0
theorem b2i_0 {b : Bool} : b2i b = 0 ↔ b = false := by cases b <;> simp [b2i]
theorem b2i_1 {b : Bool} : ¬ b2i b = 0 ↔ b = true := by cases b <;> simp [b2i]
theorem b2i_n (b : Bool) : narrow .boolean (.int (b2i b)) = .int (b2i b) := by cases b <;> rfl
theorem b2i_v (b : Bool) : vp_nar .boolean (b2i b) = b2i b := by cases b <;> rfl
theorem b2i_sel (b : Bool) : (if b2i b = 0 then (0 : Int32) else 1) = b2i b := by cases b <;> simp [b2i]
theorem b2i_sel' (b : Bool) : (if b2i b = 0 then (1 : Int32) else 0) = b2i (!b) := by cases b <;> simp [b2i]
theorem b2i_z (x : Int32) : (if x = 0 then (0 : Int32) else 1) = b2i (!decide (x = 0)) := by by_cases h : x = 0 <;> simp [b2i, h]
theorem b2i_nz (x : Int32) : (if x = 0 then (1 : Int32) else 0) = b2i (decide (x = 0)) := by by_cases h : x = 0 <;> simp [b2i, h]
theorem b2i_q (x y : Int32) : (if x = y then (1 : Int32) else 0) = b2i (decide (x = y)) := by by_cases h : x = y <;> simp [b2i, h]
theorem b2i_o (b : Bool) : b2i (!decide (b2i b = 0)) = b2i b := by cases b <;> simp [b2i]
theorem b2i_T : b2i true = 1 := rfl
theorem b2i_F : b2i false = 0 := rfl
/-- an index that lies in 0 .. n - 1; a number in a .. b -/
def p_in (x : Int32) (n : Nat) : Bool := decide (0 ≤ x.toInt) && decide (x.toInt < (n : Int))
def p_wi (x a b : Int32) : Bool := decide (a ≤ x) && decide (x ≤ b)
theorem i32_lt0 (x : Int32) : x < 0 ↔ x.toInt < 0 := by
  have h0 : (0 : Int32).toInt = 0 := by decide
  rw [Int32.lt_iff_toInt_lt, h0]
theorem pin_neg {x : Int32} {n : Nat} (h : x < 0) : p_in x n = false := by
  rw [i32_lt0] at h
  simp [p_in]; omega
theorem pin_ge {x : Int32} {n : Nat} (hn : n < 2 ^ 31) (h : ¬ x < nI n) : p_in x n = false := by
  rw [Int32.lt_iff_toInt_lt, nI_toInt hn] at h
  simp [p_in]; omega
theorem pin_ok {x : Int32} {n : Nat} (hn : n < 2 ^ 31) (h0 : ¬ x < 0) (h : x < nI n) : p_in x n = true := by
  rw [i32_lt0] at h0
  rw [Int32.lt_iff_toInt_lt, nI_toInt hn] at h
  simp [p_in]; omega
theorem pin_of {x : Int32} {n : Nat} (h : p_in x n = true) : ∃ j : Nat, j < n ∧ x = nI j := by
  simp only [p_in, Bool.and_eq_true, decide_eq_true_eq] at h
  have h9 := Int32.toInt_lt x
  refine ⟨x.toInt.toNat, by omega, Int32.toInt_inj.mp ?_⟩
  rw [nI_toInt (by omega)]
  omega
theorem pin_nI {j n : Nat} (hj : j < n) (hn : j < 2 ^ 31) : p_in (nI j) n = true := by
  simp [p_in, nI_toInt hn, hj]
theorem pin_vp {x : Int32} {n : Nat} (h : p_in x n = true) : vp_in x n := by
  simp only [p_in, Bool.and_eq_true, decide_eq_true_eq] at h
  exact vp_in_iff.mpr h
theorem pwi_of {x : Int32} {b : Nat} (hb : b < 2 ^ 31) (h : p_wi x 0 (nI b) = true) : ∃ j : Nat, j ≤ b ∧ x = nI j := by
  simp only [p_wi, Bool.and_eq_true, decide_eq_true_eq, Int32.le_iff_toInt_le] at h
  have h0 : (0 : Int32).toInt = 0 := by decide
  rw [h0, nI_toInt hb] at h
  refine ⟨x.toInt.toNat, by omega, Int32.toInt_inj.mp ?_⟩
  rw [nI_toInt (by omega)]
  omega
theorem pwi_lt {x a b : Int32} (h : x < a) : p_wi x a b = false := by
  rw [Int32.lt_iff_toInt_lt] at h
  simp [p_wi, Int32.le_iff_toInt_le]; omega
theorem pwi_gt {x a b : Int32} (h : ¬ x ≤ b) : p_wi x a b = false := by
  simp [p_wi, h]
theorem pwi_ok {x a b : Int32} (h : ¬ x < a) (h2 : x ≤ b) : p_wi x a b = true := by
  rw [Int32.lt_iff_toInt_lt] at h
  simp [p_wi, Int32.le_iff_toInt_le] at *; omega
def p_tide (d : Int32) : Int32 := if 20 ≤ d - d / 40 * 40 then (39 - (d - d / 40 * 40)) / 4 else (d - d / 40 * 40) / 4
def p_dusk (d sh : Int32) : Int32 := 34 + p_tide d + sh
def p_dawn (d : Int32) : Int32 := 14 - p_tide d
def p_at (F : Nat → Nat → Int32) (sh : Int32) (o : Nat) (t : Int32) : Bool := decide (p_dusk (t / 48) sh - F 1 o ≤ t - t / 48 * 48) || !decide (p_dawn (t / 48) + F 2 o ≤ t - t / 48 * 48)
def p_on (F : Nat → Nat → Int32) (sh : Int32) (o : Nat) (t : Int32) : Bool := !decide (F 4 o = 0) && p_at F sh o t
def p_ex (F : Nat → Nat → Int32) (o : Nat) (tr : Int32) : Bool := !decide (F 5 o >>> (tr &&& 31) &&& 1 = 0)
def p_bars (F : Nat → Nat → Int32) (sh : Int32) (o p : Nat) (q t : Int32) : Bool := decide (F 0 o = q) && (!p_ex F o (F 6 p) && p_on F sh o t)
/-! counts and sums -/
def p_ct (b : Nat → Bool) : Nat → Nat
  | 0 => 0
  | n + 1 => p_ct b n + (if b n then 1 else 0)
def p_sm (f : Nat → Int32) : Nat → Int32
  | 0 => 0
  | n + 1 => p_sm f n + f n
theorem ct_t {b : Nat → Bool} {n : Nat} (h : b n = true) : p_ct b (n + 1) = p_ct b n + 1 := by simp [p_ct, h]
theorem ct_f {b : Nat → Bool} {n : Nat} (h : b n = false) : p_ct b (n + 1) = p_ct b n := by simp [p_ct, h]
theorem nct_t {b : Nat → Bool} {n : Nat} (h : b n = true) : nI (p_ct b n) + 1 = nI (p_ct b (n + 1)) := by rw [ct_t h, nI_1]
theorem nct_f {b : Nat → Bool} {n : Nat} (h : b n = false) : nI (p_ct b n) = nI (p_ct b (n + 1)) := by rw [ct_f h]
theorem nct_b {b : Nat → Bool} {n : Nat} : nI (p_ct b n) + b2i (b n) = nI (p_ct b (n + 1)) := by
  cases h : b n
  · rw [ct_f h, b2i_F, Int32.add_zero]
  · rw [ct_t h, b2i_T, nI_1]
theorem ct_le (b : Nat → Bool) : ∀ n, p_ct b n ≤ n
  | 0 => Nat.le_refl 0
  | n + 1 => by have := ct_le b n; simp only [p_ct]; split <;> omega
theorem ct_mono (b : Nat → Bool) {i n : Nat} (h : i ≤ n) : p_ct b i ≤ p_ct b n := by
  induction n with
  | zero => have : i = 0 := by omega
            subst this; exact Nat.le_refl _
  | succ n ih =>
    rcases Nat.lt_or_ge i (n + 1) with q | q
    · have := ih (by omega); simp only [p_ct]; omega
    · have : i = n + 1 := by omega
      subst this; exact Nat.le_refl _
theorem ct_pos {b : Nat → Bool} {i n : Nat} (h : i < n) (hb : b i = true) : p_ct b n ≠ 0 := by
  have h1 := ct_mono b (show i + 1 ≤ n by omega)
  rw [ct_t hb] at h1
  omega
theorem ct_cong {b d : Nat → Bool} : ∀ {n : Nat}, (∀ k, k < n → b k = d k) → p_ct b n = p_ct d n
  | 0, _ => rfl
  | n + 1, h => by simp only [p_ct]; rw [ct_cong (fun k hk => h k (by omega)), h n (by omega)]
theorem sm_cong {b d : Nat → Int32} : ∀ {n : Nat}, (∀ k, k < n → b k = d k) → p_sm b n = p_sm d n
  | 0, _ => rfl
  | n + 1, h => by simp only [p_sm]; rw [sm_cong (fun k hk => h k (by omega)), h n (by omega)]
def p_ag (F : Nat → Nat → Int32) (sh : Int32) (no p : Nat) (q t : Int32) : Nat := p_ct (fun o => p_bars F sh o p q t) no
def p_bd (F : Nat → Nat → Int32) (sh : Int32) (np o : Nat) (t : Int32) : Nat := p_ct (fun p => p_bars F sh o p (F 0 o) t) np
def p_mo (F : Nat → Nat → Int32) (sh : Int32) (no : Nat) (t : Int32) : Nat := p_ct (fun o => p_on F sh o t) no
def p_max0 (y : Int32) : Int32 := if 0 < y then y else 0
def p_need (F : Nat → Nat → Int32) (sh : Int32) (p : Nat) (q t : Int32) (sp : Int32) (c : Nat) (o : Nat) : Bool := !decide (nI o = sp) && (decide (F 3 o = nI c) && p_bars F sh o p q t)
def p_lack (F : Nat → Nat → Int32) (sh : Int32) (no p : Nat) (q t : Int32) (sp : Int32) (c : Nat) : Int32 := p_max0 (nI (p_ct (p_need F sh p q t sp c) no) - F 9 (p * 4 + c))
def p_miss (F : Nat → Nat → Int32) (sh : Int32) (no p : Nat) (q t : Int32) (sp : Int32) : Int32 := p_sm (p_lack F sh no p q t sp) 4
def p_fr (F : Nat → Nat → Int32) (sh : Int32) (no : Nat) (t : Int32) (o p : Nat) : Bool := !decide (p_miss F sh no p (F 0 o) t (-1) ≤ 0) && decide (p_miss F sh no p (F 0 o) t (nI o) = 0)
def p_bl (f : Nat → Nat) : Nat → Int32 × Nat
  | 0 => (-1, 0)
  | o + 1 => if (p_bl f o).2 < f o then (nI o, f o) else p_bl f o
def p_tb (F : Nat → Nat → Int32) (sh nw : Int32) (o w : Nat) : Bool := p_on F sh o (nw + nI (w + 1)) && !p_on F sh o (nw + nI w)
def p_ff (P : Nat → Bool) : Nat → Nat → Int32
  | _, 0 => -1
  | k, n + 1 => if P k then nI k else p_ff P (k + 1) n
def p_use (F : Nat → Nat → Int32) (p c : Nat) : Nat → Nat → Int32 := va_up (va_up F 9 (upd (F 9) (p * 4 + c) (F 9 (p * 4 + c) - 1))) 10 (upd (F 10) c (F 10 c + 1))
def p_us (F : Nat → Nat → Int32) (p c : Nat) : Nat → Nat → Int32 := if F 9 (p * 4 + c) = 0 then F else p_use F p c
def p_go (F : Nat → Nat → Int32) (sh : Int32) (p : Nat) (q t : Int32) : Nat → (Nat → Nat → Int32) × Bool
  | 0 => (F, false)
  | o + 1 => if p_bars F sh o p q t then (p_us (p_go F sh p q t o).1 p (F 3 o).toNatClampNeg, (p_go F sh p q t o).2 || decide ((p_go F sh p q t o).1 9 (p * 4 + (F 3 o).toNatClampNeg) = 0)) else p_go F sh p q t o
def p_fine (F : Nat → Nat → Int32) (p : Nat) : Nat → Nat → Int32 := va_up (va_up F 7 (upd (F 7) p (F 7 p + 1))) 8 (upd (F 8) p (F 8 p + 10 * (F 7 p + 1)))
def p_fold (d : Int64) (x : Int32) : Int64 := d * 31 + x.toInt64
def p_fl (f : Nat → Int32) (d : Int64) : Nat → Int64
  | 0 => d
  | n + 1 => p_fold (p_fl f d n) (f n)
def p_fg (g : Nat → Int64 → Int64) (d : Int64) : Nat → Int64
  | 0 => d
  | n + 1 => g n (p_fg g d n)
def p_fo (F : Nat → Nat → Int32) (sh : Int32) (np : Nat) (t : Int32) (o : Nat) (d : Int64) : Int64 :=
  p_fl (fun tr => b2i (p_ex F o (nI tr))) (p_fold (p_fold (p_fold (p_fold (p_fold d (F 0 o)) (F 3 o)) (b2i (!decide (F 4 o = 0)))) (b2i (p_on F sh o t))) (nI (p_bd F sh np o t))) 8
def p_fp (F : Nat → Nat → Int32) (sh : Int32) (nq no : Nat) (t : Int32) (p : Nat) (d : Int64) : Int64 :=
  p_fl (fun q => nI (p_ag F sh no p (nI q) t)) (p_fl (fun c => F 9 (p * 4 + c)) (p_fold (p_fold (p_fold d (F 6 p)) (F 8 p)) (F 7 p)) 4) nq
def p_dig (F : Nat → Nat → Int32) (nq no np : Nat) (sh nw : Int32) : Int64 :=
  p_fg (p_fp F sh nq no nw) (p_fg (p_fo F sh np nw) (p_fl (F 10)
    (p_fold (p_fold (p_fold (p_fold (p_fold (p_fold (p_fold (p_fold (p_fold 1879 (nw / 48)) (nw - nw / 48 * 48)) (p_dusk (nw / 48) sh)) (p_dawn (nw / 48))) (nI nq)) (nI no)) (nI np)) (nI (p_mo F sh no nw))) sh) 4) no) np
/-! which exception a call throws, by number; 0: none -/
def k1 (b : Bool) : Int32 := if b then 0 else 1
def k2 (b d : Bool) : Int32 := if b then (if d then 0 else 2) else 1
def k3 (b d e : Bool) : Int32 := if b then (if d then (if e then 0 else 3) else 2) else 1
theorem pwi_ofn {x a : Int32} {b : Nat} (ha : 0 ≤ a.toInt) (hb : b < 2 ^ 31) (h : p_wi x a (nI b) = true) : ∃ j : Nat, j ≤ b ∧ x = nI j := by
  simp only [p_wi, Bool.and_eq_true, decide_eq_true_eq, Int32.le_iff_toInt_le] at h
  rw [nI_toInt hb] at h
  refine ⟨x.toInt.toNat, by omega, Int32.toInt_inj.mp ?_⟩
  rw [nI_toInt (by omega)]
  omega
def p_pl (p c : Int32) : Nat := p.toNatClampNeg * 4 + c.toNatClampNeg
def p_cap (y : Int32) : Int32 := if y < 9 then y else 9
/-! what a call leaves behind, where it throws nothing -/
def n_ex (F : Nat → Nat → Int32) (o : Nat) (t : Int32) : Nat → Nat → Int32 := va_up F 5 (upd (F 5) o (F 5 o ^^^ (1 <<< (t &&& 31))))
def n_fo (F : Nat → Nat → Int32) (o : Nat) : Nat → Nat → Int32 := va_up F 4 (upd (F 4) o (b2i (decide (F 4 o = 0))))
def n_st (F : Nat → Nat → Int32) (k : Nat) (v : Int32) : Nat → Nat → Int32 := va_up F 9 (upd (F 9) k v)
def n_pe (F : Nat → Nat → Int32) (np : Nat) (t : Int32) : Nat → Nat → Int32 := va_up F 6 (upd (F 6) np t)
def n_or (F : Nat → Nat → Int32) (no : Nat) (q a b c : Int32) : Nat → Nat → Int32 := va_up (va_up (va_up (va_up (va_up F 0 (upd (F 0) no q)) 1 (upd (F 1) no a)) 2 (upd (F 2) no b)) 3 (upd (F 3) no c)) 4 (upd (F 4) no 1)
def n_go (F : Nat → Nat → Int32) (sh : Int32) (no p : Nat) (q t : Int32) : Nat → Nat → Int32 := if (p_go F sh p q t no).2 then p_fine (p_go F sh p q t no).1 p else (p_go F sh p q t no).1
def a_go (F : Nat → Nat → Int32) (sh : Int32) (no p : Nat) (q t : Int32) : Int32 := if (p_go F sh p q t no).2 then 10 * (F 7 p + 1) else 0
def a_pa (F : Nat → Nat → Int32) (sh nw : Int32) (no hh : Nat) : Int32 := p_sm (fun o => nI (p_ct (p_tb F sh nw o) hh)) no
def p_hP (F : Nat → Nat → Int32) (sh nw : Int32) (no p : Nat) (q : Int32) (k : Nat) : Bool := decide (p_ag F sh no p q (nw + nI k) = 0)
def a_hu (F : Nat → Nat → Int32) (sh nw : Int32) (no p : Nat) (q : Int32) : Int32 := p_ff (p_hP F sh nw no p q) 0 49
def p_hB (F : Nat → Nat → Int32) (sh nw : Int32) (o w : Nat) : Bool := p_at F sh o (nw + nI w)
def p_bf (F : Nat → Nat → Int32) (sh nw : Int32) (no np o : Nat) : Nat := p_ct (p_fr F sh no nw o) np
def a_me (F : Nat → Nat → Int32) (np : Nat) : UInt64 := if np = 0 then FP.dconst0 else FP.ddiv (FP.i2d (p_sm (F 8) np)) (FP.i2d (nI np))
theorem ff_t {P : Nat → Bool} {i N : Nat} (h : i < N) (hp : P i = true) : p_ff P i (N - i) = nI i := by
  obtain ⟨k, hk⟩ : ∃ k, N - i = k + 1 := ⟨N - i - 1, by omega⟩
  rw [hk, p_ff, if_pos hp]
theorem ff_f {P : Nat → Bool} {i N : Nat} (h : i < N) (hp : P i = false) : p_ff P i (N - i) = p_ff P (i + 1) (N - (i + 1)) := by
  obtain ⟨k, hk⟩ : ∃ k, N - i = k + 1 := ⟨N - i - 1, by omega⟩
  rw [hk, p_ff, if_neg (by rw [hp]; decide), show N - (i + 1) = k by omega]
theorem bl_t {f : Nat → Nat} {i : Nat} (h : (p_bl f i).2 < f i) : p_bl f (i + 1) = (nI i, f i) := by rw [p_bl, if_pos h]
theorem bl_f {f : Nat → Nat} {i : Nat} (h : ¬ (p_bl f i).2 < f i) : p_bl f (i + 1) = p_bl f i := by rw [p_bl, if_neg h]
theorem bl_le {f : Nat → Nat} {b : Nat} (h : ∀ o, f o ≤ b) : ∀ i, (p_bl f i).2 ≤ b
  | 0 => Nat.zero_le _
  | i + 1 => by rw [p_bl]; split; exact h i; exact bl_le h i
theorem go_keep (F : Nat → Nat → Int32) (sh : Int32) (p : Nat) (q t : Int32) (k : Nat) (h9 : k ≠ 9) (h10 : k ≠ 10) : ∀ o, (p_go F sh p q t o).1 k = F k
  | 0 => rfl
  | o + 1 => by
    rw [p_go]
    split
    · rw [← go_keep F sh p q t k h9 h10 o]
      simp only [p_us, p_use]
      split
      · rfl
      · rw [va_up_ne _ _ h10, va_up_ne _ _ h9]
    · exact go_keep F sh p q t k h9 h10 o
theorem bars_cong {F F' : Nat → Nat → Int32} (h : ∀ k, k ≠ 9 → k ≠ 10 → F' k = F k) (sh : Int32) (o p : Nat) (q t : Int32) : p_bars F' sh o p q t = p_bars F sh o p q t := by
  simp only [p_bars, p_on, p_at, p_ex, h 0 (by decide) (by decide), h 1 (by decide) (by decide), h 2 (by decide) (by decide), h 4 (by decide) (by decide), h 5 (by decide) (by decide), h 6 (by decide) (by decide)]
theorem pl_eq (j c : Nat) : 4 * nI j + nI c = nI (j * 4 + c) := by rw [show (4 : Int32) = nI 4 from rfl, pk_mul, nI_add, Nat.mul_comm]
theorem pwi_gt2 {x a b : Int32} (h : b < x) : p_wi x a b = false := by
  rw [Int32.lt_iff_toInt_lt] at h
  simp [p_wi, Int32.le_iff_toInt_le]; omega
theorem pwi_ok2 {x a b : Int32} (h : ¬ x < a) (h2 : ¬ b < x) : p_wi x a b = true := by
  rw [Int32.lt_iff_toInt_lt] at h h2
  simp [p_wi, Int32.le_iff_toInt_le] at *; omega
theorem pwi_lit (x : Int32) {k : Nat} (hk : k < 2 ^ 31) : p_wi x 0 (nI k) = p_in x (k + 1) := by
  have h0 : (0 : Int32).toInt = 0 := by decide
  simp only [p_wi, p_in, Int32.le_iff_toInt_le, h0, nI_toInt hk]
  congr 1
  exact decide_eq_decide.mpr (by omega)
theorem pwi_in (x : Int32) {n : Nat} (hn : n < 2 ^ 31) : p_wi x 0 (nI n - 1) = p_in x n := by
  cases n with
  | zero =>
    have h0 : (0 : Int32).toInt = 0 := by decide
    have h1 : (nI 0 - 1 : Int32).toInt = -1 := by decide
    simp only [p_wi, p_in, Int32.le_iff_toInt_le, h0, h1]
    congr 1
    exact decide_eq_decide.mpr (by omega)
  | succ k => rw [nI_pred, pwi_lit x (by omega)]
theorem and1 (x : Int32) : x &&& 1 = 0 ∨ x &&& 1 = 1 := by
  obtain ⟨j, hj, e⟩ := pk_andE x (m := 1) 1 (by decide)
  rcases (show j = 0 ∨ j = 1 by omega) with rfl | rfl
  · exact Or.inl e
  · exact Or.inr e
theorem and1_q (x : Int32) : decide (x &&& 1 = 1) = !decide (x &&& 1 = 0) := by
  rcases and1 x with h | h <;> rw [h] <;> rfl
theorem and1_b (x : Int32) : x &&& 1 = b2i (!decide (x &&& 1 = 0)) := by
  rcases and1 x with h | h <;> rw [h] <;> rfl
theorem ex_t {F : Nat → Nat → Int32} {o : Nat} {t : Int32} (h : F 5 o >>> (t &&& 31) &&& 1 = 1) : p_ex F o t = true := by rw [p_ex, h]; rfl
theorem ex_f {F : Nat → Nat → Int32} {o : Nat} {t : Int32} (h : ¬ F 5 o >>> (t &&& 31) &&& 1 = 1) : p_ex F o t = false := by
  rcases and1 (F 5 o >>> (t &&& 31)) with q | q
  · rw [p_ex, q]; rfl
  · exact absurd q h
theorem ne_t {n k : Nat} (h : ¬ nI n = nI k) : (!decide (n = k)) = true := by
  rw [decide_eq_false (fun e => h (by rw [e]))]; rfl
theorem ne_f {n k : Nat} (hn : n < 2 ^ 31) (hk : k < 2 ^ 31) (h : nI n = nI k) : (!decide (n = k)) = false := by
  rw [decide_eq_true ((nI_eq hn hk).mp h)]; rfl
/-- what a call leaves: y where it throws nothing, x as it was else -/
def nx {α : Type} (k : Int32) (y x : α) : α := if k = 0 then y else x
theorem nx0 {α : Type} {y x : α} : nx 0 y x = y := if_pos rfl
theorem nx1 {α : Type} {y x : α} : nx 1 y x = x := if_neg (by decide)
theorem nx2 {α : Type} {y x : α} : nx 2 y x = x := if_neg (by decide)
theorem nx3 {α : Type} {y x : α} : nx 3 y x = x := if_neg (by decide)
theorem pred1 (n : Nat) : nI (n + 1) - 1 = nI n := nI_pred n
/-! the reference's own ways of counting -/
def p_pB (F : Nat → Nat → Int32) (sh nw : Int32) (k o : Nat) : Bool := p_on F sh o (nw + nI k + 1) && !p_on F sh o (nw + nI k)
def p_w0 (F : Nat → Nat → Int32) (wt : Nat → Int32) (p : Nat) : Nat → Nat → Int32
  | 0 => wt
  | i + 1 => upd (p_w0 F wt p i) i (-F 9 (p * 4 + i))
def p_w1 (F : Nat → Nat → Int32) (sh : Int32) (w0 : Nat → Int32) (p : Nat) (q t : Int32) : Nat → Nat → Int32
  | 0 => w0
  | o + 1 => if p_bars F sh o p q t then upd (p_w1 F sh w0 p q t o) (F 3 o).toNatClampNeg (p_w1 F sh w0 p q t o (F 3 o).toNatClampNeg + 1) else p_w1 F sh w0 p q t o
def p_sn (f : Nat → Nat) : Nat → Nat
  | 0 => 0
  | n + 1 => p_sn f n + f n
def p_pq (F : Nat → Nat → Int32) (sh : Int32) (no : Nat) (t : Int32) (p q : Nat) : Bool := decide (p_miss F sh no p (nI q) t (-1) = 0)
def p_pr (F : Nat → Nat → Int32) (sh : Int32) (nq no np : Nat) (t : Int32) : Nat := p_sn (fun p => p_ct (p_pq F sh no t p) nq) np
def p_lf (F : Nat → Nat → Int32) (o : Nat) : Nat → Nat → Int32 := va_up F 4 (upd (F 4) o 0)
def p_bM (F : Nat → Nat → Int32) (sh : Int32) (nq no np : Nat) (t : Int32) : Nat → Int32 × Nat
  | 0 => (-1, p_pr F sh nq no np t)
  | o + 1 => if F 4 o = 0 then p_bM F sh nq no np t o else if (p_bM F sh nq no np t o).2 < p_pr (p_lf F o) sh nq no np t then (nI o, p_pr (p_lf F o) sh nq no np t) else p_bM F sh nq no np t o
theorem lf_back {F : Nat → Nat → Int32} {o : Nat} (h : F 4 o = 1) : va_up F 4 (upd (upd (F 4) o 0) o 1) = F := by
  funext k
  by_cases hk : k = 4
  · subst hk
    rw [va_up_self]
    funext i
    by_cases hi : i = o
    · subst hi; simp [upd, h]
    · simp [upd, hi]
  · rw [va_up_ne _ _ hk]
theorem sn_le {f : Nat → Nat} {b : Nat} (h : ∀ k, f k ≤ b) : ∀ n, p_sn f n ≤ n * b
  | 0 => Nat.zero_le _
  | n + 1 => by have := sn_le h n; have := h n; simp only [p_sn, Nat.succ_mul]; omega
theorem pr_le (F : Nat → Nat → Int32) (sh : Int32) {nq no np : Nat} (t : Int32) (hq : nq ≤ 6) (hp : np ≤ 20) : p_pr F sh nq no np t ≤ 120 := by
  have h := sn_le (f := fun p => p_ct (p_pq F sh no t p) nq) (b := 6) (fun k => Nat.le_trans (ct_le _ _) hq) np
  unfold p_pr
  omega
theorem nn_vf {r : UInt64} (h : FP.Core.dIsNaN r = false) : vf_n64 r := by
  rw [← Bool.not_eq_true, FP.Core.isNaN_bits] at h
  unfold vf_n64
  rw [UInt64.le_iff_toNat_le, UInt64.toNat_and]
  have h1 : (0x7fffffffffffffff : UInt64).toNat = 2 ^ 63 - 1 := by decide
  have h2 : (0x7ff0000000000000 : UInt64).toNat = 9218868437227405312 := by decide
  rw [h1, h2, Nat.and_two_pow_sub_one_eq_mod]
  omega
theorem nn_div (x : Int32) {y : Int32} (h : y ≠ 0) : FP.Core.dIsNaN (FP.ddiv (FP.i2d x) (FP.i2d y)) = false := by
  show FP.Core.dIsNaN (FP.Core.ddiv (FP.Core.i2d x) (FP.Core.i2d y)) = false
  exact FP.Core.ddiv_out ((FP.Core.notNaN_iff _).mpr (FP.Core.i2d_fin x).ne_nan) (FP.Core.i2d_fin y) (mt (FP.Core.zero_bits2 _).mp (FP.Core.i2d_ne_zero h))
end ROW
