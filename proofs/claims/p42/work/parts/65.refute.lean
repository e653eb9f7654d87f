section REF
def o_cells : Array Value := #[.int (-506284045), .int (156018357), .int (54567294), .int (130057191), .int (-2087119424), .int (-2142956727), .int (-2289230), .int (53673240), .int (8736056), .int (-2131360336), .int (-4097802), .int (-10489025), .int (2340089), .int (-2138665437), .int (-11341130), .int (-2115085653)]
/-- the witness's own start, with this script in place of its own; a machine with room to spare -/
def o_s : State := start1.aboutOf o_cells
def o_e : Env := launch0.env 0 2000000 40000000
def o_wd (c : Cond) : Bool := c.onTables || c.before #[Value.ref 0] o_s
theorem o_split {α : Type} (p : α → Bool) (n : Nat) (l : List α) (h1 : (l.take n).all p = true) (h2 : (l.drop n).all p = true) : l.all p = true := by
  rw [← List.take_append_drop n l, List.all_append, h1, h2]
  rfl
set_option maxRecDepth 100000 in
theorem o_w1 : tables_1_1.all o_wd = true := o_split _ 120 _ (by decide +kernel) (by decide +kernel)
set_option maxRecDepth 100000 in
theorem o_w2 : tables_1_2.all o_wd = true := o_split _ 120 _ (by decide +kernel) (by decide +kernel)
set_option maxRecDepth 100000 in
theorem o_w3 : tables_1_3.all o_wd = true := by decide +kernel
theorem o_word {c : Cond} (h : c.before start1.args0 start1.about = true) (hw : o_wd c = true) : c.before #[Value.ref 0] o_s = true := by
  unfold o_wd at hw
  rcases (Bool.or_eq_true _ _).mp hw with h1 | h1
  · exact va_tabs h1 (rfl : start1.about.vm = o_s.vm) h
  · exact h1
theorem o_words : ∀ c ∈ (Cond.code x code maxLocals ret :: tables_1), c.before #[Value.ref 0] o_s = true := by
  intro c hc
  have h0 := start1.words c hc
  rcases List.mem_cons.mp hc with rfl | h
  · exact o_word h0 rfl
  · have h1 : c ∈ tables_1_1 ++ (tables_1_2 ++ tables_1_3) := h
    rcases List.mem_append.mp h1 with h2 | h2
    · exact o_word h0 (List.all_eq_true.mp o_w1 c h2)
    · rcases List.mem_append.mp h2 with h3 | h3
      · exact o_word h0 (List.all_eq_true.mp o_w2 c h3)
      · exact o_word h0 (List.all_eq_true.mp o_w3 c h3)
set_option maxRecDepth 100000 in
theorem o_room1 : o_s.hasRoom o_e.platform room_1 = true := by decide +kernel
set_option maxRecDepth 100000 in
theorem o_roomR : o_s.hasRoom o_e.platform RR = true := by decide +kernel
set_option maxRecDepth 100000 in
theorem o_applies {R : Room} (hR : o_s.hasRoom o_e.platform R = true) : (headSpec (Cond.code x code maxLocals ret :: tables_1) R).applies x o_e.platform o_s = true :=
  (Spec.applies_iff (m := ⟨0, 0⟩) (args := #[Value.ref 0]) (below := Lib.HandBits.below0) rfl).mpr ⟨rfl, rfl, rfl, by decide +kernel, by decide +kernel, by decide +kernel, hR, atoms_intro o_words⟩
set_option maxRecDepth 100000 in
theorem o_fits : argsFit o_s.vm ⟨0, 0⟩ #[Value.ref 0] = true ∧ heapFits o_s = true := ⟨by decide +kernel, by decide +kernel⟩
set_option maxRecDepth 100000 in
theorem o_pre1 : rest_1_c.before #[Value.ref 0] o_s = true ∧ (Cond.and given_1 narrow_1).before #[Value.ref 0] o_s = true := ⟨by decide +kernel, by decide +kernel⟩
set_option maxRecDepth 100000 in
theorem o_slots : o_s.slotsTrue = true ∧ 0 < o_s.heap.size := ⟨by decide +kernel, by decide +kernel⟩
set_option maxRecDepth 100000 in
theorem o_int : o_s.vm.findClass ("[" ++ FieldType.int.toString) = some 13 := by decide +kernel
theorem o_scr (cI : ClassId) (h : o_s.vm.findClass ("[" ++ FieldType.int.toString) = some cI) : o_s.heap[0]? = some (vp_cell cI (16, .inl o_xs)) := by
  have e : cI = 13 := Option.some.inj (h.symm.trans o_int)
  subst e
  show some ({ cls := 13, slots := o_cells, vm := .none } : Cell) = some (arrV 13 16 (fun j => .int (o_xs j)))
  refine congrArg some ?_
  show ({ cls := 13, slots := o_cells, vm := .none } : Cell) = { cls := 13, slots := Array.ofFn (n := 16) fun j => .int (o_xs j.val), vm := .none }
  have e2 : o_cells = Array.ofFn (n := 16) fun j => (.int (o_xs j.val) : Value) := by decide +kernel
  rw [← e2]
/-- the claim's own run -/
def o_K (p : Program) (e : Env) (below : List Frame) (s : State) (args : Array Value) : Prop :=
  ∃ n o, (∀ k, k < n → Within (stepsAlone p.tables e k s) below) ∧ (stepsAlone p.tables e n s).status = .running ∧ Ended (stepsAlone p.tables e n s) below o ∧ Post_1_2 p.tables e args s o (stepsAlone p.tables e n s)
set_option maxHeartbeats 4000000 in
theorem o_met0 : MetFree launch0 x (headSpec (Cond.code x code maxLocals ret :: tables_1) RR) (fun args s => args = #[Value.ref 0] ∧ s = o_s) o_K (fun _ _ _ _ => False) := by
  refine MetFree.of_bodyR (code := code) (maxLocals := maxLocals) (ret := ret) (by decide) ?_ ?_
  · intro args s m h hn
    obtain ⟨meth, c, h1, h2, h3, h4, h5, h6, -, -⟩ := Cond.code_spec hn (atoms_spec (ws := Cond.code x code maxLocals ret :: tables_1) h _ List.mem_cons_self)
    exact ⟨meth, c, h1, h2, h3, h4, h5, h6⟩
  · intro p e s m args below meth c s₁ B hml0 hP hK hrun
    exfalso
    obtain ⟨rfl, rfl⟩ := hP
    have hown : o_s.vm.findClass RL = some m.cls := findClass_of_methodNamed B.named
    have hts0 : ∀ c ∈ (Cond.code x code maxLocals ret :: tables_1), c.before #[Value.ref 0] o_s = true := atoms_spec (ws := Cond.code x code maxLocals ret :: tables_1) B.pre
    have hts : ∀ w ∈ lw_tbl, w.before #[Value.ref 0] o_s = true := k2_hts_sels lw_privs (fun w hw => hts0 w (List.mem_cons_of_mem _ hw)) lw_privs_ok
    have hml : c.maxLocals = 17 := B.maxLocals_eq (hts0 _ List.mem_cons_self)
    have X₀ : Stand p launch0 e RR o_s m #[Value.ref 0] below meth c s₁ [] 0 0 := Stand.of_body B
    have hh0 : s₁.heap = o_s.heap := by rw [B.state]; rfl
    have Kw : W p launch0 e RR o_s m #[Value.ref 0] below meth c s₁.heap [] 0 0 (LQ below o_s) (entryFrame m ([Value.ref 0] : List Value).toArray 17) := by
      rw [hh0]
      exact law_walk launch0 o_qf o_of o_pf o_tf o_mf o_qg o_og o_pg o_tg o_mg B.exec B.bytes B.returns hml hown hts B.notSynchronized o_slots.1 o_slots.2 o_scr o_N67 o_start o_run1 o_cont o_run2 o_end
    obtain ⟨t, st, hq⟩ := Kw s₁ rfl X₀
    have st2 : Steps p.tables e below o_s t := hrun.trans st
    obtain ⟨n, o, hw, hr, he, hpost⟩ := hK
    obtain ⟨k, hk, hwk⟩ := st2
    rcases hq with ⟨h1, h2⟩ | ⟨h1, h2⟩
    · obtain ⟨e1, ho⟩ := the_end_unique (f := fun j => stepsAlone p.tables e j o_s) hw he hwk (show Ended (stepsAlone p.tables e k o_s) below _ from by rw [hk]; exact h2)
      subst ho
      have h3 := Cond.after_iff.mp hpost.1
      rw [show limb_1_2 = Cond.eq .result (.int 1) from rfl, Cond.eq_ints (x := 0) (y := 1) rfl rfl] at h3
      exact absurd h3 (by decide)
    · have hkn : k < n := by
        rcases Nat.lt_trichotomy k n with h | h | h
        · exact h
        · subst h
          rw [hk] at he
          exact absurd h1 he.not_within
        · exact absurd (hwk n h) he.not_within
      obtain ⟨j, rfl⟩ := Nat.exists_eq_add_of_le (Nat.le_of_lt hkn)
      have hg := (stepsAlone_heap_grows_add p.tables e k j o_s).2
      rw [hk] at hg
      obtain ⟨-, -, hs⟩ := hpost.2.1
      have h4 := hs.2.2.2.1
      have h5 := hs.2.2.2.2.1
      have h6 : (stepsAlone p.tables e (k + j) o_s).slotsUsed ≤ o_s.slotsUsed + 7301314 := Nat.le_trans (Nat.le_of_eq h4) (Nat.add_le_add_left h5 _)
      omega
/-- THE REFUTATION: the claim's second limb (the law answers 1 and makes no more than 7301314 slots) is false: on this script the law makes more, or answers 0 -/
theorem p42_limb2_false : ¬ Claimed_1_2 := by
  intro h
  have hc := h launch0 rfl lists_1 trivial start1.p0 o_e (launch0.admits_env _ _ _) fairChoices_fair.cas fairChoices_fair.clock o_s ⟨0, 0⟩ #[Value.ref 0] Lib.HandBits.below0 rfl o_fits.1 o_fits.2 (o_applies o_room1) ⟨trivial, o_pre1.1, o_pre1.2⟩
  obtain ⟨n, o, -, -, -, hF⟩ := o_met0 start1.p0 o_e (launch0.admits_env _ _ _) fairChoices_fair.cas fairChoices_fair.clock o_s ⟨0, 0⟩ #[Value.ref 0] Lib.HandBits.below0 rfl ((Spec.applies_iff_loose rfl).mp (o_applies o_roomR)).1 ⟨rfl, rfl⟩ hc
  exact hF
/-- so the owed statement is false -/
theorem p42_refuted : ¬ (Claimed_1_1 ∧ Claimed_1_2) := fun h => p42_limb2_false h.2
end REF
