section LAW
/-- a room that holds the whole run -/
def RR : Room := { frames := 12, cells := 1000000, slots := 19000000, locals := 462 }
def oA (s : State) : Nat → Prop := fun q => s.heap.size ≤ q
/-- what the walk comes to: the law has answered 0, or it is under way and has made more than the claim allows -/
def LQ (below : List Frame) (s : State) : State → Prop := fun t => (t.status = .running ∧ Ended t below (.returned (some (.int 0)))) ∨ (Within t below ∧ s.slotsUsed + 7301314 < t.slotsUsed)
section LA1
variable {p : Program} {l : Launch} {e : Env} {R : Room} {s : State} {m : MethodId} {args : Array Value} {below : List Frame} {meth : Method} {c : Code} {H : Heap} {locs : List Loc} {cells slots : Nat} {Q : State → Prop}
variable {cc : ByteArray} {pc : Nat} {ls : Array Slot} {rest st0 : List Value} {G : va_G} {A : Nat → Prop} {H0 : Heap} {aa : Array Value} {K : Nat}
theorem o_ret0 (hx : p.tables.exec = Jvm.exec) (hb : c.code = cc) (hr : meth.sig.returnType = some .boolean) (hlocks : meth.locks = false) (hS : va_S A s.heap H locs) (hdg : decode cc pc = .ok (.ireturn, 1)) : W p l e R s m args below meth c H locs cells slots (LQ below s) (F0 m pc ls [.int 0]) := by
  intro T hT X
  obtain ⟨t, st, o, h1, h2, h3, -⟩ := W.zret (Qc := fun _ _ o _ => o = .returned (some (.int 0))) (free := A) hx hb hr rfl (fun t ht hW => rfl) hS.2.2 hdg hlocks T hT X
  subst h3
  exact ⟨t, st, Or.inl ⟨h1, h2⟩⟩
theorem o_win {g : JFrame} (hs : s.slotsTrue = true) (hM : slotSum s.heap + 7301315 ≤ slotSum H) : W p l e R s m args below meth c H locs cells slots (LQ below s) g := by
  intro T hT X
  refine ⟨T.setTop g, Steps.refl _, Or.inr ⟨X.here.within g, ?_⟩⟩
  have h1 := o_book X
  have h2 : s.slotsUsed = slotSum s.heap := (State.slotsTrue_iff s).mp hs
  show s.slotsUsed + 7301314 < T.slotsUsed
  rw [h1, h2, hT]
  omega
theorem o_rd {cI cZ : ClassId} {hc : Nat} {a : Nat → Nat} {w : BW} {T q o p9 : Nat} {S : Type} {post : Int32 → S → Prop} (hM : K ≤ slotSum H) (hP : va_P G vwCl (WB cI cZ hc a w T q o p9) H) (hD : va_D A (WB cI cZ hc a w T q o p9)) (hS : va_S A H0 H locs) (hA : ∀ x : Nat, H0.size ≤ x → A x)
    (hr : va_Run p l e R s m args below meth c H locs cells slots 0 0 (F0 m pc ls st0) rest (va_Qi post (fun _ => wP G (ty2 cI cZ) (Dk cI cZ hc a w.2.2.2.1 q o p9 0 w.2.2.2.2.1) (va_A (Dk cI cZ hc a w.2.2.2.1 q o p9 0 w.2.2.2.2.1) H.size)) (va_A (Dk cI cZ hc a w.2.2.2.1 q o p9 0 w.2.2.2.2.1) H.size) aa) (va_A (Dk cI cZ hc a w.2.2.2.1 q o p9 0 w.2.2.2.2.1) H.size))
    (kk : ∀ (r : Int32) (H : Heap) (locs : List Loc), (∃ u, post r u) → va_P G vwCl (WB cI cZ hc a w T q o p9) H → va_D A (WB cI cZ hc a w T q o p9) → va_S A H0 H locs → K ≤ slotSum H → W p l e R s m args below meth c H locs cells slots Q (F0 m (pc + 3) ls (.int r :: rest))) : W p l e R s m args below meth c H locs cells slots Q (F0 m pc ls st0) :=
  o_plw (X := WBx cI cZ hc a w T q o p9) (pl := va_pl w.2.1.2.2 w.2.2.2.2.2) (wr := [OA w.2.2.1 w.1.2.1 w.2.1.1, PA w.2.2.1 w.1.2.2.1 w.2.1.2.1, SM w.1.1 w.1.2.1 w.1.2.2.1 w.1.2.2.2 (nI (T / 48)) (nI (T % 48)) q o p9]) hr hM hP hD hS hA [3, 4, 5, 6, 7, 8, 9, 10, 11, 12, 13, 14] [0, 1, 2] rfl rfl rfl (by decide) (by decide) (fun r u H locs hw hP hD hS hM => kk r H locs ⟨u, hw⟩ hP hD hS hM)
end LA1
def LCx (pg : Program) (s : State) (m : MethodId) (b : Nat) (meth : Method) (cd : Code) (G : va_G) (cI cZ : ClassId) : Prop :=
  pg.tables.exec = Jvm.exec ∧ cd.code = cL_law ∧ cd.maxLocals = 17 ∧ meth.sig.returnType = some .boolean ∧ (∀ w ∈ wsL_law, w.before #[Value.ref b] s = true) ∧ s.vm.findClass RL = some m.cls ∧ meth.locks = false ∧ va_K G vwCl (ty2 cI cZ) s
def LBx (w : BW) (qn on pn C0 S0 : Nat) : Prop := qn ≤ 6 ∧ on ≤ 10 ∧ pn ≤ 20 ∧ CI w.2.2.2.1 pn ∧ C0 ≤ 1000000 ∧ S0 ≤ 19000000
def LK (pg : Program) (l : Launch) (e : Env) (s : State) (m : MethodId) (b : Nat) (below : List Frame) (meth : Method) (cd : Code) (G : va_G) (WW : va_W) (K C0 S0 pc : Nat) (loc : List (Nat × Value)) (st : List Value) : Prop :=
  ∀ (H : Heap) (locs : List Loc) (ls : Array Slot) (cells slots : Nat), cells ≤ C0 → slots ≤ S0 → va_P G vwCl WW H → va_D (oA s) WW → va_S (oA s) s.heap H locs → K ≤ slotSum H → lv_has ls 17 loc → W pg l e RR s m #[Value.ref b] below meth cd H locs cells slots (LQ below s) (F0 m pc ls st)
end LAW
