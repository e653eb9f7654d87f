section STX
/-! what a throw stands on: two statics of Throwable, that a class can be cast to itself, the texts -/
def xI : String := "java/lang/IndexOutOfBoundsException"
def xA : String := "java/lang/IllegalArgumentException"
def xS : String := "java/lang/IllegalStateException"
abbrev xN : List String := ["java/lang/RuntimeException", "java/lang/Exception"]
def zB : List Cond := [.castable xI xI, .castable xA xA, .castable xS xS, .declares (Bundle.initS "java/lang/RuntimeException"), .declares (Bundle.initS "java/lang/Exception"), .declares (Bundle.initS Bundle.tN)]
def zT : List (Nat × String) := [(192, "no such quarter"), (195, "no such order"), (197, "no such person"), (199, "no such trade"), (201, "no such colour"), (205, "out of the range that is allowed"), (50, "the town has all its quarters"), (62, "the town has all its people"), (77, "the town has all its orders")]
def zX (A : Nat → Prop) (U : State) (H : Heap) : Prop :=
  vx_Zq Bundle.tN "UNASSIGNED_STACK" Bundle.steD A U H ∧ vx_Zq Bundle.tN "SUPPRESSED_SENTINEL" Bundle.listD A U H ∧ (∀ w ∈ zB, ∀ a' : Array Value, w.before a' U = true) ∧ ∀ q ∈ zT, ∃ sa : Nat, vk_R RX0 q.1 q.2 sa U
theorem zB_moved {s U : State} (h : s.vm.Alike U.vm) {w : Cond} (hw : w ∈ zB) (hc : ∀ a' : Array Value, w.before a' s = true) (a' : Array Value) : w.before a' U = true := by
  have hf : w.faceAtom = true ∧ w.onTables = true := by
    simp only [zB, List.mem_cons, List.not_mem_nil, or_false] at hw
    rcases hw with rfl | rfl | rfl | rfl | rfl | rfl <;> exact ⟨rfl, rfl⟩
  have h1 := Cond.faceAtom_setVm (args := a') h w hf.1 (hc a')
  rw [Cond.onTables_vm (A' := a') (U' := U) U.vm _ hf.2, State.setVm_self] at h1
  exact h1
theorem zX.go {A B : Nat → Prop} {s U : State} {H H1 : Heap} (hW : s.WarmedH U.vm) (hk : ∀ q : Nat, q < H.size → ¬ A q → H1[q]? = H[q]?) (hAB : ∀ q, B q → A q) (h : zX A s H) : zX B U H1 := by
  obtain ⟨h1, h2, h3, h4⟩ := h
  refine ⟨(vx_Zq.moved hW.alike (h1.kept hk)).narrow hAB, (vx_Zq.moved hW.alike (h2.kept hk)).narrow hAB, fun w hw a' => zB_moved hW.alike hw (h3 w hw) a', fun q hq => ?_⟩
  obtain ⟨sa, hsa⟩ := h4 q hq
  exact ⟨sa, vk_R.warm hW hsa⟩
/-- a throwing method's start over a world -/
def wPreX (G : va_G) (tys : List (ClassId × FieldType)) (ww : va_W) (sz : Nat) (U : State) : Prop := wPre G tys ww sz U ∧ zX (va_A ww sz) U U.heap
theorem wPreX_blind {G : va_G} {tys : List (ClassId × FieldType)} {ww : va_W} {sz : Nat} {vs : List Value} : FrameBlind (va_Pc vs (wPreX G tys ww sz)) := by
  intro a U g mk q
  obtain ⟨q0, q1, qZ⟩ := q
  exact ⟨q0, (wPre_blind (vs := vs) a U g mk ⟨q0, q1⟩).2, qZ.go (State.WarmedH.refl U) (fun _ _ _ => rfl) (fun _ h => h)⟩
theorem w_preX {s : State} {H : Heap} {locs : List Loc} {G : va_G} {tysC : List (ClassId × FieldType)} {wc : va_W} {A : Nat → Prop} {vs : List Value} (hK : va_K G vwCl tysC s) (hP : va_P G vwCl wc H) (hD : va_D A wc) (hF : ∀ q, va_A wc H.size q → A q) (hS : va_S A s.heap H locs) (hZ : zX A s s.heap) : ∀ U : State, U.heap = H → s.WarmedH U.vm → va_Pc vs (wPreX G tysC wc H.size) vs.toArray U :=
  fun U hU hW => ⟨rfl, (w_pre (vs := vs) hK hP hD U hU hW).2, hZ.go hW (fun q h1 h2 => by rw [hU]; exact hS.2.1 q h1 h2) hF⟩
/-- how a method of the desk throws: which class, the world as it was -/
def wXC (bad : String → Prop) (G : va_G) (tys : List (ClassId × FieldType)) (ww : va_W) (A : Nat → Prop) : String → State → State → Prop := vx_X (fun _ : Unit => True) (fun E _ t => bad E ∧ wP G tys ww A t) A
theorem w_metX {l : Launch} {y : MethodName} {ws ws' : List Cond} {rm : Room} {Qc : Array Value → State → Outcome → State → Prop} {XC : String → State → State → Prop} {mc ms : Nat} {cc : ByteArray} {maxL : Nat} {ret : Option FieldType} {G : va_G} {tys : List (ClassId × FieldType)} {ww : va_W} {sz : Nat} {vs : List Value}
    (hy : plainName y.cls = true) (hw : ws = Cond.code y cc maxL ret :: ws') (hn : (lg_sl vs).length ≤ maxL)
    (body : ∀ (p : Program) (e : Env) (s : State) (m : MethodId) (below : List Frame) (meth : Method) (c : Code), p.tables.exec = Jvm.exec → c.code = cc → c.maxLocals = maxL → meth.sig.returnType = ret → (∀ w ∈ ws, w.before vs.toArray s = true) → s.vm.findClass y.cls = some m.cls → meth.locks = false → meth.name = y.name → (∀ x ∈ c.exceptionTable.toList, False) → zX (va_A ww sz) s s.heap →
      va_K G vwCl tys s → s.heap.size = sz → va_P G vwCl ww s.heap → va_D (va_A ww sz) ww → (∀ q : Nat, s.heap.size ≤ q → va_A ww sz q) → va_S (va_A ww sz) s.heap s.heap [] → ∀ ls : Array Slot, lv_has ls maxL (lv_args 0 vs) →
      W p l e rm s m vs.toArray below meth c s.heap [] 0 0 (vx_MQ below Qc XC vs.toArray s mc ms (va_A ww sz)) (F0 m 0 ls [])) :
    vx_Met l y ws rm (va_Pc vs (wPreX G tys ww sz)) Qc XC mc ms (va_A ww sz) := by
  refine vx_ofW (cc := cc) (maxL := maxL) (ret := ret) hy hw ?_
  intro p e s m args below meth c s₁ B hml hno hv
  obtain ⟨rfl, ⟨hsz, hP, hK, hD0⟩, hZ⟩ := hv
  have hts := atoms_spec (ws := ws) B.pre
  have hl := lv_entry vs (n := maxL) hn
  rw [lg_entry_eq]
  generalize (lg_sl vs ++ List.replicate (maxL - (lg_sl vs).length) Slot.unset).toArray = ls at hl ⊢
  exact body p e s m below meth c B.exec B.bytes hml B.returns hts (findClass_of_methodNamed B.named) B.notSynchronized (name_of_methodNamed B.named B.method).1 hno hZ hK hsz hP (hD0.self (sz := sz)) (fun q h => Or.inr (by rw [← hsz]; exact h)) va_S.rf ls hl
section WX
variable {p : Program} {l : Launch} {e : Env} {R : Room} {s : State} {m : MethodId} {args : Array Value} {below : List Frame} {meth : Method} {c : Code} {H : Heap} {locs : List Loc} {cells slots : Nat} {Q : State → Prop}
variable {cc : ByteArray} {pc : Nat} {ls : Array Slot} {rest st0 : List Value} {G : va_G} {tys tysC : List (ClassId × FieldType)} {ww wc wr : va_W} {A : Nat → Prop} {H0 : Heap} {mc ms mc1 ms1 : Nat} {aa : Array Value} {Qc : Array Value → State → Outcome → State → Prop}
theorem w_throw {own cls text : String} {ik is ic : Nat} {bad : String → Prop} {Ts : List Cond} (hx : p.tables.exec = Jvm.exec) (hb : c.code = cc) (hfl : l.flags = flags0) (hts : ∀ w ∈ Ts, w.before args s = true) (hown : s.vm.findClass own = some m.cls) (hlocks : meth.locks = false) (hno : ∀ x ∈ c.exceptionTable.toList, False) (hZ : zX A s s.heap)
    (hK : va_K G vwCl tys s) (hP : va_P G vwCl ww H) (hD : va_D A ww) (hS : va_S A s.heap H locs) (hsize : ls.size = c.maxLocals)
    (hcls : Bundle.fit cls = true) (hnames : ∀ n ∈ xN, Bundle.fit n = true) (hk : Cond.classLink own ik cls ∈ Ts) (hini : Cond.initialized cls ∈ Ts) (ho : own = RX0) (hstr : (is, text) ∈ zT)
    (h1 : ∀ w ∈ (vx_atS own ic cls xN).filter goodWord, w ∈ Ts) (h2 : ∀ w ∈ (vx_atS own ic cls xN).filter (fun w => !goodWord w), w ∈ zB) (hgood : ∀ w ∈ Cond.classLink own ik cls :: Cond.initialized cls :: vx_atS own ic cls xN, vx_ot w = true)
    (d0 : decode cc pc = .ok (.new ik, 3)) (d3 : decode cc (pc + 3) = .ok (.dup, 1)) (d4 : decode cc (pc + 4) = .ok (.ldc is, 2)) (d6 : decode cc (pc + 6) = .ok (.invokespecial ic, 3)) (d9 : decode cc (pc + 9) = .ok (.athrow, 1))
    (hRf : 5 < R.frames) (hRl : (rest.map fun v => v.category).sum + 82 ≤ R.locals) (hRc : cells + 1 ≤ R.cells) (hRs : slots + 6 ≤ R.slots) (hc : cells + 1 ≤ mc) (hs : slots + 6 ≤ ms) (hbad : bad cls) :
    W p l e R s m args below meth c H locs cells slots (vx_MQ below Qc (wXC bad G tys ww A) args s mc ms A) (F0 m pc ls rest) := by
  subst ho
  obtain ⟨sa, hsa⟩ := hZ.2.2.2 _ hstr
  have hst : l.stackTraces = false := by rw [Launch.stackTraces, hfl]; decide +kernel
  exact vx_throwS hx hb hst (names := xN) hown hcls hnames (hts _ hk) (hts _ hini) hsa (vx_hat (fun w hw => hts w (h1 w hw)) h2 (fun w hw => hZ.2.2.1 w hw args)) hgood hZ.1 hZ.2.1 hS hsize d0 d3 d4 d6 d9 (fun x hx => (hno x hx).elim) hRf hRl hRc hRs hlocks
    (fun t hal hz hq => ⟨(), trivial, ⟨hbad, hP.kept (fun k q hk => hq q.1 ((hP k q hk).lt)), va_K.moved hal hK, hD⟩, ⟨Nat.le_trans hS.1 hz, fun q h1 h2 => by rw [hq q (Nat.lt_of_lt_of_le h1 hS.1)]; exact hS.2.1 q h1 h2⟩⟩) hS.2.2 hc hs
/-- a callee over the whole world that may throw: what it throws goes on -/
theorem w_prop_v {bad badM : String → Prop} {S : Type} {post : S → Prop} {w1 : S → va_W} (hr : vx_Run p l e R s m args below meth c H locs cells slots mc1 ms1 (F0 m pc ls st0) rest (va_Qv post (fun u => wP G tys (w1 u) (va_A ww H.size)) (va_A ww H.size) aa) (wXC bad G tys ww (va_A ww H.size)) (va_A ww H.size))
    (hK : va_K G vwCl tys s) (hD : va_D A ww) (hS : va_S A s.heap H locs) (hA : ∀ q : Nat, s.heap.size ≤ q → A q) (hno : ∀ x ∈ c.exceptionTable.toList, False) (hlocks : meth.locks = false) (hc : cells + mc1 ≤ mc) (hs : slots + ms1 ≤ ms) (hE : ∀ E, bad E → badM E)
    (kk : ∀ (u : S) (H1 : Heap) (locs1 : List Loc), post u → va_P G vwCl (w1 u) H1 → va_D A (w1 u) → va_S A s.heap H1 locs1 → W p l e R s m args below meth c H1 locs1 (cells + mc1) (slots + ms1) (vx_MQ below Qc (wXC badM G tys ww A) args s mc ms A) (F0 m (pc + 3) ls rest)) : W p l e R s m args below meth c H locs cells slots (vx_MQ below Qc (wXC badM G tys ww A) args s mc ms A) (F0 m pc ls st0) := by
  have hF := w_free hD hS hA
  refine vx_callv hr hS (fun q _ h => hF q h) hF (fun q _ h => hF q h) (fun E ce q9 u t H1 locs1 ht hvm _ hB hz hk hS1 hce hcv hcl => ?_) (fun u t H1 locs1 ht hvm hw hB hz hk hS1 => ?_)
  · obtain ⟨hbad, hP1, hK1, hD1⟩ := hB
    rw [ht] at hP1
    exact vx_out (fun x hx => (hno x hx).elim) hlocks hce hcv hcl (fun t' ht' hal => ⟨(), trivial, ⟨hE E hbad, by rw [ht']; exact hP1, va_K.moved hal hK, hD⟩, hS1.F ht'⟩) hS1.2.2 hc hs
  · obtain ⟨hP1, hK1, hD1⟩ := hB
    rw [ht] at hP1
    exact kk u H1 locs1 hw hP1 (hD1.weaken (fun _ _ _ h => hF _ h)) hS1
/-- a static callee without a world that may throw -/
theorem w_prop0_v {bad badM : String → Prop} {G' : va_G} {tys' : List (ClassId × FieldType)} {S : Type} {post : S → Prop} {B : S → State → Prop} (hr : vx_Run p l e R s m args below meth c H locs cells slots mc1 ms1 (F0 m pc ls st0) rest (va_Qv post B (va_A [] H.size) aa) (wXC bad G' tys' [] (va_A [] H.size)) (va_A [] H.size))
    (hK : va_K G vwCl tys s) (hP : va_P G vwCl ww H) (hD : va_D A ww) (hS : va_S A s.heap H locs) (hA : ∀ q : Nat, s.heap.size ≤ q → A q) (hno : ∀ x ∈ c.exceptionTable.toList, False) (hlocks : meth.locks = false) (hc : cells + mc1 ≤ mc) (hs : slots + ms1 ≤ ms) (hE : ∀ E, bad E → badM E)
    (kk : ∀ (u : S) (H1 : Heap) (locs1 : List Loc), post u → va_P G vwCl ww H1 → va_S A s.heap H1 locs1 → W p l e R s m args below meth c H1 locs1 (cells + mc1) (slots + ms1) (vx_MQ below Qc (wXC badM G tys ww A) args s mc ms A) (F0 m (pc + 3) ls rest)) : W p l e R s m args below meth c H locs cells slots (vx_MQ below Qc (wXC badM G tys ww A) args s mc ms A) (F0 m pc ls st0) := by
  have hF := w_free0 hS hA
  refine vx_callv hr hS (fun q _ h => hF q h) hF (fun q _ h => hF q h) (fun E ce q9 u t H1 locs1 ht hvm _ hB hz hk hS1 hce hcv hcl => ?_) (fun u t H1 locs1 ht hvm hw hB hz hk hS1 => kk u H1 locs1 hw (w_keep0 hP hk) hS1)
  obtain ⟨hbad, -, -, -⟩ := hB
  exact vx_out (fun x hx => (hno x hx).elim) hlocks hce hcv hcl (fun t' ht' hal => ⟨(), trivial, ⟨hE E hbad, by rw [ht']; exact w_keep0 hP hk, va_K.moved hal hK, hD⟩, hS1.F ht'⟩) hS1.2.2 hc hs
end WX
end STX
