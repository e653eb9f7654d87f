section MAS
/-! the book of the slots along a walk: what a heap weighs never falls, so a lower bound goes along with any row -/
theorem o_push {H H1 : Heap} {cell : Cell} (hz : H1.size = H.size + 1) (ho : ∀ q : Nat, q < H.size → H1[q]? = H[q]?) (hc : H1[H.size]? = some cell) : slotSum H1 = slotSum H + cell.slots.size := by
  have e : H1 = H.push cell := by
    apply Array.ext_getElem?
    intro i
    rw [Array.getElem?_push]
    by_cases h : i = H.size
    · subst h
      rw [if_pos rfl]
      exact hc
    · rw [if_neg h]
      by_cases h2 : i < H.size
      · exact ho i h2
      · rw [Array.getElem?_eq_none (by omega), Array.getElem?_eq_none (by omega)]
  rw [e, slotSum_push]
section MA1
variable {p : Program} {l : Launch} {e : Env} {R : Room} {s : State} {m : MethodId} {args : Array Value} {below : List Frame} {meth : Method} {c : Code} {H : Heap} {locs : List Loc} {cells slots : Nat} {Q : State → Prop}
variable {cc : ByteArray} {pc : Nat} {ls : Array Slot} {rest st0 : List Value} {G : va_G} {tys tysC : List (ClassId × FieldType)} {ww wc wr : va_W} {A : Nat → Prop} {H0 : Heap} {mc ms : Nat} {aa : Array Value} {g : JFrame} {K : Nat}
theorem o_book {T : State} (X : Stand p l e R s m args below meth c T locs cells slots) : T.slotsUsed = slotSum T.heap := (State.slotsTrue_iff T).mp X.book
theorem W_up (hM : K ≤ slotSum H) (row : W p l e R s m args below meth c H locs cells slots (fun t => Q t ∨ t.slotsUsed < K) g) : W p l e R s m args below meth c H locs cells slots Q g := by
  intro T hT X
  obtain ⟨t, st, q⟩ := row T hT X
  refine ⟨t, st, q.resolve_right (fun hlt => ?_)⟩
  have hbook := o_book X
  obtain ⟨n, hn, -⟩ := st
  have h1 := (stepsAlone_heap_grows p.tables e n (T.setTop g)).2
  rw [hn] at h1
  have h2 : (T.setTop g).slotsUsed = T.slotsUsed := rfl
  rw [h2, hbook, hT] at h1
  omega
theorem W_dn (kk : K ≤ slotSum H → W p l e R s m args below meth c H locs cells slots Q g) : W p l e R s m args below meth c H locs cells slots (fun t => Q t ∨ t.slotsUsed < K) g := by
  intro T hT X
  by_cases h : K ≤ slotSum H
  · obtain ⟨t, st, q⟩ := kk h T hT X
    exact ⟨t, st, Or.inl q⟩
  · refine ⟨T.setTop g, Steps.refl _, Or.inr ?_⟩
    have hbook := o_book X
    show T.slotsUsed < K
    rw [hbook, hT]
    omega
/-- a bound given up -/
theorem W_le {K2 : Nat} (h : K2 ≤ K) (hM : K ≤ slotSum H) : K2 ≤ slotSum H := Nat.le_trans h hM
/-- new T[N], and what it weighs -/
theorem o_newa {cA : ClassId} {atype : ArrayType} {ty : FieldType} {a0 : vp_A} {n : Int32} {N : Nat} (hx : p.tables.exec = Jvm.exec) (hb : c.code = cc) (harr : (Cond.arrayClass (newarray.typeOf atype)).before args s = true) (hty : newarray.typeOf atype = ty) (hf : s.vm.findClass ("[" ++ ty.toString) = some cA) (hP : va_P G vwCl ww H) (hD : va_D A ww) (hS : va_S A H0 H locs) (hA : ∀ q : Nat, H0.size ≤ q → A q) (hM : K ≤ slotSum H)
    (ha : vp_cell cA a0 = arrV cA N (fun _ => defaultValue ty)) (hn : ¬ n < 0) (hN : n.toNatClampNeg = N) (hbytes : N * componentBytes ty ≤ 536870912) (hcells : cells + 1 ≤ R.cells) (hslots : slots + N ≤ R.slots) (hdg : decode cc pc = .ok (.newarray atype, 2))
    (kk : ∀ (q : Nat) (H1 : Heap), ArrOfT s cA ty → q = H.size → va_P G vwCl (ww ++ [(q, .inl (cA, a0))]) H1 → va_D A (ww ++ [(q, .inl (cA, a0))]) → va_S A H0 H1 locs → K + N ≤ slotSum H1 → W p l e R s m args below meth c H1 locs (cells + 1) (slots + N) Q (F0 m (pc + 2) ls (.ref q :: rest))) : W p l e R s m args below meth c H locs cells slots Q (F0 m pc ls (.int n :: rest)) := by
  subst hty
  refine va_newaK hx hb harr rfl hdg rfl hn hN hbytes hcells hslots rfl fun H1 cB e1 z1 o1 hAr hNm => ?_
  have e : cB = cA := Option.some.inj (hNm.symm.trans hf)
  subst e
  have hk : ∀ (k : Nat) (x : Nat × va_E), ww[k]? = some x → H1[x.1]? = H[x.1]? := fun k x hx => o1 x.1 ((hP k x hx).lt)
  have hsum := o_push z1 o1 e1
  rw [arrV_size] at hsum
  refine kk H.size H1 hAr rfl ((hP.kept hk).app (fun k x hx => ?_)) (hD.push hP rfl (hA _ hS.1)) ⟨Nat.le_trans hS.1 (by omega), fun x h1 h2 => (o1 x (Nat.lt_of_lt_of_le h1 hS.1)).trans (hS.2.1 x h1 h2), hS.2.2⟩ (by omega)
  have hz : k < 1 := (List.getElem?_eq_some_iff.mp hx).1
  rw [show k = 0 by omega] at hx
  cases hx
  show H1[H.size]? = some (vp_cell cB a0)
  rw [ha]
  exact e1
/-- a row of rows, read -/
theorem o_ald {cA : ClassId} {ty : FieldType} {a n q0 t0 : Nat} {f : Nat → Option Nat} (hx : p.tables.exec = Jvm.exec) (hb : c.code = cc) (hK : va_K G vwCl tys s) (hP : va_P G vwCl ww H) (ha : ww[q0]? = some (a, .inl (cA, n, .inr (.inr (.inr (.inr f)))))) (ht : tys[t0]? = some (cA, .array ty)) {j r : Nat} (hj : j < n) (hn : n < 2 ^ 31) (hr : f j = some r) (hdg : decode cc pc = .ok (.aaload, 1))
    (kk : W p l e R s m args below meth c H locs cells slots Q (F0 m (pc + 1) ls (.ref r :: rest))) : W p l e R s m args below meth c H locs cells slots Q (F0 m pc ls (.int (nI j) :: .ref a :: rest)) := by
  have hin : vp_in (nI j) n := vp_in_nI hj hn
  have hc := nI_clamp (n := j) (by omega)
  have hlt : (nI j).toNatClampNeg < n := by rw [hc]; exact hj
  refine W.aald (v := .ref r) (ty := .array ty) hx hb (hP q0 _ ha) ((hK.2 t0 _ ht).1 n (fun j => va_rf (f j))) rfl (fun q => by cases q) (by show ¬ (nI j < 0 ∨ (arrV _ _ _).slots.size ≤ _); rw [arrV_size]; exact hin) ?_ rfl rfl hdg kk
  show (arrV _ _ _).slots[_]? = _
  rw [arrV_read _ _ hlt, hc, hr]
  rfl
end MA1
/-! a method's start: what it may write (wm), what it only reads (wr), what the heap weighs -/
def oPre (G : va_G) (tys : List (ClassId × FieldType)) (wm wr : va_W) (sz K : Nat) (U : State) : Prop :=
  U.heap.size = sz ∧ K ≤ slotSum U.heap ∧ va_P G vwCl wm U.heap ∧ va_P G vwCl wr U.heap ∧ va_K G vwCl tys U ∧ va_D (fun _ => True) wm ∧ ∀ (k : Nat) (q : Nat × va_E), wr[k]? = some q → ∀ (j : Nat) (x : va_E), wm[j]? ≠ some (q.1, x)
theorem oPre_blind {G : va_G} {tys : List (ClassId × FieldType)} {wm wr : va_W} {sz K : Nat} {vs : List Value} : FrameBlind (va_Pc vs (oPre G tys wm wr sz K)) := by
  intro a U g mk q
  obtain ⟨q0, q1, qM, qP, qR, qK, qD, qx⟩ := q
  exact ⟨q0, q1, qM, qP, qR, va_K.moved (u := U) (U := U.calling g mk a) (Vm.Alike.refl U.vm) qK, qD, qx⟩
def oB (G : va_G) (tys : List (ClassId × FieldType)) (ww : va_W) (A : Nat → Prop) (K : Nat) (t : State) : Prop := wP G tys ww A t ∧ K ≤ slotSum t.heap
theorem o_pre {s : State} {H : Heap} {G : va_G} {tys : List (ClassId × FieldType)} {wm wr : va_W} {A : Nat → Prop} {K : Nat} {vs : List Value} (hM : K ≤ slotSum H) (hK : va_K G vwCl tys s) (hP : va_P G vwCl wm H) (hR : va_P G vwCl wr H) (hD : va_D A wm) (hx : ∀ (k : Nat) (q : Nat × va_E), wr[k]? = some q → ∀ (j : Nat) (x : va_E), wm[j]? ≠ some (q.1, x)) : ∀ U : State, U.heap = H → s.WarmedH U.vm → va_Pc vs (oPre G tys wm wr H.size K) vs.toArray U :=
  fun U hU hW => ⟨rfl, by rw [hU], by rw [hU]; exact hM, by rw [hU]; exact hP, by rw [hU]; exact hR, va_K.moved hW.alike hK, hD.weaken (fun _ _ _ _ => trivial), hx⟩
/-- nothing that it writes -/
theorem o_x0 {wr : va_W} : ∀ (k : Nat) (q : Nat × va_E), wr[k]? = some q → ∀ (j : Nat) (x : va_E), ([] : va_W)[j]? ≠ some (q.1, x) := fun _ _ _ j x h => by simp at h
/-- what is only read is kept -/
theorem o_keep {G : va_G} {wr : va_W} {A : Nat → Prop} {H0 H : Heap} {locs : List Loc} (hR : va_P G vwCl wr H0) (hro : ∀ (k : Nat) (q : Nat × va_E), wr[k]? = some q → ¬ A q.1) (hS : va_S A H0 H locs) : va_P G vwCl wr H :=
  hR.kept (fun k q hk => hS.2.1 q.1 ((hR k q hk).lt) (hro k q hk))
theorem o_met {l : Launch} {y : MethodName} {ws ws' : List Cond} {rm : Room} {Qc : Array Value → State → Outcome → State → Prop} {mc ms : Nat} {cc : ByteArray} {maxL : Nat} {ret : Option FieldType} {G : va_G} {tys : List (ClassId × FieldType)} {wm wr : va_W} {sz K : Nat} {vs : List Value}
    (hy : plainName y.cls = true) (hw : ws = Cond.code y cc maxL ret :: ws') (hn : (lg_sl vs).length ≤ maxL)
    (body : ∀ (p : Program) (e : Env) (s : State) (m : MethodId) (below : List Frame) (meth : Method) (c : Code), p.tables.exec = Jvm.exec → c.code = cc → c.maxLocals = maxL → meth.sig.returnType = ret → (∀ w ∈ ws, w.before vs.toArray s = true) → s.vm.findClass y.cls = some m.cls → meth.locks = false → meth.name = y.name →
      va_K G vwCl tys s → K ≤ slotSum s.heap → va_P G vwCl wr s.heap → (∀ (k : Nat) (q : Nat × va_E), wr[k]? = some q → ¬ va_A wm sz q.1) → s.heap.size = sz → va_P G vwCl wm s.heap → va_D (va_A wm sz) wm → (∀ q : Nat, s.heap.size ≤ q → va_A wm sz q) → va_S (va_A wm sz) s.heap s.heap [] → ∀ ls : Array Slot, lv_has ls maxL (lv_args 0 vs) →
      W p l e rm s m vs.toArray below meth c s.heap [] 0 0 (MQ below Qc vs.toArray s mc ms (va_A wm sz)) (F0 m 0 ls [])) :
    Met l y ws rm (va_Pc vs (oPre G tys wm wr sz K)) Qc mc ms (va_A wm sz) := by
  refine Met.ofW (cc := cc) (maxL := maxL) (ret := ret) hy hw ?_
  intro p e s m args below meth c s₁ B hml hv
  obtain ⟨rfl, hsz, hM, hP, hR, hK, hD0, hx0⟩ := hv
  have hts := atoms_spec (ws := ws) B.pre
  have hl := lv_entry vs (n := maxL) hn
  rw [lg_entry_eq]
  generalize (lg_sl vs ++ List.replicate (maxL - (lg_sl vs).length) Slot.unset).toArray = ls at hl ⊢
  refine body p e s m below meth c B.exec B.bytes hml B.returns hts (findClass_of_methodNamed B.named) B.notSynchronized (name_of_methodNamed B.named B.method).1 hK hM hR (fun k q hk h => ?_) hsz hP (hD0.self (sz := sz)) (fun q h => Or.inr (by rw [← hsz]; exact h)) va_S.rf ls hl
  rcases h with ⟨j, x, hj⟩ | h
  · exact hx0 k q hk j x hj
  · have := (hR k q hk).lt
    omega
section MA2
variable {p : Program} {l : Launch} {e : Env} {R : Room} {s : State} {m : MethodId} {args : Array Value} {below : List Frame} {meth : Method} {c : Code} {H : Heap} {locs : List Loc} {cells slots : Nat} {Q : State → Prop}
variable {cc : ByteArray} {pc : Nat} {ls : Array Slot} {rest st0 : List Value} {G : va_G} {tys tysC : List (ClassId × FieldType)} {ww wc wr wm : va_W} {A : Nat → Prop} {H0 : Heap} {mc ms : Nat} {aa : Array Value} {K : Nat}
theorem o_iret {S : Type} {post : Int32 → S → Prop} {w1 : S → va_W} {v : Int32} (u : S) (hx : p.tables.exec = Jvm.exec) (hb : c.code = cc) (hr : meth.sig.returnType = some .int) (hlocks : meth.locks = false)
    (hK : va_K G vwCl tys s) (hM : K ≤ slotSum H) (hP : va_P G vwCl (w1 u) H) (hD : va_D A (w1 u)) (hS : va_S A s.heap H locs) (hc : cells ≤ mc) (hs : slots ≤ ms) (hdg : decode cc pc = .ok (.ireturn, 1)) (hq : post v u) :
    W p l e R s m args below meth c H locs cells slots (MQ below (va_Qi post (fun u => oB G tys (w1 u) A K) A) args s mc ms A) (F0 m pc ls [.int v]) :=
  W.widen hc hs (W.iret hx hb hr (fun t ht hW => ⟨⟨v, u, rfl, hq, ⟨by rw [ht]; exact hP, va_K.moved hW.alike hK, hD⟩, by rw [ht]; exact hM⟩, hS.F ht⟩) hS.2.2 hdg hlocks)
theorem o_zret {S : Type} {post : Int32 → S → Prop} {w1 : S → va_W} {v : Int32} (u : S) (hx : p.tables.exec = Jvm.exec) (hb : c.code = cc) (hr : meth.sig.returnType = some .boolean) (hlocks : meth.locks = false)
    (hK : va_K G vwCl tys s) (hM : K ≤ slotSum H) (hP : va_P G vwCl (w1 u) H) (hD : va_D A (w1 u)) (hS : va_S A s.heap H locs) (hc : cells ≤ mc) (hs : slots ≤ ms) (hdg : decode cc pc = .ok (.ireturn, 1)) (hn : narrow .boolean (.int v) = .int v) (hq : post v u) :
    W p l e R s m args below meth c H locs cells slots (MQ below (va_Qi post (fun u => oB G tys (w1 u) A K) A) args s mc ms A) (F0 m pc ls [.int v]) :=
  W.widen hc hs (W.zret hx hb hr hn (fun t ht hW => ⟨⟨v, u, rfl, hq, ⟨by rw [ht]; exact hP, va_K.moved hW.alike hK, hD⟩, by rw [ht]; exact hM⟩, hS.F ht⟩) hS.2.2 hdg hlocks)
/-- a call that writes nothing that was there: every world stays -/
theorem o_in {S : Type} {post : Int32 → S → Prop} {w1 : S → va_W} {K1 : Nat} (hr : va_Run p l e R s m args below meth c H locs cells slots mc ms (F0 m pc ls st0) rest (va_Qi post (fun u => oB G tysC (w1 u) (va_A [] H.size) K1) (va_A [] H.size) aa) (va_A [] H.size))
    (hP : va_P G vwCl ww H) (hS : va_S A H0 H locs) (hA : ∀ q : Nat, H0.size ≤ q → A q)
    (kk : ∀ (r : Int32) (u : S) (H1 : Heap) (locs1 : List Loc), post r u → va_P G vwCl ww H1 → va_S A H0 H1 locs1 → K1 ≤ slotSum H1 → W p l e R s m args below meth c H1 locs1 (cells + mc) (slots + ms) Q (F0 m (pc + 3) ls (.int r :: rest))) : W p l e R s m args below meth c H locs cells slots Q (F0 m pc ls st0) := by
  have hF := w_free0 hS hA
  exact va_calli hr hS (fun q _ h => hF q h) hF (fun r u t H1 locs1 ht hvm hw hB hz hk hS1 => kk r u H1 locs1 hw (w_keep0 hP hk) hS1 (by rw [← ht]; exact hB.2))
/-- a call that writes wc, a part of the world in front of the pool -/
theorem o_pl {S : Type} {post : Int32 → S → Prop} {w1 : S → va_W} {K1 : Nat} {X pl : va_W} (hr : va_Run p l e R s m args below meth c H locs cells slots mc ms (F0 m pc ls st0) rest (va_Qi post (fun u => oB G tysC (w1 u) (va_A wc H.size) K1) (va_A wc H.size) aa) (va_A wc H.size))
    (hP : va_P G vwCl (X ++ pl) H) (hD : va_D A (X ++ pl)) (hS : va_S A H0 H locs) (hA : ∀ q : Nat, H0.size ≤ q → A q) (isC isR : List Nat) (hC : isC.map (fun i => X[i]?) = wc.map some) (hC2 : isC.map (fun i => (X ++ pl)[i]?) = wc.map some) (hR : isR.map (fun i => X[i]?) = wr.map some) (hn : va_nd isR = true) (hdis : ∀ i ∈ isR, i ∉ isC)
    (kk : ∀ (r : Int32) (u : S) (H1 : Heap) (locs1 : List Loc), post r u → va_P G vwCl ((wr ++ w1 u) ++ pl) H1 → va_D A ((wr ++ w1 u) ++ pl) → va_S A H0 H1 locs1 → K1 ≤ slotSum H1 → W p l e R s m args below meth c H1 locs1 (cells + mc) (slots + ms) Q (F0 m (pc + 3) ls (.int r :: rest))) : W p l e R s m args below meth c H locs cells slots Q (F0 m pc ls st0) := by
  have hF := va_free hD hS hA isC hC2
  refine va_calli hr hS (fun q _ h => hF q h) hF (fun r u t H1 locs1 ht hvm hw hB hz hk hS1 => ?_)
  obtain ⟨⟨hP1, hK1, hD1⟩, hM1⟩ := hB
  rw [ht] at hP1 hM1
  obtain ⟨hP2, hD2⟩ := va_joinQ (wr := wr) (w1 := w1 u) hP hD isC isR hC hR hn hdis hk hF hP1 hD1
  exact kk r u H1 locs1 hw hP2 hD2 hS1 hM1
/-- the same of a contract that says nothing of the weight -/
theorem o_plw {S : Type} {post : Int32 → S → Prop} {w1 : S → va_W} {X pl : va_W} (hr : va_Run p l e R s m args below meth c H locs cells slots mc ms (F0 m pc ls st0) rest (va_Qi post (fun u => wP G tysC (w1 u) (va_A wc H.size)) (va_A wc H.size) aa) (va_A wc H.size)) (hM : K ≤ slotSum H)
    (hP : va_P G vwCl (X ++ pl) H) (hD : va_D A (X ++ pl)) (hS : va_S A H0 H locs) (hA : ∀ q : Nat, H0.size ≤ q → A q) (isC isR : List Nat) (hC : isC.map (fun i => X[i]?) = wc.map some) (hC2 : isC.map (fun i => (X ++ pl)[i]?) = wc.map some) (hR : isR.map (fun i => X[i]?) = wr.map some) (hn : va_nd isR = true) (hdis : ∀ i ∈ isR, i ∉ isC)
    (kk : ∀ (r : Int32) (u : S) (H1 : Heap) (locs1 : List Loc), post r u → va_P G vwCl ((wr ++ w1 u) ++ pl) H1 → va_D A ((wr ++ w1 u) ++ pl) → va_S A H0 H1 locs1 → K ≤ slotSum H1 → W p l e R s m args below meth c H1 locs1 (cells + mc) (slots + ms) Q (F0 m (pc + 3) ls (.int r :: rest))) : W p l e R s m args below meth c H locs cells slots Q (F0 m pc ls st0) := by
  have hF := va_free hD hS hA isC hC2
  refine W_up hM (va_calli hr hS (fun q _ h => hF q h) hF (fun r u t H1 locs1 ht hvm hw hB hz hk hS1 => W_dn (fun hM1 => ?_)))
  obtain ⟨hP1, hK1, hD1⟩ := hB
  rw [ht] at hP1
  obtain ⟨hP2, hD2⟩ := va_joinQ (wr := wr) (w1 := w1 u) hP hD isC isR hC hR hn hdis hk hF hP1 hD1
  exact kk r u H1 locs1 hw hP2 hD2 hS1 hM1
/-- a static call without a world: the world and the weight stay -/
theorem o_st {S : Type} {post : Int32 → S → Prop} {B : S → State → Prop} (hr : va_Run p l e R s m args below meth c H locs cells slots mc ms (F0 m pc ls st0) rest (va_Qi post B (va_A [] H.size) aa) (va_A [] H.size)) (hM : K ≤ slotSum H)
    (hP : va_P G vwCl ww H) (hS : va_S A H0 H locs) (hA : ∀ q : Nat, H0.size ≤ q → A q)
    (kk : ∀ (r : Int32) (u : S) (H1 : Heap) (locs1 : List Loc), post r u → va_P G vwCl ww H1 → va_S A H0 H1 locs1 → K ≤ slotSum H1 → W p l e R s m args below meth c H1 locs1 (cells + mc) (slots + ms) Q (F0 m (pc + 3) ls (.int r :: rest))) : W p l e R s m args below meth c H locs cells slots Q (F0 m pc ls st0) :=
  W_up hM (w_st_i hr hP hS hA (fun r u H1 locs1 h1 h2 h3 => W_dn (fun hM1 => kk r u H1 locs1 h1 h2 h3 hM1)))
end MA2
end MAS
