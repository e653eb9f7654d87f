section LST
/-! the law's own words: what is not a superclass of what; a wrapper's start; a method with handlers -/
def zN (U : State) : Prop := va_Nc xS xI U ∧ va_Nc xA xI U ∧ va_Nc xS xA U
theorem zN.moved {u U : State} (h : u.vm.Alike U.vm) (z : zN u) : zN U := ⟨va_Nc.moved h z.1, va_Nc.moved h z.2.1, va_Nc.moved h z.2.2⟩
abbrev ty3 (cI cZ cL : ClassId) : List (ClassId × FieldType) := [(cI, .int), (cZ, .boolean), (cL, .long)]
def wPreL (G : va_G) (tys : List (ClassId × FieldType)) (ww : va_W) (sz : Nat) (U : State) : Prop := wPreX G tys ww sz U ∧ zN U
theorem wPreL_blind {G : va_G} {tys : List (ClassId × FieldType)} {ww : va_W} {sz : Nat} {vs : List Value} : FrameBlind (va_Pc vs (wPreL G tys ww sz)) := by
  intro a U g mk q
  obtain ⟨q0, q1, qZ⟩ := q
  exact ⟨q0, (wPreX_blind (vs := vs) a U g mk ⟨q0, q1⟩).2, qZ.moved (Vm.Alike.refl U.vm)⟩
theorem w_preL {s : State} {H : Heap} {locs : List Loc} {G : va_G} {tysC : List (ClassId × FieldType)} {wc : va_W} {A : Nat → Prop} {vs : List Value} (hK : va_K G vwCl tysC s) (hP : va_P G vwCl wc H) (hD : va_D A wc) (hF : ∀ q, va_A wc H.size q → A q) (hS : va_S A s.heap H locs) (hZ : zX A s s.heap) (hN : zN s) : ∀ U : State, U.heap = H → s.WarmedH U.vm → va_Pc vs (wPreL G tysC wc H.size) vs.toArray U :=
  fun U hU hW => ⟨rfl, (w_preX (vs := vs) hK hP hD hF hS hZ U hU hW).2, hN.moved hW.alike⟩
theorem w_metW {l : Launch} {y : MethodName} {ws ws' : List Cond} {rm : Room} {Qc : Array Value → State → Outcome → State → Prop} {mc ms : Nat} {cc : ByteArray} {maxL : Nat} {ret : Option FieldType} {hh : List (Nat × Nat × Nat × Nat)} {G : va_G} {tys : List (ClassId × FieldType)} {ww : va_W} {sz : Nat} {vs : List Value}
    (hy : plainName y.cls = true) (hw : ws = Cond.codeWith y cc maxL ret hh :: ws') (hn : (lg_sl vs).length ≤ maxL)
    (body : ∀ (p : Program) (e : Env) (s : State) (m : MethodId) (below : List Frame) (meth : Method) (c : Code), p.tables.exec = Jvm.exec → c.code = cc → c.maxLocals = maxL → meth.sig.returnType = ret → (∀ w ∈ ws, w.before vs.toArray s = true) → s.vm.findClass y.cls = some m.cls → meth.locks = false → meth.name = y.name → c.exceptionTable.toList = tableOf hh → zX (va_A ww sz) s s.heap → zN s →
      va_K G vwCl tys s → s.heap.size = sz → va_P G vwCl ww s.heap → va_D (va_A ww sz) ww → (∀ q : Nat, s.heap.size ≤ q → va_A ww sz q) → va_S (va_A ww sz) s.heap s.heap [] → ∀ ls : Array Slot, lv_has ls maxL (lv_args 0 vs) →
      W p l e rm s m vs.toArray below meth c s.heap [] 0 0 (MQ below Qc vs.toArray s mc ms (va_A ww sz)) (F0 m 0 ls [])) :
    Met l y ws rm (va_Pc vs (wPreL G tys ww sz)) Qc mc ms (va_A ww sz) := by
  refine va_MetW (cc := cc) (maxL := maxL) (ret := ret) (hh := hh) hy hw ?_
  intro p e s m args below meth c s₁ B hml hv
  obtain ⟨rfl, ⟨⟨hsz, hP, hK, hD0⟩, hZ⟩, hN⟩ := hv
  have hts := atoms_spec (ws := ws) B.pre
  have htab := vx_table (x := y) B (hts _ (by rw [hw]; exact List.mem_cons_self))
  have hl := lv_entry vs (n := maxL) hn
  rw [lg_entry_eq]
  generalize (lg_sl vs ++ List.replicate (maxL - (lg_sl vs).length) Slot.unset).toArray = ls at hl ⊢
  exact body p e s m below meth c B.exec B.bytes hml B.returns hts (findClass_of_methodNamed B.named) B.notSynchronized (name_of_methodNamed B.named B.method).1 htab hZ hN hK hsz hP (hD0.self (sz := sz)) (fun q h => Or.inr (by rw [← hsz]; exact h)) va_S.rf ls hl
section LS2
variable {p : Program} {l : Launch} {e : Env} {R : Room} {s : State} {m : MethodId} {args : Array Value} {below : List Frame} {meth : Method} {c : Code} {H : Heap} {locs : List Loc} {cells slots : Nat} {Q : State → Prop}
variable {cc : ByteArray} {pc : Nat} {ls : Array Slot} {rest st0 : List Value} {G : va_G} {tys tysC : List (ClassId × FieldType)} {ww wc wr : va_W} {A : Nat → Prop} {H0 : Heap} {mc ms : Nat} {aa : Array Value}
/-- a callee over a part of the world that answers or throws -/
theorem w_cat_i {bad : String → Prop} {S : Type} {post : Int32 → S → Prop} {w1 : S → va_W} (hr : vx_Run p l e R s m args below meth c H locs cells slots mc ms (F0 m pc ls st0) rest (va_Qi post (fun u => wP G tysC (w1 u) (va_A wc H.size)) (va_A wc H.size) aa) (wXC bad G tysC wc (va_A wc H.size)) (va_A wc H.size))
    (hP : va_P G vwCl ww H) (hD : va_D A ww) (hS : va_S A H0 H locs) (hA : ∀ q : Nat, H0.size ≤ q → A q) (isC isR : List Nat) (hC : isC.map (fun i => ww[i]?) = wc.map some) (hR : isR.map (fun i => ww[i]?) = wr.map some) (hn : va_nd isR = true) (hdis : ∀ i ∈ isR, i ∉ isC)
    (kx : ∀ (E : String) (ce : Cell) (q9 : Addr) (H1 : Heap) (locs1 : List Loc), bad E → va_P G vwCl (wr ++ wc) H1 → va_D A (wr ++ wc) → va_S A H0 H1 locs1 → H1[q9]? = some ce → ce.vm = .none → s.vm.findClass E = some ce.cls → vx_W p l e R s m args below meth c H1 locs1 (cells + mc) (slots + ms) Q (F0 m pc ls rest) q9)
    (kk : ∀ (r : Int32) (u : S) (H1 : Heap) (locs1 : List Loc), post r u → va_P G vwCl (wr ++ w1 u) H1 → va_D A (wr ++ w1 u) → va_S A H0 H1 locs1 → W p l e R s m args below meth c H1 locs1 (cells + mc) (slots + ms) Q (F0 m (pc + 3) ls (.int r :: rest))) : W p l e R s m args below meth c H locs cells slots Q (F0 m pc ls st0) := by
  have hF := va_free hD hS hA isC hC
  refine vx_calli hr hS (fun q _ h => hF q h) hF (fun q _ h => hF q h) (fun E ce q9 u t H1 locs1 ht hvm _ hB hz hk hS1 hce hcv hcl => ?_) (fun r u t H1 locs1 ht hvm hw hB hz hk hS1 => ?_)
  · obtain ⟨hbad, hP1, hK1, hD1⟩ := hB
    rw [ht] at hP1
    obtain ⟨hP2, hD2⟩ := va_join (wr := wr) (w1 := wc) hP hD isC isR hC hR hn hdis hk hF hP1 hD1
    exact kx E ce q9 H1 locs1 hbad hP2 hD2 hS1 hce hcv hcl
  · obtain ⟨hP1, hK1, hD1⟩ := hB
    rw [ht] at hP1
    obtain ⟨hP2, hD2⟩ := va_join (wr := wr) (w1 := w1 u) hP hD isC isR hC hR hn hdis hk hF hP1 hD1
    exact kk r u H1 locs1 hw hP2 hD2 hS1
def i2z (x : Int32) : Int64 := if x = 0 then 0 else 1
/-- b ? 1L : 0L -/
theorem w_selL {x : Int32} {off off3 : Int} (hx : p.tables.exec = Jvm.exec) (hb : c.code = cc) (d0 : decode cc pc = .ok (.ifCond .eq off, 3)) (t0 : (pc : Int) + off = ((pc + 7 : Nat) : Int)) (d1 : decode cc (pc + 3) = .ok (.lconst 1, 1)) (d2 : decode cc (pc + 4) = .ok (.goto off3, 3)) (t2 : ((pc + 4 : Nat) : Int) + off3 = ((pc + 8 : Nat) : Int)) (d3 : decode cc (pc + 7) = .ok (.lconst 0, 1))
    (kk : W p l e R s m args below meth c H locs cells slots Q (F0 m (pc + 8) ls (.long (i2z x) :: rest))) : W p l e R s m args below meth c H locs cells slots Q (F0 m pc ls (.int x :: rest)) := by
  unfold i2z at kk
  refine lv_if_eq hx hb d0 t0 (fun h => ?_) (fun h => ?_)
  · rw [if_pos h] at kk
    exact lv_lconst (v := 0) hx hb d3 (by decide) kk
  · rw [if_neg h] at kk
    exact lv_lconst (v := 1) hx hb d1 (by decide) (lv_goto hx hb d2 t2 kk)
end LS2
theorem lcmp_0 (x : Int64) : lg_cmp x x = 0 := by simp [lg_cmp, Int64.lt_irrefl]
end LST
