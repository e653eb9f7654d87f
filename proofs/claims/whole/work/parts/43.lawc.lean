section LWC
/-! the law's own walk: its world, what holds of its start, an argument out of the script, what its turns go on to -/
abbrev lwD (cI cZ dI dZ cL : ClassId) (h : Nat) (a : Nat → Nat) (h2 : Nat) (a2 : Nat → Nat) (ao : Nat) (F : Nat → Nat → Int32) (nq no np : Nat) (sh nw : Int32) (F' : Nat → Nat → Int32) (nq' no' np' : Nat) (sh' nw' th : Int32) (wt : Nat → Int32) (g : Nat → Int64) : va_W :=
  (Dk cI cZ h a F nq no np sh nw ++ Mk dI dZ h2 a2 F' nq' no' np' sh' nw' th wt) ++ [(ao, .inl (cL, 1, .inr (.inl g)))]
abbrev ty5 (cI cZ dI dZ cL : ClassId) : List (ClassId × FieldType) := [(cI, .int), (cZ, .boolean), (dI, .int), (dZ, .boolean), (cL, .long)]
def lwA (s : State) : Nat → Prop := fun q => s.heap.size ≤ q
abbrev lwL (b h h2 ao : Nat) (i : Nat) : List (Nat × Value) := [(0, .ref b), (1, .ref h), (2, .ref h2), (3, .ref ao), (4, .int (nI i))]
def lwC (p : Program) (l : Launch) (s : State) (m : MethodId) (c : Code) (G : va_G) (cI cZ dI dZ cL : ClassId) (b L : Nat) (xs : Nat → Int32) : Prop :=
  l.flags = flags0 ∧ p.tables.exec = Jvm.exec ∧ c.code = cL_law ∧ c.maxLocals = 9 ∧ s.vm.findClass RL = some m.cls ∧ (∀ w ∈ wsL_law, w.before #[Value.ref b] s = true) ∧ va_K G vwCl (ty5 cI cZ dI dZ cL) s ∧ va_X b L xs s s.heap ∧ b < s.heap.size ∧ zX (lwA s) s s.heap ∧ zN s
def lwK (p : Program) (l : Launch) (e : Env) (s : State) (m : MethodId) (below : List Frame) (meth : Method) (c : Code) (G : va_G) (cI cZ dI dZ cL : ClassId) (h : Nat) (a : Nat → Nat) (h2 : Nat) (a2 : Nat → Nat) (ao b i cells slots : Nat) (Q : State → Prop) : Prop :=
  ∀ (F : Nat → Nat → Int32) (nq no np : Nat) (sh nw th : Int32) (wt : Nat → Int32) (g : Nat → Int64) (H : Heap) (locs : List Loc) (ls : Array Slot), p_Inv F nq no np → va_P G vwCl (lwD cI cZ dI dZ cL h a h2 a2 ao F nq no np sh nw F nq no np sh nw th wt g) H → va_D (lwA s) (lwD cI cZ dI dZ cL h a h2 a2 ao F nq no np sh nw F nq no np sh nw th wt g) → va_S (lwA s) s.heap H locs → lv_has ls 9 (lwL b h h2 ao i) →
    W p l e room_1 s m #[Value.ref b] below meth c H locs cells slots Q (F0 m 2146 ls [])
section LWG
variable {p : Program} {l : Launch} {e : Env} {R : Room} {s : State} {m : MethodId} {args : Array Value} {below : List Frame} {meth : Method} {c : Code} {H : Heap} {locs : List Loc} {cells slots : Nat} {Q : State → Prop}
variable {cc : ByteArray} {pc : Nat} {ls : Array Slot} {rest : List Value} {A : Nat → Prop} {H0 : Heap}
theorem w_arg (k : Nat) {b L i : Nat} {xs : Nat → Int32} (hx : p.tables.exec = Jvm.exec) (hb : c.code = cc) (hX : va_X b L xs s H0) (hbl : b < H0.size) (hbA : ¬ A b) (hS : va_S A H0 H locs) (h0 : ls[0]? = some (.val (.ref b))) (h4 : ls[4]? = some (.val (.int (nI i)))) (hk : i + k < L) (hL : L ≤ 2560)
    (d0 : decode cc pc = .ok (.aload_n 0, 1)) (d1 : decode cc (pc + 1) = .ok (.iload 4, 2)) (d2 : decode cc (pc + 3) = .ok (.iconst (k : Int), 1)) (d3 : decode cc (pc + 4) = .ok (.iadd, 1)) (d4 : decode cc (pc + 5) = .ok (.iaload, 1))
    (kk : W p l e R s m args below meth c H locs cells slots Q (F0 m (pc + 6) ls (.int (xs (i + k)) :: rest))) : W p l e R s m args below meth c H locs cells slots Q (F0 m pc ls rest) := by
  refine lv_aload_n hx hb d0 rfl h0 ?_
  refine lv_iload hx hb d1 h4 ?_
  refine lv_iconst (v := nI k) hx hb d2 rfl ?_
  refine lv_iadd hx hb d3 ?_
  rw [nI_add]
  refine va_sld hx hb hX hbl hbA hS (vp_in_nI hk (by omega)) d4 ?_
  rw [nI_clamp (n := i + k) (by omega)]
  exact kk
/-- the desk's answer against the model's, an int -/
theorem w_cmpI {cI : ClassId} {G : va_G} {tys : List (ClassId × FieldType)} {ww : va_W} {ao : Nat} {u : Nat → Int64} {r5 r6 : Int32} (hx : p.tables.exec = Jvm.exec) (hb : c.code = cc) (hK : va_K G vwCl tys s) (hP : va_P G vwCl ww H) (q0 t0 : Nat) (ha : ww[q0]? = some (ao, .inl (cI, 1, .inr (.inl u)))) (ht : tys[t0]? = some (cI, .long))
    (h3 : ls[3]? = some (.val (.ref ao))) (h5 : ls[5]? = some (.val (.int r5))) (h6 : ls[6]? = some (.val (.int r6))) {off1 off2 : Int}
    (d0 : decode cc pc = .ok (.iload 5, 2)) (d1 : decode cc (pc + 2) = .ok (.ifCond .ne off1, 3)) (o1 : ((pc + 2 : Nat) : Int) + off1 = ((pc + 17 : Nat) : Int)) (d2 : decode cc (pc + 5) = .ok (.aload_n 3, 1)) (d3 : decode cc (pc + 6) = .ok (.iconst 0, 1)) (d4 : decode cc (pc + 7) = .ok (.laload, 1)) (d5 : decode cc (pc + 8) = .ok (.iload 6, 2)) (d6 : decode cc (pc + 10) = .ok (.i2l, 1)) (d7 : decode cc (pc + 11) = .ok (.lcmp, 1)) (d8 : decode cc (pc + 12) = .ok (.ifCond .eq off2, 3)) (o2 : ((pc + 12 : Nat) : Int) + off2 = ((pc + 17 : Nat) : Int))
    (hu : r5 = 0 → u 0 = r6.toInt64)
    (kk : W p l e R s m args below meth c H locs cells slots Q (F0 m (pc + 17) ls rest)) : W p l e R s m args below meth c H locs cells slots Q (F0 m pc ls rest) := by
  refine lv_iload hx hb d0 h5 ?_
  refine lv_if_ne hx hb d1 o1 (fun _ => kk) (fun hk => ?_)
  refine lv_aload_n hx hb d2 rfl h3 ?_
  refine lv_iconst (v := 0) hx hb d3 (by decide) ?_
  refine va_lald hx hb hK hP q0 t0 ha ht (show vp_in 0 1 from vp_in_nI (n := 0) (by omega) (by omega)) d4 ?_
  have hu0 : u (Int32.toNatClampNeg 0) = r6.toInt64 := hu hk
  rw [hu0]
  refine lv_iload hx hb d5 h6 ?_
  refine lv_i2l hx hb d6 rfl ?_
  refine W.lcmp hx hb d7 ?_
  exact lv_if_eq hx hb d8 o2 (fun _ => kk) (fun h9 => absurd (lcmp_0 _) h9)
/-- the same, a boolean -/
theorem w_cmpZ {cI : ClassId} {G : va_G} {tys : List (ClassId × FieldType)} {ww : va_W} {ao : Nat} {u : Nat → Int64} {r5 r6 : Int32} (hx : p.tables.exec = Jvm.exec) (hb : c.code = cc) (hK : va_K G vwCl tys s) (hP : va_P G vwCl ww H) (q0 t0 : Nat) (ha : ww[q0]? = some (ao, .inl (cI, 1, .inr (.inl u)))) (ht : tys[t0]? = some (cI, .long))
    (h3 : ls[3]? = some (.val (.ref ao))) (h5 : ls[5]? = some (.val (.int r5))) (h6 : ls[6]? = some (.val (.int r6))) {off1 off2 off3 off4 : Int}
    (d0 : decode cc pc = .ok (.iload 5, 2)) (d1 : decode cc (pc + 2) = .ok (.ifCond .ne off1, 3)) (o1 : ((pc + 2 : Nat) : Int) + off1 = ((pc + 24 : Nat) : Int)) (d2 : decode cc (pc + 5) = .ok (.aload_n 3, 1)) (d3 : decode cc (pc + 6) = .ok (.iconst 0, 1)) (d4 : decode cc (pc + 7) = .ok (.laload, 1)) (d5 : decode cc (pc + 8) = .ok (.iload 6, 2))
    (s0 : decode cc (pc + 10) = .ok (.ifCond .eq off3, 3)) (t0' : ((pc + 10 : Nat) : Int) + off3 = ((pc + 10 + 7 : Nat) : Int)) (s1 : decode cc (pc + 10 + 3) = .ok (.lconst 1, 1)) (s2 : decode cc (pc + 10 + 4) = .ok (.goto off4, 3)) (t2 : ((pc + 10 + 4 : Nat) : Int) + off4 = ((pc + 10 + 8 : Nat) : Int)) (s3 : decode cc (pc + 10 + 7) = .ok (.lconst 0, 1))
    (d7 : decode cc (pc + 18) = .ok (.lcmp, 1)) (d8 : decode cc (pc + 19) = .ok (.ifCond .eq off2, 3)) (o2 : ((pc + 19 : Nat) : Int) + off2 = ((pc + 24 : Nat) : Int))
    (hu : r5 = 0 → u 0 = i2z r6)
    (kk : W p l e R s m args below meth c H locs cells slots Q (F0 m (pc + 24) ls rest)) : W p l e R s m args below meth c H locs cells slots Q (F0 m pc ls rest) := by
  refine lv_iload hx hb d0 h5 ?_
  refine lv_if_ne hx hb d1 o1 (fun _ => kk) (fun hk => ?_)
  refine lv_aload_n hx hb d2 rfl h3 ?_
  refine lv_iconst (v := 0) hx hb d3 (by decide) ?_
  refine va_lald hx hb hK hP q0 t0 ha ht (show vp_in 0 1 from vp_in_nI (n := 0) (by omega) (by omega)) d4 ?_
  have hu0 : u (Int32.toNatClampNeg 0) = i2z r6 := hu hk
  rw [hu0]
  refine lv_iload hx hb d5 h6 ?_
  refine w_selL hx hb s0 t0' s1 s2 t2 s3 ?_
  refine W.lcmp hx hb d7 ?_
  exact lv_if_eq hx hb d8 o2 (fun _ => kk) (fun h9 => absurd (lcmp_0 _) h9)
end LWG
end LWC
