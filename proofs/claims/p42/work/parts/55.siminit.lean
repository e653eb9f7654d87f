section SIN
theorem va_AOA.moved {t : FieldType} {u U : State} (hvm : u.vm.Alike U.vm) (h : va_AOA t u) : va_AOA t U := over_moved hvm h
theorem o_preP {D : va_G} {cl : List vw_C} {a b : va_W} {H : Heap} (h : va_P D cl (a ++ b) H) : va_P D cl a H := fun k q hk => h k q (by rw [List.getElem?_append_left (List.getElem?_eq_some_iff.mp hk).1]; exact hk)
theorem o_preD {A : Nat → Prop} {a b : va_W} (h : va_D A (a ++ b)) : va_D A a := by
  have e : ∀ (k : Nat) (q : Nat × va_E), a[k]? = some q → (a ++ b)[k]? = some q := fun k q hk => by rw [List.getElem?_append_left (List.getElem?_eq_some_iff.mp hk).1]; exact hk
  exact ⟨fun i j p q hi hj hpq => h.1 i j p q (e i p hi) (e j q hj) hpq, fun k q hk => h.2 k q (e k q hk)⟩
theorem o_inner (c : ClassId) (N : Nat) : Jvm.Free.Multi.innerC c N (.int 0) = vp_cell c (N, .inl (fun _ => 0)) := by
  show ({ cls := c, slots := Array.replicate N (.int 0), vm := .none } : Cell) = arrV c N (fun _ => .int 0)
  rw [arrV_new]
/-- a fresh sim's rows -/
def SIok (cI : ClassId) (ro rp : Nat → Nat) (L : List Nat) (f : Nat → va_E) : Prop :=
  (∀ i, i < 10 → ro i ∈ L ∧ ∃ g, f (ro i) = .inl (cI, 13, .inl g)) ∧ (∀ i, i < 20 → rp i ∈ L ∧ ∃ g, f (rp i) = .inl (cI, 7, .inl g)) ∧ (∀ i j, i < 10 → j < 10 → ro i = ro j → i = j) ∧ (∀ i j, i < 10 → j < 20 → ro i ≠ rp j)
abbrev SI9 : Type := (ClassId × Nat × Nat × Nat) × ((Nat → Nat) × (Nat → Nat) × List Nat × (Nat → va_E))
abbrev siW (hs : Nat) (day half : Int32) (Q O P : Nat) (u : SI9) : va_W := [SM hs u.1.2.1 u.1.2.2.1 u.1.2.2.2 day half Q O P, OA u.1.1 u.1.2.1 u.2.1, PA u.1.1 u.1.2.2.1 u.2.2.1] ++ va_pl u.2.2.2.1 u.2.2.2.2
abbrev siZ (hs : Nat) : va_W := [(hs, .inr (1, [.int 0, .int 0, .int 0, .int 0, .int 0, .int 0, .null, .null, .null]))]
def oPreI (G : va_G) (cI cZ : ClassId) (hs sz K : Nat) (U : State) : Prop := oPre G (ty2 cI cZ) (siZ hs) [] sz K U ∧ va_AOA .int U
theorem oPreI_blind {G : va_G} {cI cZ : ClassId} {hs sz K : Nat} {vs : List Value} : FrameBlind (va_Pc vs (oPreI G cI cZ hs sz K)) := by
  intro a U g mk q
  obtain ⟨h1, h2, h3⟩ := q
  have h4 := oPre_blind (vs := vs) a U g mk ⟨h1, h2⟩
  exact ⟨h4.1, h4.2, va_AOA.moved (u := U) (U := U.calling g mk a) (Vm.Alike.refl U.vm) h3⟩
/-- as o_met, the start with one word more -/
theorem o_metI {l : Launch} {y : MethodName} {ws ws' : List Cond} {rm : Room} {Qc : Array Value → State → Outcome → State → Prop} {mc ms : Nat} {cc : ByteArray} {maxL : Nat} {ret : Option FieldType} {G : va_G} {cI cZ : ClassId} {hs sz K : Nat} {vs : List Value}
    (hy : plainName y.cls = true) (hw : ws = Cond.code y cc maxL ret :: ws') (hn : (lg_sl vs).length ≤ maxL)
    (body : ∀ (p : Program) (e : Env) (s : State) (m : MethodId) (below : List Frame) (meth : Method) (c : Code), p.tables.exec = Jvm.exec → c.code = cc → c.maxLocals = maxL → meth.sig.returnType = ret → (∀ w ∈ ws, w.before vs.toArray s = true) → s.vm.findClass y.cls = some m.cls → meth.locks = false → meth.name = y.name →
      va_K G vwCl (ty2 cI cZ) s → va_AOA .int s → K ≤ slotSum s.heap → s.heap.size = sz → va_P G vwCl (siZ hs) s.heap → va_D (va_A (siZ hs) sz) (siZ hs) → (∀ q : Nat, s.heap.size ≤ q → va_A (siZ hs) sz q) → va_S (va_A (siZ hs) sz) s.heap s.heap [] → ∀ ls : Array Slot, lv_has ls maxL (lv_args 0 vs) →
      W p l e rm s m vs.toArray below meth c s.heap [] 0 0 (MQ below Qc vs.toArray s mc ms (va_A (siZ hs) sz)) (F0 m 0 ls [])) :
    Met l y ws rm (va_Pc vs (oPreI G cI cZ hs sz K)) Qc mc ms (va_A (siZ hs) sz) := by
  refine Met.ofW (cc := cc) (maxL := maxL) (ret := ret) hy hw ?_
  intro p e s m args below meth c s₁ B hml hv
  obtain ⟨rfl, ⟨hsz, hM, hP, hR, hK, hD0, hx0⟩, hAO⟩ := hv
  have hts := atoms_spec (ws := ws) B.pre
  have hl := lv_entry vs (n := maxL) hn
  rw [lg_entry_eq]
  generalize (lg_sl vs ++ List.replicate (maxL - (lg_sl vs).length) Slot.unset).toArray = ls at hl ⊢
  exact body p e s m below meth c B.exec B.bytes hml B.returns hts (findClass_of_methodNamed B.named) B.notSynchronized (name_of_methodNamed B.named B.method).1 hK hAO hM hsz hP (hD0.self (sz := sz)) (fun q h => Or.inr (by rw [← hsz]; exact h)) va_S.rf ls hl
set_option maxHeartbeats 4000000 in
set_option maxRecDepth 100000 in
theorem c_X1_init (l : Launch) (G : va_G) (cI cZ : ClassId) (hs sz K : Nat) : Met l yX1_init wsX1_init ({ frames := 1, cells := 33, slots := 304, locals := 12 } : Room) (va_Pc [.ref hs] (oPreI G cI cZ hs sz K)) (va_Qv (fun u : SI9 => SIok cI u.2.1 u.2.2.1 u.2.2.2.1 u.2.2.2.2) (fun u => oB G (ty3 cI cZ u.1.1) (siW hs 0 0 0 0 0 u) (va_A (siZ hs) sz) K) (va_A (siZ hs) sz)) 33 304 (va_A (siZ hs) sz) := by
  refine o_metI (cc := cX1_init) (maxL := 1) (ret := none) (by decide) rfl (Nat.le_of_ble_eq_true rfl) ?_
  intro pg e s m below meth cd hx hb hml hr hts hown hlocks hnm hK hAO hM hsz hP hD hA hS ls hl
  have hown : s.vm.findClass RX1 = some m.cls := hown
  have hin : ∀ w ∈ wsX10, w ∈ wsX1_init := by decide +kernel
  have hl : lv_has ls 1 [(0, .ref hs)] := hl
  have haI := hts (.arrayClass .int) (by decide +kernel)
  have hfI : s.vm.findClass ("[" ++ FieldType.int.toString) = some cI := (hK.2 0 (cI, .int) rfl).2
  generalize hAe : va_A (siZ hs) sz = A at hD hA hS ⊢
  refine lv_aload_n hx hb dX1_init_0 rfl (lv_at hl 0 rfl) ?_
  refine W.objInit hx hb hown (hts (.methodLink RX1 1 objectInit) (by decide +kernel)) (hts (.instanceMethod objectInit) (by decide +kernel)) (hts (.code objectInit ⟨#[0xb1]⟩ 1 none) (by decide +kernel)) rfl (by rw [hml]; exact hl.1) rfl dX1_init_1 (Nat.le_of_ble_eq_true rfl) (Nat.le_of_ble_eq_true rfl) ?_
  refine W.eq (g2 := F0 m 4 ls []) rfl ?_
  refine lv_aload_n hx hb dX1_init_4 rfl (lv_at hl 0 rfl) ?_
  refine lv_bipush (v := 10) hx hb dX1_init_5 (by decide) ?_
  refine lv_bipush (v := 13) hx hb dX1_init_7 (by decide) ?_
  refine W_up hM (va_mna (X := siZ hs) (L := []) (f := fun _ => .inr (0, [])) (N' := 10) (K' := 13) (z := (13, .inl (fun _ => 0))) (ty := .int) (cy := cI) hx hb hown (hts (.classLink RX1 7 "[[I") (by decide +kernel)) hAO haI hfI hK hP hD hS hA (by decide) (by decide) (by decide) (by decide) (by decide) (by decide) (by decide) rfl rfl (Nat.le_of_ble_eq_true rfl) (Nat.le_of_ble_eq_true rfl) (fun c => o_inner c 13) dX1_init_9 (fun ao r1 cR H hi1 hn1 hK3 hP hD hS => W_dn (fun hM => ?_)))
  generalize hL1 : ([] ++ (List.range 10).map r1 : List Nat) = L1 at hP hD
  generalize hf1 : vr_up (fun _ => (.inr (0, []) : va_E)) ((List.range 10).map r1) (.inl (cI, (13, .inl (fun _ => 0)))) = f1 at hP hD
  have hfR : s.vm.findClass ("[" ++ (FieldType.array .int).toString) = some cR := (hK3.2 2 (cR, .array .int) rfl).2
  refine W_up hM (va_putF (ci := 1) (v := .ref ao) (ty := .array (.array .int)) (C := RX1) (T := TX1) (N := 9) hx hb hts hin tyX1 tyX1_ok nmX1 hown hK hP hD hS 0 rfl rfl 6 (by decide) (hts (.fieldLink RX1 9 "CurfewDeskLaw$Sim" "order" "[[I") (by decide +kernel)) (fun _ h9 => h9) rfl hnm rfl (by decide +kernel) rfl rfl (Nat.le_of_ble_eq_true rfl) dX1_init_13 (fun H locs hP hD hS => W_dn (fun hM => ?_)))
  have hP : va_P G vwCl ([(hs, .inr (1, [.int 0, .int 0, .int 0, .int 0, .int 0, .int 0, .ref ao, .null, .null])), OA cR ao r1] ++ va_pl L1 f1) H := hP
  have hD : va_D A ([(hs, .inr (1, [.int 0, .int 0, .int 0, .int 0, .int 0, .int 0, .ref ao, .null, .null])), OA cR ao r1] ++ va_pl L1 f1) := hD
  refine lv_aload_n hx hb dX1_init_16 rfl (lv_at hl 0 rfl) ?_
  refine lv_bipush (v := 20) hx hb dX1_init_17 (by decide) ?_
  refine lv_bipush (v := 7) hx hb dX1_init_19 (by decide) ?_
  refine W_up hM (va_mna (X := [(hs, .inr (1, [.int 0, .int 0, .int 0, .int 0, .int 0, .int 0, .ref ao, .null, .null])), OA cR ao r1]) (L := L1) (f := f1) (N' := 20) (K' := 7) (z := (7, .inl (fun _ => 0))) (ty := .int) (cy := cI) hx hb hown (hts (.classLink RX1 7 "[[I") (by decide +kernel)) hAO haI hfI hK3 hP hD hS hA (by decide) (by decide) (by decide) (by decide) (by decide) (by decide) (by decide) rfl rfl (Nat.le_of_ble_eq_true rfl) (Nat.le_of_ble_eq_true rfl) (fun c => o_inner c 7) dX1_init_21 (fun ap r2 cR2 H hi2 hn2 hK4 hP hD hS => W_dn (fun hM => ?_)))
  have hfR2 : s.vm.findClass ("[" ++ (FieldType.array .int).toString) = some cR2 := (hK4.2 3 (cR2, .array .int) rfl).2
  have eR : cR2 = cR := Option.some.inj (hfR2.symm.trans hfR)
  subst eR
  generalize hL2 : L1 ++ (List.range 20).map r2 = L2 at hP hD
  generalize hf2 : vr_up f1 ((List.range 20).map r2) (.inl (cI, (7, .inl (fun _ => 0)))) = f2 at hP hD
  refine W_up hM (va_putF (ci := 1) (v := .ref ap) (ty := .array (.array .int)) (C := RX1) (T := TX1) (N := 9) hx hb hts hin tyX1 tyX1_ok nmX1 hown hK hP hD hS 0 rfl rfl 7 (by decide) (hts (.fieldLink RX1 14 "CurfewDeskLaw$Sim" "person" "[[I") (by decide +kernel)) (fun _ h9 => h9) rfl hnm rfl (by decide +kernel) rfl rfl (Nat.le_of_ble_eq_true rfl) dX1_init_25 (fun H locs hP hD hS => W_dn (fun hM => ?_)))
  have hP : va_P G vwCl ([(hs, .inr (1, [.int 0, .int 0, .int 0, .int 0, .int 0, .int 0, .ref ao, .ref ap, .null])), OA cR2 ao r1, PA cR2 ap r2] ++ va_pl L2 f2) H := hP
  have hD : va_D A ([(hs, .inr (1, [.int 0, .int 0, .int 0, .int 0, .int 0, .int 0, .ref ao, .ref ap, .null])), OA cR2 ao r1, PA cR2 ap r2] ++ va_pl L2 f2) := hD
  refine lv_aload_n hx hb dX1_init_28 rfl (lv_at hl 0 rfl) ?_
  refine lv_iconst (v := 4) hx hb dX1_init_29 (by decide) ?_
  refine o_newa (N := 4) (a0 := (4, .inl (fun _ => 0))) (ty := .int) (atype := .int) hx hb haI rfl hfI hP hD hS hA hM rfl (by decide) (by decide) (Nat.le_of_ble_eq_true rfl) (Nat.le_of_ble_eq_true rfl) (Nat.le_of_ble_eq_true rfl) dX1_init_30 (fun au H hAr _ hP hD hS hM => ?_)
  have hM : K ≤ slotSum H := by omega
  refine W_up hM (va_put (ci := 1) (v := .ref au) (ty := .array .int) (C := RX1) (T := TX1) (N := 9) hx hb hts hin tyX1 tyX1_ok nmX1 hown hK hP hD hS 0 rfl rfl 8 (by decide) (hts (.fieldLink RX1 17 "CurfewDeskLaw$Sim" "used" "[I") (by decide +kernel)) (fun _ h9 => h9) rfl (by decide +kernel) rfl rfl (Nat.le_of_ble_eq_true rfl) dX1_init_32 (fun H locs hP hD hS => W_dn (fun hM => ?_)))
  have hP : va_P G vwCl (([SM hs ao ap au 0 0 0 0 0, OA cR2 ao r1, PA cR2 ap r2] ++ va_pl L2 f2) ++ [(au, .inl (cI, 4, .inl (fun _ => 0)))]) H := hP
  have hD : va_D A (([SM hs ao ap au 0 0 0 0 0, OA cR2 ao r1, PA cR2 ap r2] ++ va_pl L2 f2) ++ [(au, .inl (cI, 4, .inl (fun _ => 0)))]) := hD
  have hP9 := o_preP hP
  have hD9 := o_preD hD
  have hL1m : ∀ i, i < 10 → r1 i ∈ L1 := fun i hi => by
    rw [← hL1, List.nil_append]
    exact List.mem_map.mpr ⟨i, List.mem_range.mpr hi, rfl⟩
  have hne : ∀ i j, i < 10 → j < 20 → r1 i ≠ r2 j := fun i j hi hj h => hn2 j hj (by rw [← h]; exact hL1m i hi)
  have hok : SIok cI r1 r2 L2 f2 := by
    refine ⟨fun i hi => ⟨?_, fun _ => 0, ?_⟩, fun i hi => ⟨?_, fun _ => 0, ?_⟩, fun i j hi hj h => hi1 i j hi hj h, hne⟩
    · rw [← hL2]
      exact List.mem_append_left _ (hL1m i hi)
    · rw [← hf2, vr_up_ne (fun h => by
        obtain ⟨j, hj, e9⟩ := List.mem_map.mp h
        exact hne i j hi (List.mem_range.mp hj) e9.symm), ← hf1, vr_up_in (List.mem_map.mpr ⟨i, List.mem_range.mpr hi, rfl⟩)]
    · rw [← hL2]
      exact List.mem_append_right _ (List.mem_map.mpr ⟨i, List.mem_range.mpr hi, rfl⟩)
    · rw [← hf2, vr_up_in (List.mem_map.mpr ⟨i, List.mem_range.mpr hi, rfl⟩)]
  refine W.widen (k := 33) (n := 304) (Nat.le_of_ble_eq_true rfl) (Nat.le_of_ble_eq_true rfl) ?_
  exact W.vret hx hb hr (fun t ht hW => ⟨⟨((cR2, ao, ap, au), (r1, r2, L2, f2)), rfl, hok, ⟨⟨by rw [ht]; exact hP9, va_K.moved hW.alike hK3, hD9⟩, by rw [ht]; exact hM⟩⟩, hS.F ht⟩) hS.2.2 dX1_init_35 hlocks
end SIN
