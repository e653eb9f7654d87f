section LWS
variable {p : Program} {l : Launch} {e : Env} {s : State} {m : MethodId} {below : List Frame} {meth : Method} {c : Code} {H : Heap} {locs : List Loc} {cells slots : Nat} {Q : State → Prop} {ls : Array Slot}
variable {G : va_G} {cI cZ dI dZ cL : ClassId} {h : Nat} {a : Nat → Nat} {h2 : Nat} {a2 : Nat → Nat} {ao b L i : Nat} {xs : Nat → Int32} {F : Nat → Nat → Int32} {nq no np : Nat} {sh nw th : Int32} {wt : Nat → Int32} {g : Nat → Int64}
def lwH (p : Program) (l : Launch) (e : Env) (s : State) (m : MethodId) (below : List Frame) (meth : Method) (c : Code) (G : va_G) (cI cZ dI dZ cL : ClassId) (h : Nat) (a : Nat → Nat) (h2 : Nat) (a2 : Nat → Nat) (ao b i cells slots : Nat) (Q : State → Prop) : Prop :=
  ∀ (F : Nat → Nat → Int32) (nq no np : Nat) (sh nw th : Int32) (wt : Nat → Int32) (g : Nat → Int64) (H : Heap) (locs : List Loc) (ls : Array Slot), p_Inv F nq no np → va_P G vwCl (lwD cI cZ dI dZ cL h a h2 a2 ao F nq no np sh nw F nq no np sh nw th wt g) H → va_D (lwA s) (lwD cI cZ dI dZ cL h a h2 a2 ao F nq no np sh nw F nq no np sh nw th wt g) → va_S (lwA s) s.heap H locs → lv_has ls 9 (lwL b h h2 ao i) →
    W p l e room_1 s m #[Value.ref b] below meth c H locs cells slots Q (F0 m 23 ls [])
theorem len_5 {i L : Nat} (hi : i < 2 ^ 20) (hL : L ≤ 2560) (h : ¬ Int32.ofNat L - 5 < nI i) : i + 5 ≤ L := by
  by_cases h5 : 5 ≤ L
  · obtain ⟨r, rfl⟩ : ∃ r, L = r + 5 := ⟨L - 5, by omega⟩
    have e9 : Int32.ofNat (r + 5) - 5 = nI r := by
      show nI (r + 5) - nI 5 = nI r
      rw [← nI_add, Int32.add_sub_cancel]
    rw [e9, nI_ltI (by omega) (by omega)] at h
    omega
  · exfalso
    apply h
    rw [Int32.lt_iff_toInt_lt, nI_toInt (by omega)]
    have hz : L = 0 ∨ L = 1 ∨ L = 2 ∨ L = 3 ∨ L = 4 := by omega
    have h0 : (Int32.ofNat L - 5).toInt < 0 := by rcases hz with rfl | rfl | rfl | rfl | rfl <;> decide
    omega
set_option maxHeartbeats 4000000 in
set_option maxRecDepth 100000 in
theorem law_turn (C : lwC p l s m c G cI cZ dI dZ cL b L xs) (hr : meth.sig.returnType = ret) (hlocks : meth.locks = false) (hL : L ≤ 2560) (hi9 : i < 2 ^ 20) (hcs : cells ≤ 601024 ∧ slots ≤ 7293034) (hce : i + 5 ≤ L → cells + 1000 ≤ 601024 ∧ slots + 10000 ≤ 7293034)
    (next : i + 5 ≤ L → lwH p l e s m below meth c G cI cZ dI dZ cL h a h2 a2 ao b (i + 5) (cells + 1000) (slots + 10000) (lw_Z below #[Value.ref b] s)) : lwH p l e s m below meth c G cI cZ dI dZ cL h a h2 a2 ao b i cells slots (lw_Z below #[Value.ref b] s) := by
  intro F nq no np sh nw th wt g H locs ls J hP hD hS hl
  obtain ⟨hfl, hx, hb, hml, hown, hts, hK, hX, hbl, hZ, hN⟩ := id C
  have hbA : ¬ lwA s b := fun h => absurd hbl (Nat.not_lt.mpr h)
  refine lv_iload hx hb dL_law_23 (lv_at hl 4 rfl) ?_
  refine lv_aload_n hx hb dL_law_25 rfl (lv_at hl 0 rfl) ?_
  refine va_slen hx hb hX hbl hbA hS dL_law_26 ?_
  refine lv_iconst (v := 5) hx hb dL_law_27 (by decide) ?_
  refine lv_isub hx hb dL_law_28 ?_
  refine lv_icmp_gt (tgt := 2152) hx hb dL_law_29 (by decide) (fun _ => ?_) (fun h9 => ?_)
  · refine lv_iconst (v := 1) hx hb dL_law_2152 (by decide) ?_
    refine va_forget (fun q hq => hS.2.2 q hq) ?_
    refine W.widen (k := 601024) (n := 7293034) hcs.1 hcs.2 ?_
    refine W.base ?_
    exact lw_ret (Drawn.sameBut.refl s.drawn lw_cs) hx hb hr hlocks dL_law_2153
  have hi := len_5 hi9 hL h9
  have hce := hce hi
  have kk : lwK p l e s m below meth c G cI cZ dI dZ cL h a h2 a2 ao b i (cells + 1000) (slots + 10000) (lw_Z below #[Value.ref b] s) := by
    intro F nq no np sh nw th wt g H locs ls J hP hD hS hl
    refine lv_iinc (v := nI (i + 5)) (lv' := [(4, .int (nI (i + 5))), (0, .ref b), (1, .ref h), (2, .ref h2), (3, .ref ao)]) hx hb dL_law_2146 hl (k := 4) rfl (by rw [← nI_add]; rfl) (by decide) rfl (fun ls hl => ?_)
    refine lv_goto (tgt := 23) hx hb dL_law_2149 (by decide) ?_
    exact next hi F nq no np sh nw th wt g H locs ls J hP hD hS (lv_sub hl [1, 2, 3, 4, 0] rfl)
  refine lv_aload_n hx hb dL_law_32 rfl (lv_at hl 0 rfl) ?_
  refine lv_iload hx hb dL_law_33 (lv_at hl 4 rfl) ?_
  refine va_sld hx hb hX hbl hbA hS (vp_in_nI (by omega) (by omega)) dL_law_35 ?_
  refine lv_bipush (v := 63) hx hb dL_law_36 (by decide) ?_
  refine lv_iand hx hb dL_law_38 ?_
  obtain ⟨j, hj, ej⟩ := pk_andE (xs (nI i).toNatClampNeg) (m := 63) 6 (by decide)
  rw [ej]
  clear ej
  match j, hj with
  | 0, _ => exact lv_tableIn (tgt := 208) (off := 169) hx hb dL_law_39 (by decide +kernel) (by decide +kernel) (by decide +kernel) (by decide) (kL_addQuarter C J hi hL hce.1 hce.2 hP hD hS hl kk)
  | 1, _ => exact lv_tableIn (tgt := 252) (off := 213) hx hb dL_law_39 (by decide +kernel) (by decide +kernel) (by decide +kernel) (by decide) (kL_addPerson C J hi hL hce.1 hce.2 hP hD hS hl kk)
  | 2, _ => exact lv_tableIn (tgt := 308) (off := 269) hx hb dL_law_39 (by decide +kernel) (by decide +kernel) (by decide +kernel) (by decide) (kL_addOrder C J hi hL hce.1 hce.2 hP hD hS hl kk)
  | 3, _ => exact lv_tableIn (tgt := 400) (off := 361) hx hb dL_law_39 (by decide +kernel) (by decide +kernel) (by decide +kernel) (by decide) (kL_turnExempt C J hi hL hce.1 hce.2 hP hD hS hl kk)
  | 4, _ => exact lv_tableIn (tgt := 475) (off := 436) hx hb dL_law_39 (by decide +kernel) (by decide +kernel) (by decide +kernel) (by decide) (kL_turnOrder C J hi hL hce.1 hce.2 hP hD hS hl kk)
  | 5, _ => exact lv_tableIn (tgt := 538) (off := 499) hx hb dL_law_39 (by decide +kernel) (by decide +kernel) (by decide +kernel) (by decide) (kL_setShift C J hi hL hce.1 hce.2 hP hD hS hl kk)
  | 6, _ => exact lv_tableIn (tgt := 594) (off := 555) hx hb dL_law_39 (by decide +kernel) (by decide +kernel) (by decide +kernel) (by decide) (kL_givePass C J hi hL hce.1 hce.2 hP hD hS hl kk)
  | 7, _ => exact lv_tableIn (tgt := 674) (off := 635) hx hb dL_law_39 (by decide +kernel) (by decide +kernel) (by decide +kernel) (by decide) (kL_takePass C J hi hL hce.1 hce.2 hP hD hS hl kk)
  | 8, _ => exact lv_tableIn (tgt := 742) (off := 703) hx hb dL_law_39 (by decide +kernel) (by decide +kernel) (by decide +kernel) (by decide) (kL_goOut C J hi hL hce.1 hce.2 hP hD hS hl kk)
  | 9, _ => exact lv_tableIn (tgt := 810) (off := 771) hx hb dL_law_39 (by decide +kernel) (by decide +kernel) (by decide +kernel) (by decide) (kL_pass C J hi hL hce.1 hce.2 hP hD hS hl kk)
  | 10, _ => exact lv_tableIn (tgt := 866) (off := 827) hx hb dL_law_39 (by decide +kernel) (by decide +kernel) (by decide +kernel) (by decide) (kL_day C J hi hL hce.1 hce.2 hP hD hS hl kk)
  | 11, _ => exact lv_tableIn (tgt := 879) (off := 840) hx hb dL_law_39 (by decide +kernel) (by decide +kernel) (by decide +kernel) (by decide) (kL_halfHour C J hi hL hce.1 hce.2 hP hD hS hl kk)
  | 12, _ => exact lv_tableIn (tgt := 892) (off := 853) hx hb dL_law_39 (by decide +kernel) (by decide +kernel) (by decide +kernel) (by decide) (kL_duskIn C J hi hL hce.1 hce.2 hP hD hS hl kk)
  | 13, _ => exact lv_tableIn (tgt := 948) (off := 909) hx hb dL_law_39 (by decide +kernel) (by decide +kernel) (by decide +kernel) (by decide) (kL_dawnIn C J hi hL hce.1 hce.2 hP hD hS hl kk)
  | 14, _ => exact lv_tableIn (tgt := 1004) (off := 965) hx hb dL_law_39 (by decide +kernel) (by decide +kernel) (by decide +kernel) (by decide) (kL_quarterOf C J hi hL hce.1 hce.2 hP hD hS hl kk)
  | 15, _ => exact lv_tableIn (tgt := 1060) (off := 1021) hx hb dL_law_39 (by decide +kernel) (by decide +kernel) (by decide +kernel) (by decide) (kL_colourOf C J hi hL hce.1 hce.2 hP hD hS hl kk)
  | 16, _ => exact lv_tableIn (tgt := 1116) (off := 1077) hx hb dL_law_39 (by decide +kernel) (by decide +kernel) (by decide +kernel) (by decide) (kL_isInForce C J hi hL hce.1 hce.2 hP hD hS hl kk)
  | 17, _ => exact lv_tableIn (tgt := 1179) (off := 1140) hx hb dL_law_39 (by decide +kernel) (by decide +kernel) (by decide +kernel) (by decide) (kL_isOn C J hi hL hce.1 hce.2 hP hD hS hl kk)
  | 18, _ => exact lv_tableIn (tgt := 1242) (off := 1203) hx hb dL_law_39 (by decide +kernel) (by decide +kernel) (by decide +kernel) (by decide) (kL_isExempt C J hi hL hce.1 hce.2 hP hD hS hl kk)
  | 19, _ => exact lv_tableIn (tgt := 1317) (off := 1278) hx hb dL_law_39 (by decide +kernel) (by decide +kernel) (by decide +kernel) (by decide) (kL_barredBy C J hi hL hce.1 hce.2 hP hD hS hl kk)
  | 20, _ => exact lv_tableIn (tgt := 1373) (off := 1334) hx hb dL_law_39 (by decide +kernel) (by decide +kernel) (by decide +kernel) (by decide) (kL_tradeOf C J hi hL hce.1 hce.2 hP hD hS hl kk)
  | 21, _ => exact lv_tableIn (tgt := 1429) (off := 1390) hx hb dL_law_39 (by decide +kernel) (by decide +kernel) (by decide +kernel) (by decide) (kL_stampsOf C J hi hL hce.1 hce.2 hP hD hS hl kk)
  | 22, _ => exact lv_tableIn (tgt := 1497) (off := 1458) hx hb dL_law_39 (by decide +kernel) (by decide +kernel) (by decide +kernel) (by decide) (kL_owes C J hi hL hce.1 hce.2 hP hD hS hl kk)
  | 23, _ => exact lv_tableIn (tgt := 1553) (off := 1514) hx hb dL_law_39 (by decide +kernel) (by decide +kernel) (by decide +kernel) (by decide) (kL_timesFined C J hi hL hce.1 hce.2 hP hD hS hl kk)
  | 24, _ => exact lv_tableIn (tgt := 1609) (off := 1570) hx hb dL_law_39 (by decide +kernel) (by decide +kernel) (by decide +kernel) (by decide) (kL_ordersAgainst C J hi hL hce.1 hce.2 hP hD hS hl kk)
  | 25, _ => exact lv_tableIn (tgt := 1677) (off := 1638) hx hb dL_law_39 (by decide +kernel) (by decide +kernel) (by decide +kernel) (by decide) (kL_mayGo C J hi hL hce.1 hce.2 hP hD hS hl kk)
  | 26, _ => exact lv_tableIn (tgt := 1752) (off := 1713) hx hb dL_law_39 (by decide +kernel) (by decide +kernel) (by decide +kernel) (by decide) (kL_stampsMissing C J hi hL hce.1 hce.2 hP hD hS hl kk)
  | 27, _ => exact lv_tableIn (tgt := 1820) (off := 1781) hx hb dL_law_39 (by decide +kernel) (by decide +kernel) (by decide +kernel) (by decide) (kL_quarters C J hi hL hce.1 hce.2 hP hD hS hl kk)
  | 28, _ => exact lv_tableIn (tgt := 1833) (off := 1794) hx hb dL_law_39 (by decide +kernel) (by decide +kernel) (by decide +kernel) (by decide) (kL_orders C J hi hL hce.1 hce.2 hP hD hS hl kk)
  | 29, _ => exact lv_tableIn (tgt := 1846) (off := 1807) hx hb dL_law_39 (by decide +kernel) (by decide +kernel) (by decide +kernel) (by decide) (kL_people C J hi hL hce.1 hce.2 hP hD hS hl kk)
  | 30, _ => exact lv_tableIn (tgt := 1859) (off := 1820) hx hb dL_law_39 (by decide +kernel) (by decide +kernel) (by decide +kernel) (by decide) (kL_ordersOn C J hi hL hce.1 hce.2 hP hD hS hl kk)
  | 31, _ => exact lv_tableIn (tgt := 1872) (off := 1833) hx hb dL_law_39 (by decide +kernel) (by decide +kernel) (by decide +kernel) (by decide) (kL_shift C J hi hL hce.1 hce.2 hP hD hS hl kk)
  | 32, _ => exact lv_tableIn (tgt := 1885) (off := 1846) hx hb dL_law_39 (by decide +kernel) (by decide +kernel) (by decide +kernel) (by decide) (kL_allOwe C J hi hL hce.1 hce.2 hP hD hS hl kk)
  | 33, _ => exact lv_tableIn (tgt := 1898) (off := 1859) hx hb dL_law_39 (by decide +kernel) (by decide +kernel) (by decide +kernel) (by decide) (kL_stampsUsed C J hi hL hce.1 hce.2 hP hD hS hl kk)
  | 34, _ => exact lv_tableIn (tgt := 1954) (off := 1915) hx hb dL_law_39 (by decide +kernel) (by decide +kernel) (by decide +kernel) (by decide) (kL_halfHoursUntilFree C J hi hL hce.1 hce.2 hP hD hS hl kk)
  | 35, _ => exact lv_tableIn (tgt := 2022) (off := 1983) hx hb dL_law_39 (by decide +kernel) (by decide +kernel) (by decide +kernel) (by decide) (kL_halfHoursOn C J hi hL hce.1 hce.2 hP hD hS hl kk)
  | 36, _ => exact lv_tableIn (tgt := 2078) (off := 2039) hx hb dL_law_39 (by decide +kernel) (by decide +kernel) (by decide +kernel) (by decide) (kL_bestLift C J hi hL hce.1 hce.2 hP hD hS hl kk)
  | 37, _ => exact lv_tableIn (tgt := 2091) (off := 2052) hx hb dL_law_39 (by decide +kernel) (by decide +kernel) (by decide +kernel) (by decide) (kL_meanDebt C J hi hL hce.1 hce.2 hP hD hS hl kk)
  | 38, _ => exact lv_tableIn (tgt := 2132) (off := 2093) hx hb dL_law_39 (by decide +kernel) (by decide +kernel) (by decide +kernel) (by decide) (kL_digest C J hi hL hce.1 hce.2 hP hD hS hl kk)
  | j + 39, hj => exact lv_tableOut (tgt := 2146) hx hb dL_law_39 (Or.inr (by rw [nI_toInt (by omega)]; omega)) (by decide) (W.widen (k := cells + 1000) (n := slots + 10000) (by omega) (by omega) (kk F nq no np sh nw th wt g H locs ls J hP hD hS hl))
theorem law_loop (C : lwC p l s m c G cI cZ dI dZ cL b L xs) (hr : meth.sig.returnType = ret) (hlocks : meth.locks = false) (hL : L ≤ 2560) : ∀ n k : Nat, k + n = 513 → lwH p l e s m below meth c G cI cZ dI dZ cL h a h2 a2 ao b (5 * k) (26 + 1000 * k) (447 + 10000 * k) (lw_Z below #[Value.ref b] s) := by
  intro n
  induction n with
  | zero => exact fun k hk => law_turn C hr hlocks hL (by omega) ⟨by omega, by omega⟩ (fun h => absurd h (by omega)) (fun h => absurd h (by omega))
  | succ n ih => exact fun k hk => law_turn C hr hlocks hL (by omega) ⟨by omega, by omega⟩ (fun h => ⟨by omega, by omega⟩) (fun _ => by
    have q := ih (k + 1) (by omega)
    rw [show 5 * (k + 1) = 5 * k + 5 by omega, show 26 + 1000 * (k + 1) = 26 + 1000 * k + 1000 by omega, show 447 + 10000 * (k + 1) = 447 + 10000 * k + 10000 by omega] at q
    exact q)
end LWS
