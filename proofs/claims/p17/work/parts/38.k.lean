/-- the reference's tape as a function -/
def gTm (M : gM) (p : Int) : Int := if 0 ≤ p ∧ p < M 191 10 then M 191 (p + 2620) else -1
theorem gTm_o {M : gM} {p : Int} (h : ¬ p < M 191 10) : gTm M p = -1 := if_neg (fun q => h q.2)
theorem gTx_of {M N : gM} {a n : Int} (h11 : N 190 11 = a) (hL : N 191 (a + 668) = n) (hn : M 191 10 = n) (hc : ∀ i : Int, 0 ≤ i → i < n → N 191 (680 + 150 * a + i) = M 191 (i + 2620)) : gTx N = gTm M := by
  funext p; unfold gTx gTm; rw [h11, hL, hn]
  by_cases h : 0 ≤ p ∧ p < n
  · rw [if_pos h, if_pos h, hc p h.1 h.2]
  · rw [if_neg h, if_neg h]
theorem gTx.set {sz : Nat} {M M2 : gM} {k z : Int} (hsz : 206 ≤ sz) (I : gI sz M) (e : M2 = gset M 191 k z) (hk : 24700 ≤ k) : gTx M2 = gTx M := by
  obtain ⟨a, ha, ra⟩ := gRd I (by decide) (gsz hsz (by decide)) rc_190_11.1
  obtain ⟨n, hn, rn⟩ := gRd I (by decide) (gsz hsz (by decide)) (rs_ALONG (k := M 190 11 + 668) (by omega)).1
  have e11 : M2 190 11 = M 190 11 := by rw [e]; exact gset_ne (by omega)
  have eL : M2 191 (M 190 11 + 668) = M 191 (M 190 11 + 668) := by rw [e]; exact gset_ne (by omega)
  funext p
  unfold gTx
  rw [e11, eL]
  by_cases g : 0 ≤ p ∧ p < M 191 (M 190 11 + 668)
  · rw [if_pos g, if_pos g, e]; exact gset_ne (by omega)
  · rw [if_neg g, if_neg g]
theorem gVal_5 {T : Int → Int} {w p v : Int} (hw : w = 5 ∨ w = 6) (h : (T p = 110 ∧ v = 0) ∨ (¬ T p = 110 ∧ T p = 121 ∧ v = 1)) : gVal T w p = (v, p + 1) := by
  unfold gVal; rw [if_pos hw]
  rcases h with ⟨h1, h2⟩ | ⟨h1, h2, h3⟩
  · rw [if_pos h1, h2]
  · rw [if_neg h1, if_pos h2, h3]
theorem gVal_5n {T : Int → Int} {w p : Int} (hw : w = 5 ∨ w = 6) (h1 : ¬ T p = 110) (h2 : ¬ T p = 121) : gVal T w p = (-1, p) := by
  unfold gVal; rw [if_pos hw, if_neg h1, if_neg h2]
theorem gVal_7 {T : Int → Int} {w p v : Int} (hw : w = 7) (h : (T p = 114 ∧ v = 0) ∨ (¬ T p = 114 ∧ T p = 104 ∧ v = 1) ∨ (¬ T p = 114 ∧ ¬ T p = 104 ∧ T p = 101 ∧ v = 2)) : gVal T w p = (v, p + 1) := by
  unfold gVal; rw [if_neg (by omega), if_pos hw]
  rcases h with ⟨h1, h2⟩ | ⟨h1, h2, h3⟩ | ⟨h1, h2, h3, h4⟩
  · rw [if_pos h1, h2]
  · rw [if_neg h1, if_pos h2, h3]
  · rw [if_neg h1, if_neg h2, if_pos h3, h4]
theorem gVal_7n {T : Int → Int} {w p : Int} (hw : w = 7) (h1 : ¬ T p = 114) (h2 : ¬ T p = 104) (h3 : ¬ T p = 101) : gVal T w p = (-1, p) := by
  unfold gVal; rw [if_neg (by omega), if_pos hw, if_neg h1, if_neg h2, if_neg h3]
theorem gVal_9 {T : Int → Int} {w p v : Int} (hw : w = 9) (h : 48 ≤ T p ∧ T p ≤ 51) (hv : v = T p - 48) : gVal T w p = (v, p + 1) := by
  unfold gVal; rw [if_neg (by omega), if_neg (by omega), if_pos hw, if_pos h, hv]
theorem gVal_9n {T : Int → Int} {w p : Int} (hw : w = 9) (h : ¬ (48 ≤ T p ∧ T p ≤ 51)) : gVal T w p = (-1, p) := by
  unfold gVal; rw [if_neg (by omega), if_neg (by omega), if_pos hw, if_neg h]
theorem gVal_d {T : Int → Int} {w p q v : Int} (hw : ¬ (w = 5 ∨ w = 6 ∨ w = 7 ∨ w = 9)) (h : gDig (T p) = true) (e : gNum T 4 p = (q, v)) : gVal T w p = (v, q) := by
  unfold gVal; rw [if_neg (by omega), if_neg (by omega), if_neg (by omega), if_pos h, e]
theorem gVal_dn {T : Int → Int} {w p : Int} (hw : ¬ (w = 5 ∨ w = 6 ∨ w = 7 ∨ w = 9)) (h : ¬ gDig (T p) = true) : gVal T w p = (-1, p) := by
  unfold gVal; rw [if_neg (by omega), if_neg (by omega), if_neg (by omega), if_neg h]
/-- behind a CLAUSE that ends at q, f more may come -/
def gAd (T : Int → Int) (n : Int) (f : Nat) (q : Int) : Int := if q = n then -1 else if f = 0 then q else if T q = 59 then gAct T n f (q + 1) else q
theorem gAct_d {T : Int → Int} {n p q : Int} {f : Nat} (h : (gCl T p).2.2.2 = q) (h0 : 0 ≤ q) : gAct T n (f + 1) p = gAd T n f q := by
  conv => lhs; unfold gAct
  rw [h, if_neg (by omega)]
  rfl
theorem gAd_s {T : Int → Int} {n q : Int} {f : Nat} (hn : ¬ q = n) (hf : ¬ f = 0) (ht : T q = 59) : gAd T n f q = gAct T n f (q + 1) := by
  unfold gAd; rw [if_neg hn, if_neg hf, if_pos ht]
theorem gAd_e {T : Int → Int} {n q : Int} {f : Nat} (hn : q = n) : gAd T n f q = -1 := by
  unfold gAd; rw [if_pos hn]
theorem gAd_n {T : Int → Int} {n q : Int} {f : Nat} (hn : ¬ q = n) (h : f = 0 ∨ ¬ T q = 59) : gAd T n f q = q := by
  unfold gAd; rw [if_neg hn]
  by_cases c : f = 0
  · rw [if_pos c]
  · rw [if_neg c, if_neg (h.resolve_left c)]
theorem gG_ac {k : Int} (h : 24700 ≤ k ∧ k < 25000) : gG 191 k = 52 := by
  rcases (by omega : (24700 ≤ k ∧ k < 24720) ∨ (24720 ≤ k ∧ k < 24810) ∨ (24810 ≤ k ∧ k < 24900) ∨ (24900 ≤ k ∧ k < 25000)) with h | h | h | h
  · exact (rs_LCOUNT h).2.2
  · exact (rs_LWORD h).2.2
  · exact (rs_LVALUE h).2.2
  · exact (rs_LSPOT h).2.2
/-- what stands behind the first CLAUSE, behind one more -/
theorem gM_first {T : Int → Int} {N : gM} {a p q l : Int} (h0 : 0 ≤ (gCl T p).2.2.2) (hq : (gCl T p).2.2.2 = q) (hp : p = 0) (hl : l = 0) (hv : 0 ≤ (gCl T p).2.1) (hw : N 191 (8 * a + l + 24720) = (gCl T p).1) (hx : N 191 (8 * a + l + 24810) = (gCl T p).2.1) (hL : N 191 (a + 24700) = l + 1) (h12 : N 190 12 = q) : ∃ L : Nat, (1 ≤ L ∧ N 191 (a + 24700) = (L : Int)) ∧ (gCl T (gPl T (L - 1))).2.2.2 = N 190 12 ∧ (∀ i : Nat, i + 1 < L → T (gCl T (gPl T i)).2.2.2 = 59) ∧ (∀ j : Nat, j < L → N 191 (8 * a + (j : Int) + 24720) = (gCl T (gPl T j)).1 ∧ N 191 (8 * a + (j : Int) + 24810) = (gCl T (gPl T j)).2.1 ∧ 0 ≤ (gCl T (gPl T j)).2.1) := by
  subst hp; subst hl
  refine ⟨1, ⟨Nat.le_refl _, by rw [hL]; rfl⟩, hq.trans h12.symm, fun i hi => by exfalso; omega, fun j hj => ?_⟩
  obtain rfl : j = 0 := by omega
  exact ⟨hw, hx, hv⟩
theorem gM_next {T : Int → Int} {N N0 : gM} {a p q q0 l : Int} {L : Nat} (L1 : 1 ≤ L ∧ N0 191 (a + 24700) = (L : Int)) (L2 : (gCl T (gPl T (L - 1))).2.2.2 = N0 190 12) (L3 : ∀ i : Nat, i + 1 < L → T (gCl T (gPl T i)).2.2.2 = 59) (L4 : ∀ j : Nat, j < L → N0 191 (8 * a + (j : Int) + 24720) = (gCl T (gPl T j)).1 ∧ N0 191 (8 * a + (j : Int) + 24810) = (gCl T (gPl T j)).2.1 ∧ 0 ≤ (gCl T (gPl T j)).2.1) (h0 : N0 190 12 = q0) (h59 : T q0 = 59) (hq : (gCl T p).2.2.2 = q) (hv : 0 ≤ (gCl T p).2.1) (hw : N 191 (8 * a + l + 24720) = (gCl T p).1) (hx : N 191 (8 * a + l + 24810) = (gCl T p).2.1) (hp : p = q0 + 1) (hL : l = (L : Int) ∧ N 191 (a + 24700) = l + 1) (h12 : N 190 12 = q) (hs : ∀ j : Nat, j < L → N 191 (8 * a + (j : Int) + 24720) = N0 191 (8 * a + (j : Int) + 24720) ∧ N 191 (8 * a + (j : Int) + 24810) = N0 191 (8 * a + (j : Int) + 24810)) : ∃ L : Nat, (1 ≤ L ∧ N 191 (a + 24700) = (L : Int)) ∧ (gCl T (gPl T (L - 1))).2.2.2 = N 190 12 ∧ (∀ i : Nat, i + 1 < L → T (gCl T (gPl T i)).2.2.2 = 59) ∧ (∀ j : Nat, j < L → N 191 (8 * a + (j : Int) + 24720) = (gCl T (gPl T j)).1 ∧ N 191 (8 * a + (j : Int) + 24810) = (gCl T (gPl T j)).2.1 ∧ 0 ≤ (gCl T (gPl T j)).2.1) := by
  have hpl : gPl T L = p := by
    rw [hp, ← h0, ← L2]
    obtain ⟨K, rfl⟩ : ∃ K : Nat, L = K + 1 := ⟨L - 1, by omega⟩
    rfl
  obtain ⟨hl, hL⟩ := hL
  subst hl
  refine ⟨L + 1, ⟨by omega, by rw [hL]; rfl⟩, ?_, fun i hi => ?_, fun j hj => ?_⟩
  · show (gCl T (gPl T L)).2.2.2 = _
    rw [hpl, hq, h12]
  · by_cases c : i + 1 < L
    · exact L3 i c
    · rw [show i = L - 1 by omega, L2, h0]; exact h59
  · by_cases c : j < L
    · rw [(hs j c).1, (hs j c).2]; exact L4 j c
    · obtain rfl : j = L := by omega
      rw [hpl]; exact ⟨hw, hx, hv⟩
theorem s_X12_parseD2 {l : Launch} {n0 : Nat} {D : va_G} {cA : Nat → ClassId} {sz : Nat} (hsz : 206 ≤ sz) (d : Nat) : (∀ M : gM, gI sz M → gC sz M → gW 191 M → (M 190 15 = -1 ∨ M 190 15 < M 191 1) → 0 ≤ M 190 14 ∧ M 190 14 ≤ 6 → 6 ≤ M 190 14 + (d : Int) → 0 ≤ M 190 12 → Met l yX12_factor (gWsOf yX12_factor cX12_factor 5 (Option.some Jvm.ClassFile.FieldType.boolean)) (RF d) (gPc n0 D cA [gA n0 190] M sz) (gQi n0 D cA sz (fun z M1 => (0 ≤ z ∧ z ≤ 1) ∧ gI sz M1 ∧ gC sz M1 ∧ gFr 2475881517416798299143274496 M M1 ∧ ((M 190 12 ≤ M1 190 12 ∧ M1 190 14 = M 190 14) ∧ ((M 190 13 = 1 ∧ M1 190 13 = 1 ∧ M1 190 12 = M 190 12) ∨ (M 190 13 = 0 ∧ gFa (gTx M) (M 190 14) (M 190 12) (M1 190 13) (M1 190 12)))))) 0 0 (fun q => n0 ≤ q)) ∧ (∀ M : gM, gI sz M → gC sz M → gW 191 M → (M 190 15 = -1 ∨ M 190 15 < M 191 1) → 0 ≤ M 190 14 ∧ M 190 14 ≤ 6 → 6 ≤ M 190 14 + (d : Int) → 0 ≤ M 190 12 → Met l yX12_some (gWsOf yX12_some cX12_some 3 (Option.some Jvm.ClassFile.FieldType.boolean)) (RO d) (gPc n0 D cA [gA n0 190] M sz) (gQi n0 D cA sz (fun z M1 => (0 ≤ z ∧ z ≤ 1) ∧ gI sz M1 ∧ gC sz M1 ∧ gFr 2475881517416798299143274496 M M1 ∧ ((M 190 12 ≤ M1 190 12 ∧ M1 190 14 = M 190 14) ∧ ((M 190 13 = 1 ∧ M1 190 13 = 1 ∧ M1 190 12 = M 190 12) ∨ (M 190 13 = 0 ∧ gLp (gTx M) (M 190 14) (M 190 12) (M1 190 13) (M1 190 12) ∧ (M1 190 13 = 0 → ¬ (gTx M (M1 190 12) = 38 ∨ gTx M (M1 190 12) = 124))))))) 0 0 (fun q => n0 ≤ q)) := by
  induction d with
  | zero =>
    have h1 : (∀ M : gM, gI sz M → gC sz M → gW 191 M → (M 190 15 = -1 ∨ M 190 15 < M 191 1) → 0 ≤ M 190 14 ∧ M 190 14 ≤ 6 → 6 ≤ M 190 14 + ((0 : Nat) : Int) → 0 ≤ M 190 12 → Met l yX12_factor (gWsOf yX12_factor cX12_factor 5 (Option.some Jvm.ClassFile.FieldType.boolean)) (RF 0) (gPc n0 D cA [gA n0 190] M sz) (gQi n0 D cA sz (fun z M1 => (0 ≤ z ∧ z ≤ 1) ∧ gI sz M1 ∧ gC sz M1 ∧ gFr 2475881517416798299143274496 M M1 ∧ ((M 190 12 ≤ M1 190 12 ∧ M1 190 14 = M 190 14) ∧ ((M 190 13 = 1 ∧ M1 190 13 = 1 ∧ M1 190 12 = M 190 12) ∨ (M 190 13 = 0 ∧ gFa (gTx M) (M 190 14) (M 190 12) (M1 190 13) (M1 190 12)))))) 0 0 (fun q => n0 ≤ q)) := fun M I C W hk ho hd hs => s_X12_factorR2 hsz I C W hk ho 0 hd hs (fun d2 h => absurd h (by omega))
    have h2 : (∀ M : gM, gI sz M → gC sz M → gW 191 M → (M 190 15 = -1 ∨ M 190 15 < M 191 1) → 0 ≤ M 190 14 ∧ M 190 14 ≤ 6 → 6 ≤ M 190 14 + ((0 : Nat) : Int) → 0 ≤ M 190 12 → Met l yX12_every (gWsOf yX12_every cX12_every 3 (Option.some Jvm.ClassFile.FieldType.boolean)) (RE 0) (gPc n0 D cA [gA n0 190] M sz) (gQi n0 D cA sz (fun z M1 => (0 ≤ z ∧ z ≤ 1) ∧ gI sz M1 ∧ gC sz M1 ∧ gFr 2475881517416798299143274496 M M1 ∧ ((M 190 12 ≤ M1 190 12 ∧ M1 190 14 = M 190 14) ∧ ((M 190 13 = 1 ∧ M1 190 13 = 1 ∧ M1 190 12 = M 190 12) ∨ (M 190 13 = 0 ∧ gLp (gTx M) (M 190 14) (M 190 12) (M1 190 13) (M1 190 12) ∧ (M1 190 13 = 0 → ¬ (gTx M (M1 190 12) = 38))))))) 0 0 (fun q => n0 ≤ q)) := fun M I C W hk ho hd hs => s_X12_everyR2 hsz I C W hk ho 0 hd hs h1
    exact ⟨h1, fun M I C W hk ho hd hs => s_X12_someR2 hsz I C W hk ho 0 hd hs h2⟩
  | succ d ih =>
    have h1 : (∀ M : gM, gI sz M → gC sz M → gW 191 M → (M 190 15 = -1 ∨ M 190 15 < M 191 1) → 0 ≤ M 190 14 ∧ M 190 14 ≤ 6 → 6 ≤ M 190 14 + ((d + 1 : Nat) : Int) → 0 ≤ M 190 12 → Met l yX12_factor (gWsOf yX12_factor cX12_factor 5 (Option.some Jvm.ClassFile.FieldType.boolean)) (RF (d + 1)) (gPc n0 D cA [gA n0 190] M sz) (gQi n0 D cA sz (fun z M1 => (0 ≤ z ∧ z ≤ 1) ∧ gI sz M1 ∧ gC sz M1 ∧ gFr 2475881517416798299143274496 M M1 ∧ ((M 190 12 ≤ M1 190 12 ∧ M1 190 14 = M 190 14) ∧ ((M 190 13 = 1 ∧ M1 190 13 = 1 ∧ M1 190 12 = M 190 12) ∨ (M 190 13 = 0 ∧ gFa (gTx M) (M 190 14) (M 190 12) (M1 190 13) (M1 190 12)))))) 0 0 (fun q => n0 ≤ q)) := fun M I C W hk ho hd hs => s_X12_factorR2 hsz I C W hk ho (d + 1) hd hs (fun d2 h => by cases h; exact ih)
    have h2 : (∀ M : gM, gI sz M → gC sz M → gW 191 M → (M 190 15 = -1 ∨ M 190 15 < M 191 1) → 0 ≤ M 190 14 ∧ M 190 14 ≤ 6 → 6 ≤ M 190 14 + ((d + 1 : Nat) : Int) → 0 ≤ M 190 12 → Met l yX12_every (gWsOf yX12_every cX12_every 3 (Option.some Jvm.ClassFile.FieldType.boolean)) (RE (d + 1)) (gPc n0 D cA [gA n0 190] M sz) (gQi n0 D cA sz (fun z M1 => (0 ≤ z ∧ z ≤ 1) ∧ gI sz M1 ∧ gC sz M1 ∧ gFr 2475881517416798299143274496 M M1 ∧ ((M 190 12 ≤ M1 190 12 ∧ M1 190 14 = M 190 14) ∧ ((M 190 13 = 1 ∧ M1 190 13 = 1 ∧ M1 190 12 = M 190 12) ∨ (M 190 13 = 0 ∧ gLp (gTx M) (M 190 14) (M 190 12) (M1 190 13) (M1 190 12) ∧ (M1 190 13 = 0 → ¬ (gTx M (M1 190 12) = 38))))))) 0 0 (fun q => n0 ≤ q)) := fun M I C W hk ho hd hs => s_X12_everyR2 hsz I C W hk ho (d + 1) hd hs h1
    exact ⟨h1, fun M I C W hk ho hd hs => s_X12_someR2 hsz I C W hk ho (d + 1) hd hs h2⟩
theorem s_X12_some2 {l : Launch} {n0 : Nat} {D : va_G} {cA : Nat → ClassId} {sz : Nat} (hsz : 206 ≤ sz) (M : gM) (I : gI sz M) (C : gC sz M) (W : gW 191 M) (hk : M 190 15 = -1 ∨ M 190 15 < M 191 1) (ho : 0 ≤ M 190 14 ∧ M 190 14 ≤ 6) (hd : 0 ≤ M 190 14 + (0 : Int)) (hs : 0 ≤ M 190 12) : Met l yX12_some (gWsOf yX12_some cX12_some 3 (Option.some Jvm.ClassFile.FieldType.boolean)) R_X12_some (gPc n0 D cA [gA n0 190] M sz) (gQi n0 D cA sz (fun z M1 => (0 ≤ z ∧ z ≤ 1) ∧ gI sz M1 ∧ gC sz M1 ∧ gFr 2475881517416798299143274496 M M1 ∧ ((M 190 12 ≤ M1 190 12 ∧ M1 190 14 = M 190 14) ∧ ((M 190 13 = 1 ∧ M1 190 13 = 1 ∧ M1 190 12 = M 190 12) ∨ (M 190 13 = 0 ∧ gLp (gTx M) (M 190 14) (M 190 12) (M1 190 13) (M1 190 12) ∧ (M1 190 13 = 0 → ¬ (gTx M (M1 190 12) = 38 ∨ gTx M (M1 190 12) = 124))))))) 0 0 (fun q => n0 ≤ q) := (s_X12_parseD2 hsz 6).2 M I C W hk ho (by omega) hs
abbrev R_e_X12_letter : Room := { frames := 1, cells := 0, slots := 0, locals := 20 }
set_option maxRecDepth 100000 in
set_option maxHeartbeats 4000000 in
theorem e_X12_letter {l : Launch} {n0 : Nat} {D : va_G} {cA : Nat → ClassId} {M : gM} (a : Int) (r_a : 0 ≤ a ∧ a ≤ 255) (b : Int) (r_b : 0 ≤ b ∧ b ≤ 255) (c : Int) (r_c : 0 ≤ c ∧ c ≤ 255) {sz : Nat} (hsz : 206 ≤ sz) (I : gI sz M) (C : gC sz M) (hs0 : 0 ≤ M 190 12) (h13 : M 190 13 = 0)  : Met l yX12_letter (gWsOf yX12_letter cX12_letter 5 (Option.some Jvm.ClassFile.FieldType.int)) R_e_X12_letter (gPc n0 D cA [gA n0 190, gJ a, gJ b, gJ c] M sz) (gQi n0 D cA sz (fun z M1 => (0 ≤ z ∧ z ≤ 2) ∧ gI sz M1 ∧ gC sz M1 ∧ gFr 147573952589676412928 M M1 ∧ ((((gTx M (M 190 12) = a ∨ gTx M (M 190 12) = b ∨ gTx M (M 190 12) = c) ∧ M1 190 13 = 0 ∧ M1 190 12 = M 190 12 + 1) ∨ (¬ (gTx M (M 190 12) = a ∨ gTx M (M 190 12) = b ∨ gTx M (M 190 12) = c) ∧ M1 190 13 = 1 ∧ M1 190 12 = M 190 12)) ∧ ((gTx M (M 190 12) = a ∧ z = 0) ∨ (¬ gTx M (M 190 12) = a ∧ gTx M (M 190 12) = b ∧ z = 1) ∨ (¬ gTx M (M 190 12) = a ∧ ¬ gTx M (M 190 12) = b ∧ z = 2))))) 0 0 (fun q => n0 ≤ q) := by
  refine gMetI [gA n0 190, gJ a, gJ b, gJ c] (by decide) (Nat.le_of_ble_eq_true rfl) ⟨rfl, rfl⟩ ?_
  intro p e s m args below meth cd Q X hq
  have X : gCx p s m args meth cd n0 D cA "ParishUnionModel" cX12_letter 5 := X
  show G p l e R_e_X12_letter s m args below meth cd n0 D cA 5 Q 0 0 M sz 0 [(0, gA n0 190), (1, gJ a), (2, gJ b), (3, gJ c)] []
  obtain ⟨v1, hv1, rv1⟩ := gRd I (by decide) (gsz hsz (by decide)) rc_190_12.1
  obtain ⟨v2, hv2, rv2⟩ := gRd I (by decide) (gsz hsz (by decide)) rc_190_13.1
  obtain ⟨v3, hv3, rv3⟩ := gRd I (by decide) (gsz hsz (by decide)) rc_190_11.1
  refine g_aload_n (n := 1) X 0 dX12_letter_0 rfl rfl rfl ?_
  refine g_callVi (n := 4) (As := []) (rest := []) (cs1 := 0) (ss1 := 0) X (s_X12_here2  hsz I C (by have h1 := hv1; omega)) okX12_here kw_7_26 ⟨kw_7_28, kw_0_58⟩ ⟨rfl, rfl⟩ ⟨Nat.le_of_ble_eq_true rfl, Nat.le_of_ble_eq_true rfl⟩ rfl (by decide) (gsz hsz (by decide)) lay_190 rfl rfl (Nat.le_of_ble_eq_true rfl) ⟨Nat.le_of_ble_eq_true rfl, Nat.le_of_ble_eq_true rfl⟩ rfl rfl dX12_letter_1 rfl (fun v4 M5 P6 => ?_)
  obtain ⟨rfl, rv4, xv4⟩ := P6
  refine g_istore (n := 6) (L' := [(4, gJ v4), (0, gA n0 190), (1, gJ a), (2, gJ b), (3, gJ c)]) X dX12_letter_4 (by decide) rfl rfl ?_
  refine g_aload_n (n := 7) X 1 dX12_letter_6 rfl rfl rfl ?_
  refine g_aload_n (n := 8) X 1 dX12_letter_7 rfl rfl rfl ?_
  refine gg_12_13 (n := 11) (z := v2) X (by decide) (gsz hsz (by decide)) lay_190 kw_6_39 dX12_letter_8 rfl hv2 ?_
  refine g_if_ne (n := 14) (tgt := 32) X dX12_letter_11 (by decide) (by omega) rfl (fun c7 => ?_) (fun c7 => ?_)
  · refine g_iconst (n := 33) X dX12_letter_32 rfl ?_
    refine g_goto (tgt := 37) X dX12_letter_33 (by decide) ?_
    refine gp_12_13 (n := 40) X (by decide) (gsz hsz (by decide)) lay_190 kw_6_39 (by omega) dX12_letter_37 rfl ?_
    refine G.nm (fun M8 e9 => ?_)
    have IM8 : gI sz M8 := gI.set I rc_190_13.1 (by omega) e9
    have CM8 : gC sz M8 := gC.set C rc_190_13.2.1 e9
    refine g_aload_n (n := 41) X 1 dX12_letter_40 rfl rfl rfl ?_
    refine g_dup (n := 42) X dX12_letter_41 rfl rfl ?_
    refine gg_12_12 (n := 45) (z := v1) X (by decide) (gsz hsz (by decide)) lay_190 kw_6_38 dX12_letter_42 rfl ((congrFun (congrFun e9 _) _).trans ((gset_ne (by omega)).trans hv1)) ?_
    refine g_aload_n (n := 46) X 1 dX12_letter_45 rfl rfl rfl ?_
    refine gg_12_13 (n := 49) (z := 1) X (by decide) (gsz hsz (by decide)) lay_190 kw_6_39 dX12_letter_46 rfl ((congrFun (congrFun e9 _) _).trans (gset_eq _ _ _ _)) ?_
    refine g_if_eq (n := 52) (tgt := 56) X dX12_letter_49 (by decide) (by omega) rfl (fun c10 => by exfalso; omega) (fun c10 => ?_)
    refine g_iconst (n := 53) X dX12_letter_52 rfl ?_
    refine g_goto (tgt := 57) X dX12_letter_53 (by decide) ?_
    refine g_iadd (n := 58) (z := v1) X dX12_letter_57 (by omega) rfl ?_
    refine gp_12_12 (n := 61) X (by decide) (gsz hsz (by decide)) lay_190 kw_6_38 dX12_letter_58 rfl ?_
    refine G.nm (fun M11 e12 => ?_)
    have IM11 : gI sz M11 := gI.set IM8 rc_190_12.1 (by omega) e12
    have CM11 : gC sz M11 := gC.set CM8 rc_190_12.2.1 e12
    refine g_iload (n := 63) X 0 dX12_letter_61 rfl rfl ?_
    refine g_iload_n (n := 64) X 2 dX12_letter_63 rfl rfl rfl ?_
    refine g_icmp_ne (n := 67) (tgt := 71) X dX12_letter_64 (by decide) (by omega) (by omega) rfl (fun c13 => ?_) (fun c13 => ?_)
    · refine g_iload (n := 73) X 0 dX12_letter_71 rfl rfl ?_
      refine g_iload_n (n := 74) X 3 dX12_letter_73 rfl rfl rfl ?_
      refine g_icmp_ne (n := 77) (tgt := 81) X dX12_letter_74 (by decide) (by omega) (by omega) rfl (fun c14 => ?_) (fun c14 => ?_)
      · refine g_iconst (n := 82) X dX12_letter_81 rfl ?_
        exact hq _ _ _ _ dX12_letter_82 ⟨by omega, IM11, CM11, (gFr.s (gFr.s gFr.rf e9 rc_190_13.2.2 rfl) e12 rc_190_12.2.2 rfl), (by have q0 : M11 190 12 = v1 := ((congrFun (congrFun e12 _) _).trans (gset_eq _ _ _ _)); have q1 : M 190 12 = v1 := hv1; have q2 : M11 190 13 = 1 := ((congrFun (congrFun e12 _) _).trans ((gset_ne (by omega)).trans ((congrFun (congrFun e9 _) _).trans (gset_eq _ _ _ _)))); have q3 : M 190 13 = v2 := hv2; have hh := xv4.1; omega)⟩
      · refine g_iconst (n := 78) X dX12_letter_77 rfl ?_
        refine g_goto (tgt := 82) X dX12_letter_78 (by decide) ?_
        exact hq _ _ _ _ dX12_letter_82 ⟨by omega, IM11, CM11, (gFr.s (gFr.s gFr.rf e9 rc_190_13.2.2 rfl) e12 rc_190_12.2.2 rfl), (by have q0 : M11 190 12 = v1 := ((congrFun (congrFun e12 _) _).trans (gset_eq _ _ _ _)); have q1 : M 190 12 = v1 := hv1; have q2 : M11 190 13 = 1 := ((congrFun (congrFun e12 _) _).trans ((gset_ne (by omega)).trans ((congrFun (congrFun e9 _) _).trans (gset_eq _ _ _ _)))); have q3 : M 190 13 = v2 := hv2; have hh := xv4.1; omega)⟩
    · refine g_iconst (n := 68) X dX12_letter_67 rfl ?_
      refine g_goto (tgt := 82) X dX12_letter_68 (by decide) ?_
      exact hq _ _ _ _ dX12_letter_82 ⟨by omega, IM11, CM11, (gFr.s (gFr.s gFr.rf e9 rc_190_13.2.2 rfl) e12 rc_190_12.2.2 rfl), (by have q0 : M11 190 12 = v1 := ((congrFun (congrFun e12 _) _).trans (gset_eq _ _ _ _)); have q1 : M 190 12 = v1 := hv1; have q2 : M11 190 13 = 1 := ((congrFun (congrFun e12 _) _).trans ((gset_ne (by omega)).trans ((congrFun (congrFun e9 _) _).trans (gset_eq _ _ _ _)))); have q3 : M 190 13 = v2 := hv2; have hh := xv4.1; omega)⟩
  · refine g_iload (n := 16) X 0 dX12_letter_14 rfl rfl ?_
    refine g_iload_n (n := 17) X 2 dX12_letter_16 rfl rfl rfl ?_
    refine g_icmp_eq (n := 20) (tgt := 36) X dX12_letter_17 (by decide) (by omega) (by omega) rfl (fun c15 => ?_) (fun c15 => ?_)
    · refine g_iconst (n := 37) X dX12_letter_36 rfl ?_
      refine gp_12_13 (n := 40) X (by decide) (gsz hsz (by decide)) lay_190 kw_6_39 (by omega) dX12_letter_37 rfl ?_
      refine G.nm (fun M16 e17 => ?_)
      have IM16 : gI sz M16 := gI.set I rc_190_13.1 (by omega) e17
      have CM16 : gC sz M16 := gC.set C rc_190_13.2.1 e17
      refine g_aload_n (n := 41) X 1 dX12_letter_40 rfl rfl rfl ?_
      refine g_dup (n := 42) X dX12_letter_41 rfl rfl ?_
      refine gg_12_12 (n := 45) (z := v1) X (by decide) (gsz hsz (by decide)) lay_190 kw_6_38 dX12_letter_42 rfl ((congrFun (congrFun e17 _) _).trans ((gset_ne (by omega)).trans hv1)) ?_
      refine g_aload_n (n := 46) X 1 dX12_letter_45 rfl rfl rfl ?_
      refine gg_12_13 (n := 49) (z := 0) X (by decide) (gsz hsz (by decide)) lay_190 kw_6_39 dX12_letter_46 rfl ((congrFun (congrFun e17 _) _).trans (gset_eq _ _ _ _)) ?_
      refine g_if_eq (n := 52) (tgt := 56) X dX12_letter_49 (by decide) (by omega) rfl (fun c18 => ?_) (fun c18 => by exfalso; omega)
      refine g_iconst (n := 57) X dX12_letter_56 rfl ?_
      refine g_iadd (n := 58) (z := v1 + 1) X dX12_letter_57 (by omega) rfl ?_
      refine gp_12_12 (n := 61) X (by decide) (gsz hsz (by decide)) lay_190 kw_6_38 dX12_letter_58 rfl ?_
      refine G.nm (fun M19 e20 => ?_)
      have IM19 : gI sz M19 := gI.set IM16 rc_190_12.1 (by omega) e20
      have CM19 : gC sz M19 := gC.set CM16 rc_190_12.2.1 e20
      refine g_iload (n := 63) X 0 dX12_letter_61 rfl rfl ?_
      refine g_iload_n (n := 64) X 2 dX12_letter_63 rfl rfl rfl ?_
      refine g_icmp_ne (n := 67) (tgt := 71) X dX12_letter_64 (by decide) (by omega) (by omega) rfl (fun c21 => ?_) (fun c21 => ?_)
      · refine g_iload (n := 73) X 0 dX12_letter_71 rfl rfl ?_
        refine g_iload_n (n := 74) X 3 dX12_letter_73 rfl rfl rfl ?_
        refine g_icmp_ne (n := 77) (tgt := 81) X dX12_letter_74 (by decide) (by omega) (by omega) rfl (fun c22 => ?_) (fun c22 => ?_)
        · refine g_iconst (n := 82) X dX12_letter_81 rfl ?_
          exact hq _ _ _ _ dX12_letter_82 ⟨by omega, IM19, CM19, (gFr.s (gFr.s gFr.rf e17 rc_190_13.2.2 rfl) e20 rc_190_12.2.2 rfl), (by have q0 : M19 190 12 = v1 + 1 := ((congrFun (congrFun e20 _) _).trans (gset_eq _ _ _ _)); have q1 : M 190 12 = v1 := hv1; have q2 : M19 190 13 = 0 := ((congrFun (congrFun e20 _) _).trans ((gset_ne (by omega)).trans ((congrFun (congrFun e17 _) _).trans (gset_eq _ _ _ _)))); have q3 : M 190 13 = v2 := hv2; have hh := xv4.1; omega)⟩
        · refine g_iconst (n := 78) X dX12_letter_77 rfl ?_
          refine g_goto (tgt := 82) X dX12_letter_78 (by decide) ?_
          exact hq _ _ _ _ dX12_letter_82 ⟨by omega, IM19, CM19, (gFr.s (gFr.s gFr.rf e17 rc_190_13.2.2 rfl) e20 rc_190_12.2.2 rfl), (by have q0 : M19 190 12 = v1 + 1 := ((congrFun (congrFun e20 _) _).trans (gset_eq _ _ _ _)); have q1 : M 190 12 = v1 := hv1; have q2 : M19 190 13 = 0 := ((congrFun (congrFun e20 _) _).trans ((gset_ne (by omega)).trans ((congrFun (congrFun e17 _) _).trans (gset_eq _ _ _ _)))); have q3 : M 190 13 = v2 := hv2; have hh := xv4.1; omega)⟩
      · refine g_iconst (n := 68) X dX12_letter_67 rfl ?_
        refine g_goto (tgt := 82) X dX12_letter_68 (by decide) ?_
        exact hq _ _ _ _ dX12_letter_82 ⟨by omega, IM19, CM19, (gFr.s (gFr.s gFr.rf e17 rc_190_13.2.2 rfl) e20 rc_190_12.2.2 rfl), (by have q0 : M19 190 12 = v1 + 1 := ((congrFun (congrFun e20 _) _).trans (gset_eq _ _ _ _)); have q1 : M 190 12 = v1 := hv1; have q2 : M19 190 13 = 0 := ((congrFun (congrFun e20 _) _).trans ((gset_ne (by omega)).trans ((congrFun (congrFun e17 _) _).trans (gset_eq _ _ _ _)))); have q3 : M 190 13 = v2 := hv2; have hh := xv4.1; omega)⟩
    · refine g_iload (n := 22) X 0 dX12_letter_20 rfl rfl ?_
      refine g_iload_n (n := 23) X 3 dX12_letter_22 rfl rfl rfl ?_
      refine g_icmp_eq (n := 26) (tgt := 36) X dX12_letter_23 (by decide) (by omega) (by omega) rfl (fun c23 => ?_) (fun c23 => ?_)
      · refine g_iconst (n := 37) X dX12_letter_36 rfl ?_
        refine gp_12_13 (n := 40) X (by decide) (gsz hsz (by decide)) lay_190 kw_6_39 (by omega) dX12_letter_37 rfl ?_
        refine G.nm (fun M24 e25 => ?_)
        have IM24 : gI sz M24 := gI.set I rc_190_13.1 (by omega) e25
        have CM24 : gC sz M24 := gC.set C rc_190_13.2.1 e25
        refine g_aload_n (n := 41) X 1 dX12_letter_40 rfl rfl rfl ?_
        refine g_dup (n := 42) X dX12_letter_41 rfl rfl ?_
        refine gg_12_12 (n := 45) (z := v1) X (by decide) (gsz hsz (by decide)) lay_190 kw_6_38 dX12_letter_42 rfl ((congrFun (congrFun e25 _) _).trans ((gset_ne (by omega)).trans hv1)) ?_
        refine g_aload_n (n := 46) X 1 dX12_letter_45 rfl rfl rfl ?_
        refine gg_12_13 (n := 49) (z := 0) X (by decide) (gsz hsz (by decide)) lay_190 kw_6_39 dX12_letter_46 rfl ((congrFun (congrFun e25 _) _).trans (gset_eq _ _ _ _)) ?_
        refine g_if_eq (n := 52) (tgt := 56) X dX12_letter_49 (by decide) (by omega) rfl (fun c26 => ?_) (fun c26 => by exfalso; omega)
        refine g_iconst (n := 57) X dX12_letter_56 rfl ?_
        refine g_iadd (n := 58) (z := v1 + 1) X dX12_letter_57 (by omega) rfl ?_
        refine gp_12_12 (n := 61) X (by decide) (gsz hsz (by decide)) lay_190 kw_6_38 dX12_letter_58 rfl ?_
        refine G.nm (fun M27 e28 => ?_)
        have IM27 : gI sz M27 := gI.set IM24 rc_190_12.1 (by omega) e28
        have CM27 : gC sz M27 := gC.set CM24 rc_190_12.2.1 e28
        refine g_iload (n := 63) X 0 dX12_letter_61 rfl rfl ?_
        refine g_iload_n (n := 64) X 2 dX12_letter_63 rfl rfl rfl ?_
        refine g_icmp_ne (n := 67) (tgt := 71) X dX12_letter_64 (by decide) (by omega) (by omega) rfl (fun c29 => ?_) (fun c29 => ?_)
        · refine g_iload (n := 73) X 0 dX12_letter_71 rfl rfl ?_
          refine g_iload_n (n := 74) X 3 dX12_letter_73 rfl rfl rfl ?_
          refine g_icmp_ne (n := 77) (tgt := 81) X dX12_letter_74 (by decide) (by omega) (by omega) rfl (fun c30 => ?_) (fun c30 => ?_)
          · refine g_iconst (n := 82) X dX12_letter_81 rfl ?_
            exact hq _ _ _ _ dX12_letter_82 ⟨by omega, IM27, CM27, (gFr.s (gFr.s gFr.rf e25 rc_190_13.2.2 rfl) e28 rc_190_12.2.2 rfl), (by have q0 : M27 190 12 = v1 + 1 := ((congrFun (congrFun e28 _) _).trans (gset_eq _ _ _ _)); have q1 : M 190 12 = v1 := hv1; have q2 : M27 190 13 = 0 := ((congrFun (congrFun e28 _) _).trans ((gset_ne (by omega)).trans ((congrFun (congrFun e25 _) _).trans (gset_eq _ _ _ _)))); have q3 : M 190 13 = v2 := hv2; have hh := xv4.1; omega)⟩
          · refine g_iconst (n := 78) X dX12_letter_77 rfl ?_
            refine g_goto (tgt := 82) X dX12_letter_78 (by decide) ?_
            exact hq _ _ _ _ dX12_letter_82 ⟨by omega, IM27, CM27, (gFr.s (gFr.s gFr.rf e25 rc_190_13.2.2 rfl) e28 rc_190_12.2.2 rfl), (by have q0 : M27 190 12 = v1 + 1 := ((congrFun (congrFun e28 _) _).trans (gset_eq _ _ _ _)); have q1 : M 190 12 = v1 := hv1; have q2 : M27 190 13 = 0 := ((congrFun (congrFun e28 _) _).trans ((gset_ne (by omega)).trans ((congrFun (congrFun e25 _) _).trans (gset_eq _ _ _ _)))); have q3 : M 190 13 = v2 := hv2; have hh := xv4.1; omega)⟩
        · refine g_iconst (n := 68) X dX12_letter_67 rfl ?_
          refine g_goto (tgt := 82) X dX12_letter_68 (by decide) ?_
          exact hq _ _ _ _ dX12_letter_82 ⟨by omega, IM27, CM27, (gFr.s (gFr.s gFr.rf e25 rc_190_13.2.2 rfl) e28 rc_190_12.2.2 rfl), (by have q0 : M27 190 12 = v1 + 1 := ((congrFun (congrFun e28 _) _).trans (gset_eq _ _ _ _)); have q1 : M 190 12 = v1 := hv1; have q2 : M27 190 13 = 0 := ((congrFun (congrFun e28 _) _).trans ((gset_ne (by omega)).trans ((congrFun (congrFun e25 _) _).trans (gset_eq _ _ _ _)))); have q3 : M 190 13 = v2 := hv2; have hh := xv4.1; omega)⟩
      · refine g_iload (n := 28) X 0 dX12_letter_26 rfl rfl ?_
        refine g_iload_n (n := 29) X 4 dX12_letter_28 rfl rfl rfl ?_
        refine g_icmp_eq (n := 32) (tgt := 36) X dX12_letter_29 (by decide) (by omega) (by omega) rfl (fun c31 => ?_) (fun c31 => ?_)
        · refine g_iconst (n := 37) X dX12_letter_36 rfl ?_
          refine gp_12_13 (n := 40) X (by decide) (gsz hsz (by decide)) lay_190 kw_6_39 (by omega) dX12_letter_37 rfl ?_
          refine G.nm (fun M32 e33 => ?_)
          have IM32 : gI sz M32 := gI.set I rc_190_13.1 (by omega) e33
          have CM32 : gC sz M32 := gC.set C rc_190_13.2.1 e33
          refine g_aload_n (n := 41) X 1 dX12_letter_40 rfl rfl rfl ?_
          refine g_dup (n := 42) X dX12_letter_41 rfl rfl ?_
          refine gg_12_12 (n := 45) (z := v1) X (by decide) (gsz hsz (by decide)) lay_190 kw_6_38 dX12_letter_42 rfl ((congrFun (congrFun e33 _) _).trans ((gset_ne (by omega)).trans hv1)) ?_
          refine g_aload_n (n := 46) X 1 dX12_letter_45 rfl rfl rfl ?_
          refine gg_12_13 (n := 49) (z := 0) X (by decide) (gsz hsz (by decide)) lay_190 kw_6_39 dX12_letter_46 rfl ((congrFun (congrFun e33 _) _).trans (gset_eq _ _ _ _)) ?_
          refine g_if_eq (n := 52) (tgt := 56) X dX12_letter_49 (by decide) (by omega) rfl (fun c34 => ?_) (fun c34 => by exfalso; omega)
          refine g_iconst (n := 57) X dX12_letter_56 rfl ?_
          refine g_iadd (n := 58) (z := v1 + 1) X dX12_letter_57 (by omega) rfl ?_
          refine gp_12_12 (n := 61) X (by decide) (gsz hsz (by decide)) lay_190 kw_6_38 dX12_letter_58 rfl ?_
          refine G.nm (fun M35 e36 => ?_)
          have IM35 : gI sz M35 := gI.set IM32 rc_190_12.1 (by omega) e36
          have CM35 : gC sz M35 := gC.set CM32 rc_190_12.2.1 e36
          refine g_iload (n := 63) X 0 dX12_letter_61 rfl rfl ?_
          refine g_iload_n (n := 64) X 2 dX12_letter_63 rfl rfl rfl ?_
          refine g_icmp_ne (n := 67) (tgt := 71) X dX12_letter_64 (by decide) (by omega) (by omega) rfl (fun c37 => ?_) (fun c37 => ?_)
          · refine g_iload (n := 73) X 0 dX12_letter_71 rfl rfl ?_
            refine g_iload_n (n := 74) X 3 dX12_letter_73 rfl rfl rfl ?_
            refine g_icmp_ne (n := 77) (tgt := 81) X dX12_letter_74 (by decide) (by omega) (by omega) rfl (fun c38 => ?_) (fun c38 => ?_)
            · refine g_iconst (n := 82) X dX12_letter_81 rfl ?_
              exact hq _ _ _ _ dX12_letter_82 ⟨by omega, IM35, CM35, (gFr.s (gFr.s gFr.rf e33 rc_190_13.2.2 rfl) e36 rc_190_12.2.2 rfl), (by have q0 : M35 190 12 = v1 + 1 := ((congrFun (congrFun e36 _) _).trans (gset_eq _ _ _ _)); have q1 : M 190 12 = v1 := hv1; have q2 : M35 190 13 = 0 := ((congrFun (congrFun e36 _) _).trans ((gset_ne (by omega)).trans ((congrFun (congrFun e33 _) _).trans (gset_eq _ _ _ _)))); have q3 : M 190 13 = v2 := hv2; have hh := xv4.1; omega)⟩
            · refine g_iconst (n := 78) X dX12_letter_77 rfl ?_
              refine g_goto (tgt := 82) X dX12_letter_78 (by decide) ?_
              exact hq _ _ _ _ dX12_letter_82 ⟨by omega, IM35, CM35, (gFr.s (gFr.s gFr.rf e33 rc_190_13.2.2 rfl) e36 rc_190_12.2.2 rfl), (by have q0 : M35 190 12 = v1 + 1 := ((congrFun (congrFun e36 _) _).trans (gset_eq _ _ _ _)); have q1 : M 190 12 = v1 := hv1; have q2 : M35 190 13 = 0 := ((congrFun (congrFun e36 _) _).trans ((gset_ne (by omega)).trans ((congrFun (congrFun e33 _) _).trans (gset_eq _ _ _ _)))); have q3 : M 190 13 = v2 := hv2; have hh := xv4.1; omega)⟩
          · refine g_iconst (n := 68) X dX12_letter_67 rfl ?_
            refine g_goto (tgt := 82) X dX12_letter_68 (by decide) ?_
            exact hq _ _ _ _ dX12_letter_82 ⟨by omega, IM35, CM35, (gFr.s (gFr.s gFr.rf e33 rc_190_13.2.2 rfl) e36 rc_190_12.2.2 rfl), (by have q0 : M35 190 12 = v1 + 1 := ((congrFun (congrFun e36 _) _).trans (gset_eq _ _ _ _)); have q1 : M 190 12 = v1 := hv1; have q2 : M35 190 13 = 0 := ((congrFun (congrFun e36 _) _).trans ((gset_ne (by omega)).trans ((congrFun (congrFun e33 _) _).trans (gset_eq _ _ _ _)))); have q3 : M 190 13 = v2 := hv2; have hh := xv4.1; omega)⟩
        · refine g_iconst (n := 33) X dX12_letter_32 rfl ?_
          refine g_goto (tgt := 37) X dX12_letter_33 (by decide) ?_
          refine gp_12_13 (n := 40) X (by decide) (gsz hsz (by decide)) lay_190 kw_6_39 (by omega) dX12_letter_37 rfl ?_
          refine G.nm (fun M39 e40 => ?_)
          have IM39 : gI sz M39 := gI.set I rc_190_13.1 (by omega) e40
          have CM39 : gC sz M39 := gC.set C rc_190_13.2.1 e40
          refine g_aload_n (n := 41) X 1 dX12_letter_40 rfl rfl rfl ?_
          refine g_dup (n := 42) X dX12_letter_41 rfl rfl ?_
          refine gg_12_12 (n := 45) (z := v1) X (by decide) (gsz hsz (by decide)) lay_190 kw_6_38 dX12_letter_42 rfl ((congrFun (congrFun e40 _) _).trans ((gset_ne (by omega)).trans hv1)) ?_
          refine g_aload_n (n := 46) X 1 dX12_letter_45 rfl rfl rfl ?_
          refine gg_12_13 (n := 49) (z := 1) X (by decide) (gsz hsz (by decide)) lay_190 kw_6_39 dX12_letter_46 rfl ((congrFun (congrFun e40 _) _).trans (gset_eq _ _ _ _)) ?_
          refine g_if_eq (n := 52) (tgt := 56) X dX12_letter_49 (by decide) (by omega) rfl (fun c41 => by exfalso; omega) (fun c41 => ?_)
          refine g_iconst (n := 53) X dX12_letter_52 rfl ?_
          refine g_goto (tgt := 57) X dX12_letter_53 (by decide) ?_
          refine g_iadd (n := 58) (z := v1) X dX12_letter_57 (by omega) rfl ?_
          refine gp_12_12 (n := 61) X (by decide) (gsz hsz (by decide)) lay_190 kw_6_38 dX12_letter_58 rfl ?_
          refine G.nm (fun M42 e43 => ?_)
          have IM42 : gI sz M42 := gI.set IM39 rc_190_12.1 (by omega) e43
          have CM42 : gC sz M42 := gC.set CM39 rc_190_12.2.1 e43
          refine g_iload (n := 63) X 0 dX12_letter_61 rfl rfl ?_
          refine g_iload_n (n := 64) X 2 dX12_letter_63 rfl rfl rfl ?_
          refine g_icmp_ne (n := 67) (tgt := 71) X dX12_letter_64 (by decide) (by omega) (by omega) rfl (fun c44 => ?_) (fun c44 => ?_)
          · refine g_iload (n := 73) X 0 dX12_letter_71 rfl rfl ?_
            refine g_iload_n (n := 74) X 3 dX12_letter_73 rfl rfl rfl ?_
            refine g_icmp_ne (n := 77) (tgt := 81) X dX12_letter_74 (by decide) (by omega) (by omega) rfl (fun c45 => ?_) (fun c45 => ?_)
            · refine g_iconst (n := 82) X dX12_letter_81 rfl ?_
              exact hq _ _ _ _ dX12_letter_82 ⟨by omega, IM42, CM42, (gFr.s (gFr.s gFr.rf e40 rc_190_13.2.2 rfl) e43 rc_190_12.2.2 rfl), (by have q0 : M42 190 12 = v1 := ((congrFun (congrFun e43 _) _).trans (gset_eq _ _ _ _)); have q1 : M 190 12 = v1 := hv1; have q2 : M42 190 13 = 1 := ((congrFun (congrFun e43 _) _).trans ((gset_ne (by omega)).trans ((congrFun (congrFun e40 _) _).trans (gset_eq _ _ _ _)))); have q3 : M 190 13 = v2 := hv2; have hh := xv4.1; omega)⟩
            · refine g_iconst (n := 78) X dX12_letter_77 rfl ?_
              refine g_goto (tgt := 82) X dX12_letter_78 (by decide) ?_
              exact hq _ _ _ _ dX12_letter_82 ⟨by omega, IM42, CM42, (gFr.s (gFr.s gFr.rf e40 rc_190_13.2.2 rfl) e43 rc_190_12.2.2 rfl), (by have q0 : M42 190 12 = v1 := ((congrFun (congrFun e43 _) _).trans (gset_eq _ _ _ _)); have q1 : M 190 12 = v1 := hv1; have q2 : M42 190 13 = 1 := ((congrFun (congrFun e43 _) _).trans ((gset_ne (by omega)).trans ((congrFun (congrFun e40 _) _).trans (gset_eq _ _ _ _)))); have q3 : M 190 13 = v2 := hv2; have hh := xv4.1; omega)⟩
          · refine g_iconst (n := 68) X dX12_letter_67 rfl ?_
            refine g_goto (tgt := 82) X dX12_letter_68 (by decide) ?_
            exact hq _ _ _ _ dX12_letter_82 ⟨by omega, IM42, CM42, (gFr.s (gFr.s gFr.rf e40 rc_190_13.2.2 rfl) e43 rc_190_12.2.2 rfl), (by have q0 : M42 190 12 = v1 := ((congrFun (congrFun e43 _) _).trans (gset_eq _ _ _ _)); have q1 : M 190 12 = v1 := hv1; have q2 : M42 190 13 = 1 := ((congrFun (congrFun e43 _) _).trans ((gset_ne (by omega)).trans ((congrFun (congrFun e40 _) _).trans (gset_eq _ _ _ _)))); have q3 : M 190 13 = v2 := hv2; have hh := xv4.1; omega)⟩
abbrev R_e_X12_oneWord : Room := { frames := 4, cells := 0, slots := 0, locals := 85 }
set_option maxRecDepth 100000 in
set_option maxHeartbeats 4000000 in
theorem e_X12_oneWord {l : Launch} {n0 : Nat} {D : va_G} {cA : Nat → ClassId} {M : gM}  {sz : Nat} (hsz : 206 ≤ sz) (I : gI sz M) (C : gC sz M) (hs0 : 0 ≤ M 190 12) (h13 : M 190 13 = 0)  : Met l yX12_oneWord (gWsOf yX12_oneWord cX12_oneWord 5 (Option.some Jvm.ClassFile.FieldType.int)) R_e_X12_oneWord (gPc n0 D cA [gA n0 190] M sz) (gQi n0 D cA sz (fun z M1 => (0 ≤ z ∧ z ≤ 9) ∧ gI sz M1 ∧ gC sz M1 ∧ gFr 147573952589676412928 M M1 ∧ (((M1 190 13 = 0 ∧ (0 ≤ z ∧ z ≤ 9) ∧ gWrd (gTx M) (M 190 12) = (z, M1 190 12)) ∨ (M1 190 13 = 1 ∧ gWrd (gTx M) (M 190 12) = (-1, M1 190 12))) ∧ M 190 12 ≤ M1 190 12))) 0 0 (fun q => n0 ≤ q) := by
  refine gMetI [gA n0 190] (by decide) (Nat.le_of_ble_eq_true rfl) ⟨rfl, rfl⟩ ?_
  intro p e s m args below meth cd Q X hq
  have X : gCx p s m args meth cd n0 D cA "ParishUnionModel" cX12_oneWord 5 := X
  show G p l e R_e_X12_oneWord s m args below meth cd n0 D cA 5 Q 0 0 M sz 0 [(0, gA n0 190)] []
  obtain ⟨v1, hv1, rv1⟩ := gRd I (by decide) (gsz hsz (by decide)) rc_190_12.1
  obtain ⟨v2, hv2, rv2⟩ := gRd I (by decide) (gsz hsz (by decide)) rc_190_13.1
  obtain ⟨v3, hv3, rv3⟩ := gRd I (by decide) (gsz hsz (by decide)) rc_190_11.1
  refine g_sipush (n := 3) X dX12_oneWord_0 (by decide +kernel) rfl ?_
  refine g_istore_n (n := 4) (L' := [(1, gJ 1023), (0, gA n0 190)]) X dX12_oneWord_3 rfl (by decide) rfl rfl ?_
  refine g_iconst (n := 5) X dX12_oneWord_4 rfl ?_
  refine g_istore_n (n := 6) (L' := [(2, gJ 0), (1, gJ 1023), (0, gA n0 190)]) X dX12_oneWord_5 rfl (by decide) rfl rfl ?_
  have j7 : ∀ (N121 : Nat) (v4 v5 : Int) (M6 : gM) , (0 ≤ v4 ∧ v4 ≤ 1023) → (0 ≤ v5 ∧ v5 ≤ 6) → gI sz M6 → gC sz M6 → gFr 147573952589676412928 M M6 → (gOh (gTx M) v1 v5 v4) → (M6 190 12 = v1 + v5) → (M6 190 13 = 0) → (7 - v5).toNat < N121 → G p l e R_e_X12_oneWord s m args below meth cd n0 D cA 5 Q 0 0 M6 sz 6 [(0, gA n0 190), (1, gJ v4), (2, gJ v5)] [] := by
    intro N121; induction N121 with
    | zero => intro v4 v5 M6 rv4 rv5 IM6 CM6 FM6 hH hS hQ hm123; exfalso; omega
    | succ N121 ih122 =>
      intro v4 v5 M6 rv4 rv5 IM6 CM6 FM6 hH hS hQ hm123
      have nH := hH.n
      refine g_iconst (n := 7) X dX12_oneWord_6 rfl ?_
      refine g_istore_n (n := 8) (L' := [(3, gJ 0), (0, gA n0 190), (1, gJ v4), (2, gJ v5)]) X dX12_oneWord_7 rfl (by decide) rfl rfl ?_
      refine g_iconst (n := 9) X dX12_oneWord_8 rfl ?_
      refine g_istore (n := 11) (L' := [(4, gJ 0), (3, gJ 0), (0, gA n0 190), (1, gJ v4), (2, gJ v5)]) X dX12_oneWord_9 (by decide) rfl rfl ?_
      have j127 : ∀ (N181 : Nat) (v124 v125 : Int) , (0 ≤ v124 ∧ v124 ≤ 1023) → (0 ≤ v125 ∧ v125 ≤ 10) → (gOl (gTx M) v1 v5 v125 v124) → (v124 = 0 ∨ v1 + v5 ≤ 149) → (10 - v125).toNat < N181 → G p l e R_e_X12_oneWord s m args below meth cd n0 D cA 5 Q 0 0 M6 sz 11 [(0, gA n0 190), (1, gJ v4), (2, gJ v5), (3, gJ v124), (4, gJ v125)] [] := by
        intro N181; induction N181 with
        | zero => intro v124 v125 rv124 rv125 hL hw hm183; exfalso; omega
        | succ N181 ih182 =>
          intro v124 v125 rv124 rv125 hL hw hm183
          refine g_iload (n := 13) X 4 dX12_oneWord_11 rfl rfl ?_
          refine g_bipush (n := 15) X dX12_oneWord_13 (by decide +kernel) rfl ?_
          refine g_icmp_ge (n := 18) (tgt := 73) X dX12_oneWord_15 (by decide) (by omega) (by omega) rfl (fun c184 => ?_) (fun c184 => ?_)
          · refine g_iload_n (n := 74) X 3 dX12_oneWord_73 rfl rfl rfl ?_
            refine g_if_ne (n := 77) (tgt := 84) X dX12_oneWord_74 (by decide) (by omega) rfl (fun c185 => ?_) (fun c185 => ?_)
            · refine g_iload_n (n := 85) X 3 dX12_oneWord_84 rfl rfl rfl ?_
              refine g_istore_n (n := 86) (L' := [(1, gJ v124), (0, gA n0 190), (2, gJ v5), (3, gJ v124), (4, gJ v125)]) X dX12_oneWord_85 rfl (by decide) rfl rfl ?_
              refine g_aload_n (n := 87) X 1 dX12_oneWord_86 rfl rfl rfl ?_
              refine g_dup (n := 88) X dX12_oneWord_87 rfl rfl ?_
              refine gg_12_12 (n := 91) (z := v1 + v5) X (by decide) (gsz hsz (by decide)) lay_190 kw_6_38 dX12_oneWord_88 rfl hS ?_
              refine g_iconst (n := 92) X dX12_oneWord_91 rfl ?_
              refine g_iadd (n := 93) (z := (v1 + v5) + 1) X dX12_oneWord_92 rfl rfl ?_
              refine gp_12_12 (n := 96) X (by decide) (gsz hsz (by decide)) lay_190 kw_6_38 dX12_oneWord_93 rfl ?_
              refine G.nm (fun M186 e187 => ?_)
              have IM186 : gI sz M186 := gI.set IM6 rc_190_12.1 (by omega) e187
              have CM186 : gC sz M186 := gC.set CM6 rc_190_12.2.1 e187
              refine g_iinc (n := 99) (w := v5 + 1) (L' := [(2, gJ (v5 + 1)), (1, gJ v124), (0, gA n0 190), (3, gJ v124), (4, gJ v125)]) X 2 dX12_oneWord_96 rfl rfl (by decide) rfl rfl ?_
              refine g_iconst (n := 100) X dX12_oneWord_99 rfl ?_
              refine g_istore (n := 102) (L' := [(4, gJ 0), (2, gJ (v5 + 1)), (1, gJ v124), (0, gA n0 190), (3, gJ v124)]) X dX12_oneWord_100 (by decide) rfl rfl ?_
              have j190 : ∀ (N201 : Nat) (v188 : Int) , (0 ≤ v188 ∧ v188 ≤ 10) → (gOn (v5 + 1) v124 v188) → (10 - v188).toNat < N201 → G p l e R_e_X12_oneWord s m args below meth cd n0 D cA 5 Q 0 0 M186 sz 102 [(0, gA n0 190), (1, gJ v124), (2, gJ (v5 + 1)), (4, gJ v188)] [] := by
                intro N201; induction N201 with
                | zero => intro v188 rv188 hN hm203; exfalso; omega
                | succ N201 ih202 =>
                  intro v188 rv188 hN hm203
                  refine g_iload (n := 104) X 3 dX12_oneWord_102 rfl rfl ?_
                  refine g_bipush (n := 106) X dX12_oneWord_104 (by decide +kernel) rfl ?_
                  refine g_icmp_ge (n := 109) (tgt := 138) X dX12_oneWord_106 (by decide) (by omega) (by omega) rfl (fun c204 => ?_) (fun c204 => ?_)
                  · refine g_goto (tgt := 6) X dX12_oneWord_138 (by decide) ?_
                    refine G.sub (L' := [(0, gA n0 190), (1, gJ v124), (2, gJ (v5 + 1))]) [0, 1, 2] rfl ?_
                    exact ih122 v124 (v5 + 1) M186 (by omega) (by omega) IM186 CM186 (gFr.s (gFr.c gFr.rf FM6 rfl) e187 rc_190_12.2.2 rfl) (gOh_next hL (by omega : 10 ≤ v125) (by omega : ¬ v124 = 0) hN (by omega : 10 ≤ v188) (by omega)) (by have q0 : M186 190 12 = (v1 + v5) + 1 := ((congrFun (congrFun e187 _) _).trans (gset_eq _ _ _ _)); have q1 : M 190 12 = v1 := hv1; have q2 : M186 190 13 = 0 := ((congrFun (congrFun e187 _) _).trans ((gset_ne (by omega)).trans hQ)); have q3 : M 190 13 = v2 := hv2; omega) (by have h1 := ((congrFun (congrFun e187 _) _).trans ((gset_ne (by omega)).trans hQ)); omega) (by omega)
                  · refine g_iload_n (n := 110) X 1 dX12_oneWord_109 rfl rfl rfl ?_
                    refine g_iconst (n := 111) X dX12_oneWord_110 rfl ?_
                    refine g_iload (n := 113) X 3 dX12_oneWord_111 rfl rfl ?_
                    refine g_ishlE (n := 114) (z := gTw v188) X dX12_oneWord_113 (gi_tw (by omega)) rfl ?_
                    have rtw := gTw_r (k := v188) (by omega)
                    refine g_icmp_ne (n := 117) (tgt := 132) X dX12_oneWord_114 (by decide) (by omega) (by omega) rfl (fun c205 => ?_) (fun c205 => ?_)
                    · refine g_iinc (n := 135) (w := v188 + 1) (L' := [(4, gJ (v188 + 1)), (0, gA n0 190), (1, gJ v124), (2, gJ (v5 + 1))]) X 3 dX12_oneWord_132 rfl rfl (by decide) rfl rfl ?_
                      refine g_goto (tgt := 102) X dX12_oneWord_135 (by decide) ?_
                      refine G.sub (L' := [(0, gA n0 190), (1, gJ v124), (2, gJ (v5 + 1)), (4, gJ (v188 + 1))]) [1, 2, 3, 0] rfl ?_
                      exact ih202 (v188 + 1) (by omega) (hN.step (fun g => by first | (have g1 := g.1; omega) | (have g2 := g.2; omega)) (by omega)) (by omega)
                    · refine g_iload (n := 119) X 3 dX12_oneWord_117 rfl rfl ?_
                      refine g_callSs (n := 122) (As := [gJ v188]) (rest := []) (cs1 := 0) (ss1 := 0) X (c_X12_word v188 (by omega) (by omega)) okX12_word kw_7_11 kw_7_12 ⟨rfl, rfl⟩ ⟨Nat.le_of_ble_eq_true rfl, Nat.le_of_ble_eq_true rfl⟩ rfl rfl (Nat.le_of_ble_eq_true rfl) ⟨Nat.le_of_ble_eq_true rfl, Nat.le_of_ble_eq_true rfl⟩ rfl rfl dX12_oneWord_119 rfl (fun v206 M207 P208 => ?_)
                      obtain ⟨rfl, xv206⟩ := P208
                      have lv206 : gSL v206 = gWn v188 := by rw [show v206 = v188 + 16 by omega]; exact gSLm (by omega)
                      have wv206 := gWn_r (k := v188) (by omega)
                      obtain ⟨q209, hq209⟩ := gSO_at (z := v206) (by omega)
                      refine g_callSt (n := 125) (As := []) (rest := []) (cs1 := 0) (ss1 := 0) X (v206).toNat hq209 (s_J_len v206 (by omega)) okJ_len kw_7_24 ⟨kw_3_236, kw_3_237⟩ ⟨rfl, rfl⟩ ⟨Nat.le_of_ble_eq_true rfl, Nat.le_of_ble_eq_true rfl⟩ rfl rfl (Nat.le_of_ble_eq_true rfl) ⟨Nat.le_of_ble_eq_true rfl, Nat.le_of_ble_eq_true rfl⟩ rfl rfl dX12_oneWord_122 rfl (fun v210 M211 P212 => ?_)
                      obtain ⟨rfl, rv210, xv210⟩ := P212
                      have bv210 := gSL_m (z := v206) (by omega)
                      refine g_iload_n (n := 126) X 2 dX12_oneWord_125 rfl rfl rfl ?_
                      refine g_icmp_ne (n := 129) (tgt := 132) X dX12_oneWord_126 (by decide) (by omega) (by omega) rfl (fun c213 => ?_) (fun c213 => ?_)
                      · refine g_iinc (n := 135) (w := v188 + 1) (L' := [(4, gJ (v188 + 1)), (0, gA n0 190), (1, gJ v124), (2, gJ (v5 + 1))]) X 3 dX12_oneWord_132 rfl rfl (by decide) rfl rfl ?_
                        refine g_goto (tgt := 102) X dX12_oneWord_135 (by decide) ?_
                        refine G.sub (L' := [(0, gA n0 190), (1, gJ v124), (2, gJ (v5 + 1)), (4, gJ (v188 + 1))]) [1, 2, 3, 0] rfl ?_
                        exact ih202 (v188 + 1) (by omega) (hN.step (fun g => by first | (have g1 := g.1; omega) | (have g2 := g.2; omega)) (by omega)) (by omega)
                      · refine g_iload (n := 131) X 3 dX12_oneWord_129 rfl rfl ?_
                        exact hq _ _ _ _ dX12_oneWord_131 ⟨by omega, IM186, CM186, (gFr.s (gFr.c gFr.rf FM6 rfl) e187 rc_190_12.2.2 rfl), ⟨(by have q0 : M186 190 12 = (v1 + v5) + 1 := ((congrFun (congrFun e187 _) _).trans (gset_eq _ _ _ _)); have q1 : M 190 12 = v1 := hv1; have q2 : M186 190 13 = 0 := ((congrFun (congrFun e187 _) _).trans ((gset_ne (by omega)).trans hQ)); have q3 : M 190 13 = v2 := hv2; rw [hv1]; exact Or.inl ⟨by omega, by omega, gOw_ok (hL.om (by omega : 10 ≤ v125) rfl) (by omega) (by omega) (by omega) (by omega)⟩), (by have q0 : M186 190 12 = (v1 + v5) + 1 := ((congrFun (congrFun e187 _) _).trans (gset_eq _ _ _ _)); have q1 : M 190 12 = v1 := hv1; have q2 : M186 190 13 = 0 := ((congrFun (congrFun e187 _) _).trans ((gset_ne (by omega)).trans hQ)); have q3 : M 190 13 = v2 := hv2; omega)⟩⟩
              refine G.sub (L' := [(0, gA n0 190), (1, gJ v124), (2, gJ (v5 + 1)), (4, gJ 0)]) [3, 2, 1, 0] rfl ?_
              exact j190 _ 0 (by omega) gOn_0 (Nat.lt_succ_self _)
            · refine g_aload_n (n := 78) X 0 dX12_oneWord_77 rfl rfl rfl ?_
              refine g_iconst (n := 79) X dX12_oneWord_78 rfl ?_
              refine gp_12_13 (n := 82) X (by decide) (gsz hsz (by decide)) lay_190 kw_6_39 (by omega) dX12_oneWord_79 rfl ?_
              refine G.nm (fun M214 e215 => ?_)
              have IM214 : gI sz M214 := gI.set IM6 rc_190_13.1 (by omega) e215
              have CM214 : gC sz M214 := gC.set CM6 rc_190_13.2.1 e215
              refine g_iconst (n := 83) X dX12_oneWord_82 rfl ?_
              exact hq _ _ _ _ dX12_oneWord_83 ⟨by omega, IM214, CM214, (gFr.s (gFr.c gFr.rf FM6 rfl) e215 rc_190_13.2.2 rfl), ⟨(by have q0 : M214 190 12 = v1 + v5 := ((congrFun (congrFun e215 _) _).trans ((gset_ne (by omega)).trans hS)); have q1 : M 190 12 = v1 := hv1; have q2 : M214 190 13 = 1 := ((congrFun (congrFun e215 _) _).trans (gset_eq _ _ _ _)); have q3 : M 190 13 = v2 := hv2; rw [hv1]; exact Or.inr ⟨by omega, gOh.bad hH (by omega) hL (by omega : 10 ≤ v125) (by omega) (by omega)⟩), (by have q0 : M214 190 12 = v1 + v5 := ((congrFun (congrFun e215 _) _).trans ((gset_ne (by omega)).trans hS)); have q1 : M 190 12 = v1 := hv1; have q2 : M214 190 13 = 1 := ((congrFun (congrFun e215 _) _).trans (gset_eq _ _ _ _)); have q3 : M 190 13 = v2 := hv2; omega)⟩⟩
          · refine g_iload_n (n := 19) X 3 dX12_oneWord_18 rfl rfl rfl ?_
            refine g_iload_n (n := 20) X 1 dX12_oneWord_19 rfl rfl rfl ?_
            refine g_iload (n := 22) X 4 dX12_oneWord_20 rfl rfl ?_
            refine g_ishrA (n := 23) X dX12_oneWord_22 rfl (fun v216 rv216 xv216 => ?_)
            refine g_iconst (n := 24) X dX12_oneWord_23 rfl ?_
            refine g_iandE (n := 25) (z := gBv v4 v125) X dX12_oneWord_24 (gi_bit (by omega) (by omega) xv216) rfl ?_
            have rbv := gBv_r v4 v125
            refine g_iconst (n := 26) X dX12_oneWord_25 rfl ?_
            refine g_icmp_ne (n := 29) (tgt := 64) X dX12_oneWord_26 (by decide) (by omega) (by omega) rfl (fun c217 => ?_) (fun c217 => ?_)
            · refine g_iconst (n := 65) X dX12_oneWord_64 rfl ?_
              refine g_iorE (n := 66) (z := v124) X dX12_oneWord_65 (gi_or0 _) rfl ?_
              refine g_istore_n (n := 67) (L' := [(3, gJ v124), (0, gA n0 190), (1, gJ v4), (2, gJ v5), (4, gJ v125)]) X dX12_oneWord_66 rfl (by decide) rfl rfl ?_
              refine g_iinc (n := 70) (w := v125 + 1) (L' := [(4, gJ (v125 + 1)), (3, gJ v124), (0, gA n0 190), (1, gJ v4), (2, gJ v5)]) X 4 dX12_oneWord_67 rfl rfl (by decide) rfl rfl ?_
              refine g_goto (tgt := 11) X dX12_oneWord_70 (by decide) ?_
              refine G.sub (L' := [(0, gA n0 190), (1, gJ v4), (2, gJ v5), (3, gJ v124), (4, gJ (v125 + 1))]) [2, 3, 4, 1, 0] rfl ?_
              exact ih182 v124 (v125 + 1) (by omega) (by omega) (hL.no (fun g0 => by have g := (gPx_step (T := gTx M) (p := v1) (k := v125) (n := v5) (by omega) (by omega)).mp g0; first | (have g1 := (hH.1.2 v125 (by omega) (by omega)).mpr g.1; omega)) (by omega) rfl) (by omega) (by omega)
            · refine g_iload_n (n := 30) X 2 dX12_oneWord_29 rfl rfl rfl ?_
              refine g_iload (n := 32) X 4 dX12_oneWord_30 rfl rfl ?_
              refine g_callSs (n := 35) (As := [gJ v125]) (rest := [gJ v5, gJ v124]) (cs1 := 0) (ss1 := 0) X (c_X12_word v125 (by omega) (by omega)) okX12_word kw_7_11 kw_7_12 ⟨rfl, rfl⟩ ⟨Nat.le_of_ble_eq_true rfl, Nat.le_of_ble_eq_true rfl⟩ rfl rfl (Nat.le_of_ble_eq_true rfl) ⟨Nat.le_of_ble_eq_true rfl, Nat.le_of_ble_eq_true rfl⟩ rfl rfl dX12_oneWord_32 rfl (fun v218 M219 P220 => ?_)
              obtain ⟨rfl, xv218⟩ := P220
              have lv218 : gSL v218 = gWn v125 := by rw [show v218 = v125 + 16 by omega]; exact gSLm (by omega)
              have wv218 := gWn_r (k := v125) (by omega)
              obtain ⟨q221, hq221⟩ := gSO_at (z := v218) (by omega)
              refine g_callSt (n := 38) (As := []) (rest := [gJ v5, gJ v124]) (cs1 := 0) (ss1 := 0) X (v218).toNat hq221 (s_J_len v218 (by omega)) okJ_len kw_7_24 ⟨kw_3_236, kw_3_237⟩ ⟨rfl, rfl⟩ ⟨Nat.le_of_ble_eq_true rfl, Nat.le_of_ble_eq_true rfl⟩ rfl rfl (Nat.le_of_ble_eq_true rfl) ⟨Nat.le_of_ble_eq_true rfl, Nat.le_of_ble_eq_true rfl⟩ rfl rfl dX12_oneWord_35 rfl (fun v222 M223 P224 => ?_)
              obtain ⟨rfl, rv222, xv222⟩ := P224
              have bv222 := gSL_m (z := v218) (by omega)
              refine g_icmp_ge (n := 41) (tgt := 64) X dX12_oneWord_38 (by decide) (by omega) (by omega) rfl (fun c225 => ?_) (fun c225 => ?_)
              · refine g_iconst (n := 65) X dX12_oneWord_64 rfl ?_
                refine g_iorE (n := 66) (z := v124) X dX12_oneWord_65 (gi_or0 _) rfl ?_
                refine g_istore_n (n := 67) (L' := [(3, gJ v124), (0, gA n0 190), (1, gJ v4), (2, gJ v5), (4, gJ v125)]) X dX12_oneWord_66 rfl (by decide) rfl rfl ?_
                refine g_iinc (n := 70) (w := v125 + 1) (L' := [(4, gJ (v125 + 1)), (3, gJ v124), (0, gA n0 190), (1, gJ v4), (2, gJ v5)]) X 4 dX12_oneWord_67 rfl rfl (by decide) rfl rfl ?_
                refine g_goto (tgt := 11) X dX12_oneWord_70 (by decide) ?_
                refine G.sub (L' := [(0, gA n0 190), (1, gJ v4), (2, gJ v5), (3, gJ v124), (4, gJ (v125 + 1))]) [2, 3, 4, 1, 0] rfl ?_
                exact ih182 v124 (v125 + 1) (by omega) (by omega) (hL.no (fun g0 => by have g := (gPx_step (T := gTx M) (p := v1) (k := v125) (n := v5) (by omega) (by omega)).mp g0; first | (have g1 := (hH.1.2 v125 (by omega) (by omega)).mpr g.1; omega) | (have g1 := g.2.1; omega)) (by omega) rfl) (by omega) (by omega)
              · refine g_iload (n := 43) X 4 dX12_oneWord_41 rfl rfl ?_
                refine g_callSs (n := 46) (As := [gJ v125]) (rest := [gJ v124]) (cs1 := 0) (ss1 := 0) X (c_X12_word v125 (by omega) (by omega)) okX12_word kw_7_11 kw_7_12 ⟨rfl, rfl⟩ ⟨Nat.le_of_ble_eq_true rfl, Nat.le_of_ble_eq_true rfl⟩ rfl rfl (Nat.le_of_ble_eq_true rfl) ⟨Nat.le_of_ble_eq_true rfl, Nat.le_of_ble_eq_true rfl⟩ rfl rfl dX12_oneWord_43 rfl (fun v226 M227 P228 => ?_)
                obtain ⟨rfl, xv226⟩ := P228
                have yv226 : gSL v226 = gSL v218 := by rw [show v226 = v218 by omega]
                have lv226 : gSL v226 = gWn v125 := by rw [show v226 = v125 + 16 by omega]; exact gSLm (by omega)
                have wv226 := gWn_r (k := v125) (by omega)
                refine g_iload_n (n := 47) X 2 dX12_oneWord_46 rfl rfl rfl ?_
                obtain ⟨q229, hq229⟩ := gSO_at (z := v226) (by omega)
                refine g_callSt (n := 50) (As := [gJ v5]) (rest := [gJ v124]) (cs1 := 0) (ss1 := 0) X (v226).toNat hq229 (s_J_chr v226 (by omega) v5 (by omega) (by omega)) okJ_chr kw_7_25 ⟨kw_4_6, kw_4_7⟩ ⟨rfl, rfl⟩ ⟨Nat.le_of_ble_eq_true rfl, Nat.le_of_ble_eq_true rfl⟩ rfl rfl (Nat.le_of_ble_eq_true rfl) ⟨Nat.le_of_ble_eq_true rfl, Nat.le_of_ble_eq_true rfl⟩ rfl rfl dX12_oneWord_47 rfl (fun v230 M231 P232 => ?_)
                obtain ⟨rfl, rv230, xv230⟩ := P232
                refine g_aload_n (n := 51) X 0 dX12_oneWord_50 rfl rfl rfl ?_
                have tM6_12 : M6 190 12 = v1 + v5 := hS
                have tM6_13 : M6 190 13 = 0 := hQ
                refine g_callVi (n := 54) (As := []) (rest := [gJ v230, gJ v124]) (cs1 := 0) (ss1 := 0) X (s_X12_here2  hsz IM6 CM6 (by have h1 := hS; omega)) okX12_here kw_7_26 ⟨kw_7_28, kw_0_58⟩ ⟨rfl, rfl⟩ ⟨Nat.le_of_ble_eq_true rfl, Nat.le_of_ble_eq_true rfl⟩ rfl (by decide) (gsz hsz (by decide)) lay_190 rfl rfl (Nat.le_of_ble_eq_true rfl) ⟨Nat.le_of_ble_eq_true rfl, Nat.le_of_ble_eq_true rfl⟩ rfl rfl dX12_oneWord_51 rfl (fun v233 M234 P235 => ?_)
                obtain ⟨rfl, rv233, xv233⟩ := P235
                refine g_icmp_ne (n := 57) (tgt := 64) X dX12_oneWord_54 (by decide) (by omega) (by omega) rfl (fun c236 => ?_) (fun c236 => ?_)
                · refine g_iconst (n := 65) X dX12_oneWord_64 rfl ?_
                  refine g_iorE (n := 66) (z := v124) X dX12_oneWord_65 (gi_or0 _) rfl ?_
                  refine g_istore_n (n := 67) (L' := [(3, gJ v124), (0, gA n0 190), (1, gJ v4), (2, gJ v5), (4, gJ v125)]) X dX12_oneWord_66 rfl (by decide) rfl rfl ?_
                  refine g_iinc (n := 70) (w := v125 + 1) (L' := [(4, gJ (v125 + 1)), (3, gJ v124), (0, gA n0 190), (1, gJ v4), (2, gJ v5)]) X 4 dX12_oneWord_67 rfl rfl (by decide) rfl rfl ?_
                  refine g_goto (tgt := 11) X dX12_oneWord_70 (by decide) ?_
                  refine G.sub (L' := [(0, gA n0 190), (1, gJ v4), (2, gJ v5), (3, gJ v124), (4, gJ (v125 + 1))]) [2, 3, 4, 1, 0] rfl ?_
                  exact ih182 v124 (v125 + 1) (by omega) (by omega) (hL.no (fun g0 => by have g := (gPx_step (T := gTx M) (p := v1) (k := v125) (n := v5) (by omega) (by omega)).mp g0; first | (have g1 := (hH.1.2 v125 (by omega) (by omega)).mpr g.1; omega) | (have g1 := g.2.1; omega) | (have hm := gSCm (k := v125) (j := v5) (by omega) (by omega); have xc := xv230; rw [show v226 = v125 + 16 by omega] at xc; have tq := xv233.1; rw [show gTx M6 = gTx M from (gTx.fr hsz I ((gFr.c gFr.rf FM6 rfl) : gFr 147573952589676412928 M M6) rfl), show M6 190 12 = v1 + v5 from hS] at tq; have g1 := g.2.2; omega)) (by omega) rfl) (by omega) (by omega)
                · refine g_iconst (n := 58) X dX12_oneWord_57 rfl ?_
                  refine g_iload (n := 60) X 4 dX12_oneWord_58 rfl rfl ?_
                  refine g_ishlE (n := 61) (z := gTw v125) X dX12_oneWord_60 (gi_tw (by omega)) rfl ?_
                  have rtw := gTw_r (k := v125) (by omega)
                  refine g_goto (tgt := 65) X dX12_oneWord_61 (by decide) ?_
                  refine g_iorE (n := 66) (z := gOr v124 v125) X dX12_oneWord_65 (gi_gor (by omega) (by omega)) rfl ?_
                  have ror := gOr_r (f := v124) (k := v125) (by omega) (by omega)
                  refine g_istore_n (n := 67) (L' := [(3, gJ (gOr v124 v125)), (0, gA n0 190), (1, gJ v4), (2, gJ v5), (4, gJ v125)]) X dX12_oneWord_66 rfl (by decide) rfl rfl ?_
                  refine g_iinc (n := 70) (w := v125 + 1) (L' := [(4, gJ (v125 + 1)), (3, gJ (gOr v124 v125)), (0, gA n0 190), (1, gJ v4), (2, gJ v5)]) X 4 dX12_oneWord_67 rfl rfl (by decide) rfl rfl ?_
                  refine g_goto (tgt := 11) X dX12_oneWord_70 (by decide) ?_
                  refine G.sub (L' := [(0, gA n0 190), (1, gJ v4), (2, gJ v5), (3, gJ (gOr v124 v125)), (4, gJ (v125 + 1))]) [2, 3, 4, 1, 0] rfl ?_
                  exact ih182 (gOr v124 v125) (v125 + 1) (by omega) (by omega) (by have hm := gSCm (k := v125) (j := v5) (by omega) (by omega); have xc := xv230; rw [show v226 = v125 + 16 by omega] at xc; have tq := xv233.1; rw [show gTx M6 = gTx M from (gTx.fr hsz I ((gFr.c gFr.rf FM6 rfl) : gFr 147573952589676412928 M M6) rfl), show M6 190 12 = v1 + v5 from hS] at tq; exact hL.yes (by omega) ((gPx_step (T := gTx M) (p := v1) (k := v125) (n := v5) (by omega) (by omega)).mpr ⟨(hH.1.2 v125 (by omega) (by omega)).mp (by omega), by omega, by omega⟩) (by omega)) (by have q2 := xv233.2; have q3 := hS; have q4 := xv233.1; omega) (by omega)
      refine G.sub (L' := [(0, gA n0 190), (1, gJ v4), (2, gJ v5), (3, gJ 0), (4, gJ 0)]) [2, 3, 4, 1, 0] rfl ?_
      exact j127 _ 0 0 (by omega) (by omega) gOl_0 (Or.inl rfl) (Nat.lt_succ_self _)
  refine G.sub (L' := [(0, gA n0 190), (1, gJ 1023), (2, gJ 0)]) [2, 1, 0] rfl ?_
  exact j7 _ 1023 0 M (by omega) (by omega) I C gFr.rf gOh_0 (by have q0 : M 190 12 = v1 := hv1; have q1 : M 190 12 = v1 := hv1; have q2 : M 190 13 = v2 := hv2; have q3 : M 190 13 = v2 := hv2; omega) (by have h1 := hv2; omega) (Nat.lt_succ_self _)
abbrev R_e_X12_reads : Room := { frames := 131, cells := 0, slots := 0, locals := 5582 }
set_option maxRecDepth 100000 in
set_option maxHeartbeats 4000000 in
theorem e_X12_reads {l : Launch} {n0 : Nat} {D : va_G} {cA : Nat → ClassId} {M : gM} (a : Int) (r_a : 0 ≤ a ∧ a ≤ 10) {sz : Nat} (hsz : 206 ≤ sz) (I : gI sz M) (C : gC sz M) (W : gW 191 M) (hk : M 190 15 = -1 ∨ M 190 15 < M 191 1) (h14 : M 190 14 = 0) (h13 : M 190 13 = 0) (hs0 : 0 ≤ M 190 12) (h11 : M 190 11 = a) (hl : M 191 (a + 24700) ≤ 7)  : Met l yX12_reads (gWsOf yX12_reads cX12_reads 5 (Option.none : Option Jvm.ClassFile.FieldType)) R_e_X12_reads (gPc n0 D cA [gA n0 190, gJ a] M sz) (gQv n0 D cA sz (fun M1 => gI sz M1 ∧ gC sz M1 ∧ gFr 2475881517421301898770644992 M M1 ∧ ((M 190 12 ≤ M1 190 12 ∧ M1 190 14 = M 190 14 ∧ M1 191 (a + 668) = M 191 (a + 668)) ∧ gTx M1 = gTx M ∧ ((M1 190 13 = 1 ∧ (gCl (gTx M) (M 190 12)).2.2.2 = -1 - M1 190 12) ∨ (M1 190 13 = 0 ∧ 0 ≤ (gCl (gTx M) (M 190 12)).2.2.2 ∧ (gCl (gTx M) (M 190 12)).2.2.2 = M1 190 12 ∧ M1 191 (a + 24700) = M 191 (a + 24700) + 1 ∧ 0 ≤ (gCl (gTx M) (M 190 12)).2.1 ∧ M1 191 (8 * a + M 191 (a + 24700) + 24720) = (gCl (gTx M) (M 190 12)).1 ∧ M1 191 (8 * a + M 191 (a + 24700) + 24810) = (gCl (gTx M) (M 190 12)).2.1)) ∧ ((∀ k : Int, 24720 ≤ k → k < 24900 → ¬ k = 8 * a + M 191 (a + 24700) + 24720 → ¬ k = 8 * a + M 191 (a + 24700) + 24810 → M1 191 k = M 191 k) ∧ (∀ k : Int, 656 ≤ k → k < 668 → M1 191 k = M 191 k) ∧ (∀ k : Int, 24700 ≤ k → k < 24720 → ¬ k = a + 24700 → M1 191 k = M 191 k))))) 0 0 (fun q => n0 ≤ q) := by
  refine gMetV [gA n0 190, gJ a] (by decide) (Nat.le_of_ble_eq_true rfl) ⟨rfl, rfl⟩ ?_
  intro p e s m args below meth cd Q X hq
  have X : gCx p s m args meth cd n0 D cA "ParishUnionModel" cX12_reads 5 := X
  show G p l e R_e_X12_reads s m args below meth cd n0 D cA 5 Q 0 0 M sz 0 [(0, gA n0 190), (1, gJ a)] []
  obtain ⟨v1, hv1, rv1⟩ := gRd I (by decide) (gsz hsz (by decide)) rc_190_12.1
  obtain ⟨v2, hv2, rv2⟩ := gRd I (by decide) (gsz hsz (by decide)) rc_190_13.1
  obtain ⟨v3, hv3, rv3⟩ := gRd I (by decide) (gsz hsz (by decide)) rc_190_14.1
  obtain ⟨v4, hv4, rv4⟩ := gRd I (by decide) (gsz hsz (by decide)) rc_190_15.1
  obtain ⟨v5, hv5, rv5⟩ := gRd I (by decide) (gsz hsz (by decide)) (rs_PERS (k := 1) (by omega)).1
  obtain ⟨v6, hv6, rv6⟩ := gRd I (by decide) (gsz hsz (by decide)) (rs_LCOUNT (k := a + 24700) (by omega)).1
  obtain ⟨v7, hv7, rv7⟩ := gRd I (by decide) (gsz hsz (by decide)) (rs_ALONG (k := a + 668) (by omega)).1
  refine g_bipush (n := 2) X dX12_reads_0 (by decide +kernel) rfl ?_
  refine g_iload_n (n := 3) X 1 dX12_reads_2 rfl rfl rfl ?_
  refine g_imul (n := 4) (z := 8 * a) X dX12_reads_3 rfl rfl ?_
  refine g_aload_n (n := 5) X 0 dX12_reads_4 rfl rfl rfl ?_
  refine gg_12_1 (n := 8) (z := 191) X (by decide) (gsz hsz (by decide)) lay_190 kw_6_27 dX12_reads_5 rfl (rf_190_1 I (gsz hsz (by decide))) (by decide) ?_
  refine g_sipush (n := 11) X dX12_reads_8 (by decide +kernel) rfl ?_
  refine g_iload_n (n := 12) X 1 dX12_reads_11 rfl rfl rfl ?_
  refine g_iadd (n := 13) (z := a + 24700) X dX12_reads_12 (by omega) rfl ?_
  refine g_iald2 (n := 14) (v := v6) X (by decide) (gsz hsz (by decide)) lay_191 (by omega) (by omega) (by decide) dX12_reads_13 rfl hv6 ?_
  refine g_iadd (n := 15) (z := (8 * a) + v6) X dX12_reads_14 rfl rfl ?_
  refine g_istore_n (n := 16) (L' := [(2, gJ ((8 * a) + v6)), (0, gA n0 190), (1, gJ a)]) X dX12_reads_15 rfl (by decide) rfl rfl ?_
  refine g_aload_n (n := 17) X 1 dX12_reads_16 rfl rfl rfl ?_
  refine g_callVi (n := 20) (As := []) (rest := []) (cs1 := 0) (ss1 := 0) X (e_X12_oneWord  hsz I C (by have h1 := hv1; omega) (by have h1 := hv2; omega)) okX12_oneWord kw_7_7 ⟨kw_7_9, kw_0_57⟩ ⟨rfl, rfl⟩ ⟨Nat.le_of_ble_eq_true rfl, Nat.le_of_ble_eq_true rfl⟩ rfl (by decide) (gsz hsz (by decide)) lay_190 rfl rfl (Nat.le_of_ble_eq_true rfl) ⟨Nat.le_of_ble_eq_true rfl, Nat.le_of_ble_eq_true rfl⟩ rfl rfl dX12_reads_17 rfl (fun v8 M9 P10 => ?_)
  obtain ⟨rv8, IM9, CM9, FM9, xM9⟩ := P10
  obtain ⟨v11, hv11, rv11⟩ := gRd IM9 (by decide) (gsz hsz (by decide)) rc_190_12.1
  obtain ⟨v12, hv12, rv12⟩ := gRd IM9 (by decide) (gsz hsz (by decide)) rc_190_13.1
  have owM9 := xM9
  rw [show gTx M = gTx M from (rfl : gTx M = gTx M)] at owM9
  try rw [show M 190 12 = v1 from hv1] at owM9
  try rw [show M 190 13 = v2 from hv2] at owM9
  try rw [show M9 190 12 = v11 from hv11] at owM9
  try rw [show M9 190 13 = v12 from hv12] at owM9
  refine g_istore_n (n := 21) (L' := [(3, gJ v8), (2, gJ ((8 * a) + v6)), (0, gA n0 190), (1, gJ a)]) X dX12_reads_20 rfl (by decide) rfl rfl ?_
  refine g_aload_n (n := 22) X 2 dX12_reads_21 rfl rfl rfl ?_
  refine gg_12_1 (n := 25) (z := 191) X (by decide) (gsz hsz (by decide)) lay_190 kw_6_27 dX12_reads_22 rfl (rf_190_1 IM9 (gsz hsz (by decide))) (by decide) ?_
  refine g_sipush (n := 28) X dX12_reads_25 (by decide +kernel) rfl ?_
  refine g_iload_n (n := 29) X 1 dX12_reads_28 rfl rfl rfl ?_
  refine g_iadd (n := 30) (z := 24720 + ((8 * a) + v6)) X dX12_reads_29 rfl rfl ?_
  refine g_iload_n (n := 31) X 0 dX12_reads_30 rfl rfl rfl ?_
  refine g_iast (n := 32) X (by decide) (gsz hsz (by decide)) lay_191 (by omega) (by omega) (by decide) dX12_reads_31 rfl ?_
  refine G.nm (fun M13 e14 => ?_)
  have IM13 : gI sz M13 := gI.set IM9 (rs_LWORD (k := 24720 + ((8 * a) + v6)) (by omega)).1 (by omega) e14
  have CM13 : gC sz M13 := gC.set CM9 (rs_LWORD (k := 24720 + ((8 * a) + v6)) (by omega)).2.1 e14
  refine g_aload_n (n := 33) X 2 dX12_reads_32 rfl rfl rfl ?_
  refine gg_12_1 (n := 36) (z := 191) X (by decide) (gsz hsz (by decide)) lay_190 kw_6_27 dX12_reads_33 rfl (rf_190_1 IM13 (gsz hsz (by decide))) (by decide) ?_
  refine g_sipush (n := 39) X dX12_reads_36 (by decide +kernel) rfl ?_
  refine g_iload_n (n := 40) X 1 dX12_reads_39 rfl rfl rfl ?_
  refine g_iadd (n := 41) (z := 24900 + ((8 * a) + v6)) X dX12_reads_40 rfl rfl ?_
  refine g_iconst (n := 42) X dX12_reads_41 rfl ?_
  refine g_iast (n := 43) X (by decide) (gsz hsz (by decide)) lay_191 (by omega) (by omega) (by decide) dX12_reads_42 rfl ?_
  refine G.nm (fun M15 e16 => ?_)
  have IM15 : gI sz M15 := gI.set IM13 (rs_LSPOT (k := 24900 + ((8 * a) + v6)) (by omega)).1 (by omega) e16
  have CM15 : gC sz M15 := gC.set CM13 (rs_LSPOT (k := 24900 + ((8 * a) + v6)) (by omega)).2.1 e16
  refine g_aload_n (n := 44) X 2 dX12_reads_43 rfl rfl rfl ?_
  refine gg_12_13 (n := 47) (z := v12) X (by decide) (gsz hsz (by decide)) lay_190 kw_6_39 dX12_reads_44 rfl ((congrFun (congrFun e16 _) _).trans ((gset_ne (by omega)).trans ((congrFun (congrFun e14 _) _).trans ((gset_ne (by omega)).trans hv12)))) ?_
  refine g_if_eq (n := 50) (tgt := 51) X dX12_reads_47 (by decide) (by omega) rfl (fun c17 => ?_) (fun c17 => ?_)
  · refine g_iload_n (n := 52) X 0 dX12_reads_51 rfl rfl rfl ?_
    refine g_iconst (n := 53) X dX12_reads_52 rfl ?_
    refine g_icmp_eq (n := 56) (tgt := 62) X dX12_reads_53 (by decide) (by omega) (by omega) rfl (fun c18 => ?_) (fun c18 => ?_)
    · refine g_aload_n (n := 63) X 2 dX12_reads_62 rfl rfl rfl ?_
      refine gg_12_1 (n := 66) (z := 191) X (by decide) (gsz hsz (by decide)) lay_190 kw_6_27 dX12_reads_63 rfl (rf_190_1 IM15 (gsz hsz (by decide))) (by decide) ?_
      refine g_sipush (n := 69) X dX12_reads_66 (by decide +kernel) rfl ?_
      refine g_iload_n (n := 70) X 1 dX12_reads_69 rfl rfl rfl ?_
      refine g_iadd (n := 71) (z := 24810 + ((8 * a) + v6)) X dX12_reads_70 rfl rfl ?_
      refine g_aload_n (n := 72) X 2 dX12_reads_71 rfl rfl rfl ?_
      refine g_bipush (n := 74) X dX12_reads_72 (by decide +kernel) rfl ?_
      refine g_bipush (n := 76) X dX12_reads_74 (by decide +kernel) rfl ?_
      refine g_bipush (n := 78) X dX12_reads_76 (by decide +kernel) rfl ?_
      have tM15_12 : M15 190 12 = v11 := ((congrFun (congrFun e16 _) _).trans ((gset_ne (by omega)).trans ((congrFun (congrFun e14 _) _).trans ((gset_ne (by omega)).trans hv11))))
      have tM15_13 : M15 190 13 = v12 := ((congrFun (congrFun e16 _) _).trans ((gset_ne (by omega)).trans ((congrFun (congrFun e14 _) _).trans ((gset_ne (by omega)).trans hv12))))
      refine g_callVi (n := 81) (As := [gJ 110, gJ 121, gJ 121]) (rest := [gJ (24810 + ((8 * a) + v6)), gA n0 191]) (cs1 := 0) (ss1 := 0) X (e_X12_letter 110 (by omega) 121 (by omega) 121 (by omega) hsz IM15 CM15 (by have h1 := ((congrFun (congrFun e16 _) _).trans ((gset_ne (by omega)).trans ((congrFun (congrFun e14 _) _).trans ((gset_ne (by omega)).trans hv11)))); omega) (by have h1 := ((congrFun (congrFun e16 _) _).trans ((gset_ne (by omega)).trans ((congrFun (congrFun e14 _) _).trans ((gset_ne (by omega)).trans hv12)))); omega)) okX12_letter kw_7_30 ⟨kw_7_32, kw_0_59⟩ ⟨rfl, rfl⟩ ⟨Nat.le_of_ble_eq_true rfl, Nat.le_of_ble_eq_true rfl⟩ rfl (by decide) (gsz hsz (by decide)) lay_190 rfl rfl (Nat.le_of_ble_eq_true rfl) ⟨Nat.le_of_ble_eq_true rfl, Nat.le_of_ble_eq_true rfl⟩ rfl rfl dX12_reads_78 rfl (fun v19 M20 P21 => ?_)
      obtain ⟨rv19, IM20, CM20, FM20, xM20⟩ := P21
      have leM20 := xM20
      rw [show gTx M15 = gTx M from ((gTx.set hsz IM13 e16 (by omega)).trans ((gTx.set hsz IM9 e14 (by omega)).trans ((gTx.fr hsz I ((gFr.c gFr.rf FM9 rfl) : gFr 147573952589676412928 M M9) rfl).trans (rfl : gTx M = gTx M))))] at leM20
      try rw [show M15 190 12 = v11 from ((congrFun (congrFun e16 _) _).trans ((gset_ne (by omega)).trans ((congrFun (congrFun e14 _) _).trans ((gset_ne (by omega)).trans hv11))))] at leM20
      try rw [show M15 190 13 = v12 from ((congrFun (congrFun e16 _) _).trans ((gset_ne (by omega)).trans ((congrFun (congrFun e14 _) _).trans ((gset_ne (by omega)).trans hv12))))] at leM20
      obtain ⟨v22, hv22, rv22⟩ := gRd IM20 (by decide) (gsz hsz (by decide)) rc_190_12.1
      try rw [show M20 190 12 = v22 from hv22] at leM20
      obtain ⟨v23, hv23, rv23⟩ := gRd IM20 (by decide) (gsz hsz (by decide)) rc_190_13.1
      try rw [show M20 190 13 = v23 from hv23] at leM20
      refine g_iast (n := 82) X (by decide) (gsz hsz (by decide)) lay_191 (by omega) (by omega) (by decide) dX12_reads_81 rfl ?_
      refine G.nm (fun M24 e25 => ?_)
      have IM24 : gI sz M24 := gI.set IM20 (rs_LVALUE (k := 24810 + ((8 * a) + v6)) (by omega)).1 (by omega) e25
      have CM24 : gC sz M24 := gC.set CM20 (rs_LVALUE (k := 24810 + ((8 * a) + v6)) (by omega)).2.1 e25
      refine g_goto (tgt := 201) X dX12_reads_82 (by decide) ?_
      refine g_iload_n (n := 202) X 0 dX12_reads_201 rfl rfl rfl ?_
      refine g_bipush (n := 204) X dX12_reads_202 (by decide +kernel) rfl ?_
      refine g_icmp_eq (n := 207) (tgt := 213) X dX12_reads_204 (by decide) (by omega) (by omega) rfl (fun c26 => by exfalso; omega) (fun c26 => ?_)
      refine g_iload_n (n := 208) X 0 dX12_reads_207 rfl rfl rfl ?_
      refine g_bipush (n := 210) X dX12_reads_208 (by decide +kernel) rfl ?_
      refine g_icmp_ne (n := 213) (tgt := 239) X dX12_reads_210 (by decide) (by omega) (by omega) rfl (fun c27 => ?_) (fun c27 => by exfalso; omega)
      refine g_aload_n (n := 240) X 2 dX12_reads_239 rfl rfl rfl ?_
      refine gg_12_1 (n := 243) (z := 191) X (by decide) (gsz hsz (by decide)) lay_190 kw_6_27 dX12_reads_240 rfl (rf_190_1 IM24 (gsz hsz (by decide))) (by decide) ?_
      refine g_sipush (n := 246) X dX12_reads_243 (by decide +kernel) rfl ?_
      refine g_iload_n (n := 247) X 3 dX12_reads_246 rfl rfl rfl ?_
      refine g_iadd (n := 248) (z := a + 24700) X dX12_reads_247 (by omega) rfl ?_
      refine g_dup2 (n := 249) X dX12_reads_248 rfl rfl rfl ?_
      refine g_iald2 (n := 250) (v := v6) X (by decide) (gsz hsz (by decide)) lay_191 (by omega) (by omega) (by decide) dX12_reads_249 rfl ((congrFun (congrFun e25 _) _).trans ((gset_ne (by omega)).trans ((gFr.at FM20 (rs_LCOUNT (k := a + 24700) (by omega)).2.2 rfl).trans ((congrFun (congrFun e16 _) _).trans ((gset_ne (by omega)).trans ((congrFun (congrFun e14 _) _).trans ((gset_ne (by omega)).trans ((gFr.at FM9 (rs_LCOUNT (k := a + 24700) (by omega)).2.2 rfl).trans hv6)))))))) ?_
      refine g_iconst (n := 251) X dX12_reads_250 rfl ?_
      refine g_iadd (n := 252) (z := v6 + 1) X dX12_reads_251 (by omega) rfl ?_
      refine g_iast (n := 253) X (by decide) (gsz hsz (by decide)) lay_191 (by omega) (by omega) (by decide) dX12_reads_252 rfl ?_
      refine G.nm (fun M28 e29 => ?_)
      have IM28 : gI sz M28 := gI.set IM24 (rs_LCOUNT (k := a + 24700) (by omega)).1 (by omega) e29
      have CM28 : gC sz M28 := gC.set CM24 (rs_LCOUNT (k := a + 24700) (by omega)).2.1 e29
      exact hq _ _ _ dX12_reads_253 ⟨IM28, CM28, (gFr.s (gFr.s (gFr.c (gFr.s (gFr.s (gFr.c gFr.rf FM9 rfl) e14 (rs_LWORD (k := 24720 + ((8 * a) + v6)) (by omega)).2.2 rfl) e16 (rs_LSPOT (k := 24900 + ((8 * a) + v6)) (by omega)).2.2 rfl) FM20 rfl) e25 (rs_LVALUE (k := 24810 + ((8 * a) + v6)) (by omega)).2.2 rfl) e29 (rs_LCOUNT (k := a + 24700) (by omega)).2.2 rfl), ⟨(by have zb12 : M 190 12 = v1 := hv1; have ze12 : M28 190 12 = v22 := ((congrFun (congrFun e29 _) _).trans ((gset_ne (by omega)).trans ((congrFun (congrFun e25 _) _).trans ((gset_ne (by omega)).trans hv22)))); have ze13 : M28 190 13 = v23 := ((congrFun (congrFun e29 _) _).trans ((gset_ne (by omega)).trans ((congrFun (congrFun e25 _) _).trans ((gset_ne (by omega)).trans hv23)))); have ze14 : M28 190 14 = v3 := ((congrFun (congrFun e29 _) _).trans ((gset_ne (by omega)).trans ((congrFun (congrFun e25 _) _).trans ((gset_ne (by omega)).trans ((gFr.at FM20 rc_190_14.2.2 rfl).trans ((congrFun (congrFun e16 _) _).trans ((gset_ne (by omega)).trans ((congrFun (congrFun e14 _) _).trans ((gset_ne (by omega)).trans ((gFr.at FM9 rc_190_14.2.2 rfl).trans hv3)))))))))); have zb14 : M 190 14 = v3 := hv3; have zeL : M28 191 (a + 24700) = v6 + 1 := ((congrFun (congrFun e29 _) _).trans (gset_eq _ _ _ _)); have zbL : M 191 (a + 24700) = v6 := hv6; have zbA : M 191 (a + 668) = v7 := hv7; have zeA : M28 191 (a + 668) = v7 := ((congrFun (congrFun e29 _) _).trans ((gset_ne (by omega)).trans ((congrFun (congrFun e25 _) _).trans ((gset_ne (by omega)).trans ((gFr.at FM20 (rs_ALONG (k := a + 668) (by omega)).2.2 rfl).trans ((congrFun (congrFun e16 _) _).trans ((gset_ne (by omega)).trans ((congrFun (congrFun e14 _) _).trans ((gset_ne (by omega)).trans ((gFr.at FM9 (rs_ALONG (k := a + 668) (by omega)).2.2 rfl).trans hv7)))))))))); have zbL9 : M 191 (a + 24700) = v6 := hv6; omega), ((gTx.set hsz IM24 e29 (by omega)).trans ((gTx.set hsz IM20 e25 (by omega)).trans ((gTx.fr hsz IM15 ((gFr.c gFr.rf FM20 rfl) : gFr 147573952589676412928 M15 M20) rfl).trans ((gTx.set hsz IM13 e16 (by omega)).trans ((gTx.set hsz IM9 e14 (by omega)).trans ((gTx.fr hsz I ((gFr.c gFr.rf FM9 rfl) : gFr 147573952589676412928 M M9) rfl).trans (rfl : gTx M = gTx M))))))), (by have zb12 : M 190 12 = v1 := hv1; have ze12 : M28 190 12 = v22 := ((congrFun (congrFun e29 _) _).trans ((gset_ne (by omega)).trans ((congrFun (congrFun e25 _) _).trans ((gset_ne (by omega)).trans hv22)))); have ze13 : M28 190 13 = v23 := ((congrFun (congrFun e29 _) _).trans ((gset_ne (by omega)).trans ((congrFun (congrFun e25 _) _).trans ((gset_ne (by omega)).trans hv23)))); have ze14 : M28 190 14 = v3 := ((congrFun (congrFun e29 _) _).trans ((gset_ne (by omega)).trans ((congrFun (congrFun e25 _) _).trans ((gset_ne (by omega)).trans ((gFr.at FM20 rc_190_14.2.2 rfl).trans ((congrFun (congrFun e16 _) _).trans ((gset_ne (by omega)).trans ((congrFun (congrFun e14 _) _).trans ((gset_ne (by omega)).trans ((gFr.at FM9 rc_190_14.2.2 rfl).trans hv3)))))))))); have zb14 : M 190 14 = v3 := hv3; have zeL : M28 191 (a + 24700) = v6 + 1 := ((congrFun (congrFun e29 _) _).trans (gset_eq _ _ _ _)); have zbL : M 191 (a + 24700) = v6 := hv6; have zbA : M 191 (a + 668) = v7 := hv7; have zeA : M28 191 (a + 668) = v7 := ((congrFun (congrFun e29 _) _).trans ((gset_ne (by omega)).trans ((congrFun (congrFun e25 _) _).trans ((gset_ne (by omega)).trans ((gFr.at FM20 (rs_ALONG (k := a + 668) (by omega)).2.2 rfl).trans ((congrFun (congrFun e16 _) _).trans ((gset_ne (by omega)).trans ((congrFun (congrFun e14 _) _).trans ((gset_ne (by omega)).trans ((gFr.at FM9 (rs_ALONG (k := a + 668) (by omega)).2.2 rfl).trans hv7)))))))))); have zbL9 : M 191 (a + 24700) = v6 := hv6; rcases owM9.1 with ⟨w1, w2, w3⟩ | ⟨w1, w3⟩; (have vv2 := gCl_of w3 w2.1; have lx := leM20.1; rcases lx with ⟨l1, l2, l3⟩ | ⟨l1, l2, l3⟩ <;> (first | (have vv3 := gVal_5n (T := gTx M) (w := v8) (p := v11) (by omega) (by omega) (by omega); exact Or.inl ⟨by omega, by rw [zb12, vv2, gClW_v vv3]; omega⟩) | (have vv3 := gVal_5 (T := gTx M) (w := v8) (p := v11) (v := v19) (by omega) (by omega); have vv4 := gClW_1 vv3 (by omega) (by omega); exact Or.inr ⟨by omega, by rw [zb12, vv2, vv4]; show 0 ≤ v11 + 1; omega, by rw [zb12, vv2, vv4]; show v11 + 1 = M28 190 12; omega, by omega, by rw [zb12, vv2, vv4]; show 0 ≤ v19; first | omega | exact vn9, by rw [zbL9, show 8 * a + v6 + 24720 = 24720 + ((8 * a) + v6) by omega, show M28 191 (24720 + ((8 * a) + v6)) = v8 from ((congrFun (congrFun e29 _) _).trans ((gset_ne (by omega)).trans ((congrFun (congrFun e25 _) _).trans ((gset_ne (by omega)).trans ((gFr.at FM20 (rs_LWORD (k := 24720 + ((8 * a) + v6)) (by omega)).2.2 rfl).trans ((congrFun (congrFun e16 _) _).trans ((gset_ne (by omega)).trans ((congrFun (congrFun e14 _) _).trans (gset_eq _ _ _ _))))))))), zb12, vv2, vv4], by rw [zbL9, show 8 * a + v6 + 24810 = 24810 + ((8 * a) + v6) by omega, show M28 191 (24810 + ((8 * a) + v6)) = v19 from ((congrFun (congrFun e29 _) _).trans ((gset_ne (by omega)).trans ((congrFun (congrFun e25 _) _).trans (gset_eq _ _ _ _)))), zb12, vv2, vv4]⟩) | (exfalso; omega))); (exfalso; omega)), ⟨(fun k k0 k1 k2 k3 => by have zbL : M 191 (a + 24700) = v6 := hv6; exact (((congrFun (congrFun e29 _) _).trans (gset_ne (by omega))).trans (((congrFun (congrFun e25 _) _).trans (gset_ne (by omega))).trans ((gFr.at FM20 (gG_ac (k := k) (by omega)) rfl).trans (((congrFun (congrFun e16 _) _).trans (gset_ne (by omega))).trans (((congrFun (congrFun e14 _) _).trans (gset_ne (by omega))).trans ((gFr.at FM9 (gG_ac (k := k) (by omega)) rfl).trans rfl))))))), (fun k k0 k1 => by have zbL : M 191 (a + 24700) = v6 := hv6; exact (((congrFun (congrFun e29 _) _).trans (gset_ne (by omega))).trans (((congrFun (congrFun e25 _) _).trans (gset_ne (by omega))).trans ((gFr.at FM20 (rs_AWEEK (k := k) (by omega)).2.2 rfl).trans (((congrFun (congrFun e16 _) _).trans (gset_ne (by omega))).trans (((congrFun (congrFun e14 _) _).trans (gset_ne (by omega))).trans ((gFr.at FM9 (rs_AWEEK (k := k) (by omega)).2.2 rfl).trans rfl))))))), (fun k k0 k1 k2 => by have zbL : M 191 (a + 24700) = v6 := hv6; exact (((congrFun (congrFun e29 _) _).trans (gset_ne (by omega))).trans (((congrFun (congrFun e25 _) _).trans (gset_ne (by omega))).trans ((gFr.at FM20 (gG_ac (k := k) (by omega)) rfl).trans (((congrFun (congrFun e16 _) _).trans (gset_ne (by omega))).trans (((congrFun (congrFun e14 _) _).trans (gset_ne (by omega))).trans ((gFr.at FM9 (gG_ac (k := k) (by omega)) rfl).trans rfl)))))))⟩⟩⟩
    · refine g_iload_n (n := 57) X 0 dX12_reads_56 rfl rfl rfl ?_
      refine g_bipush (n := 59) X dX12_reads_57 (by decide +kernel) rfl ?_
      refine g_icmp_ne (n := 62) (tgt := 85) X dX12_reads_59 (by decide) (by omega) (by omega) rfl (fun c30 => ?_) (fun c30 => ?_)
      · refine g_iload_n (n := 86) X 0 dX12_reads_85 rfl rfl rfl ?_
        refine g_bipush (n := 88) X dX12_reads_86 (by decide +kernel) rfl ?_
        refine g_icmp_ne (n := 91) (tgt := 114) X dX12_reads_88 (by decide) (by omega) (by omega) rfl (fun c31 => ?_) (fun c31 => ?_)
        · refine g_iload_n (n := 115) X 0 dX12_reads_114 rfl rfl rfl ?_
          refine g_bipush (n := 117) X dX12_reads_115 (by decide +kernel) rfl ?_
          refine g_icmp_ne (n := 120) (tgt := 186) X dX12_reads_117 (by decide) (by omega) (by omega) rfl (fun c32 => ?_) (fun c32 => ?_)
          · refine g_aload_n (n := 187) X 2 dX12_reads_186 rfl rfl rfl ?_
            refine gg_12_1 (n := 190) (z := 191) X (by decide) (gsz hsz (by decide)) lay_190 kw_6_27 dX12_reads_187 rfl (rf_190_1 IM15 (gsz hsz (by decide))) (by decide) ?_
            refine g_sipush (n := 193) X dX12_reads_190 (by decide +kernel) rfl ?_
            refine g_iload_n (n := 194) X 1 dX12_reads_193 rfl rfl rfl ?_
            refine g_iadd (n := 195) (z := 24810 + ((8 * a) + v6)) X dX12_reads_194 rfl rfl ?_
            refine g_aload_n (n := 196) X 2 dX12_reads_195 rfl rfl rfl ?_
            refine g_iconst (n := 197) X dX12_reads_196 rfl ?_
            have tM15_12 : M15 190 12 = v11 := ((congrFun (congrFun e16 _) _).trans ((gset_ne (by omega)).trans ((congrFun (congrFun e14 _) _).trans ((gset_ne (by omega)).trans hv11))))
            have tM15_13 : M15 190 13 = v12 := ((congrFun (congrFun e16 _) _).trans ((gset_ne (by omega)).trans ((congrFun (congrFun e14 _) _).trans ((gset_ne (by omega)).trans hv12))))
            refine g_callVi (n := 200) (As := [gJ 4]) (rest := [gJ (24810 + ((8 * a) + v6)), gA n0 191]) (cs1 := 0) (ss1 := 0) X (s_X12_number2 4 (by omega) hsz IM15 CM15 (by have h1 := ((congrFun (congrFun e16 _) _).trans ((gset_ne (by omega)).trans ((congrFun (congrFun e14 _) _).trans ((gset_ne (by omega)).trans hv11)))); omega)) okX12_number kw_7_34 ⟨kw_7_36, kw_0_60⟩ ⟨rfl, rfl⟩ ⟨Nat.le_of_ble_eq_true rfl, Nat.le_of_ble_eq_true rfl⟩ rfl (by decide) (gsz hsz (by decide)) lay_190 rfl rfl (Nat.le_of_ble_eq_true rfl) ⟨Nat.le_of_ble_eq_true rfl, Nat.le_of_ble_eq_true rfl⟩ rfl rfl dX12_reads_197 rfl (fun v33 M34 P35 => ?_)
            obtain ⟨rv33, IM34, CM34, FM34, xM34⟩ := P35
            have nuM34 := xM34
            rw [show gTx M15 = gTx M from ((gTx.set hsz IM13 e16 (by omega)).trans ((gTx.set hsz IM9 e14 (by omega)).trans ((gTx.fr hsz I ((gFr.c gFr.rf FM9 rfl) : gFr 147573952589676412928 M M9) rfl).trans (rfl : gTx M = gTx M))))] at nuM34
            try rw [show M15 190 12 = v11 from ((congrFun (congrFun e16 _) _).trans ((gset_ne (by omega)).trans ((congrFun (congrFun e14 _) _).trans ((gset_ne (by omega)).trans hv11))))] at nuM34
            try rw [show M15 190 13 = v12 from ((congrFun (congrFun e16 _) _).trans ((gset_ne (by omega)).trans ((congrFun (congrFun e14 _) _).trans ((gset_ne (by omega)).trans hv12))))] at nuM34
            obtain ⟨v36, hv36, rv36⟩ := gRd IM34 (by decide) (gsz hsz (by decide)) rc_190_12.1
            try rw [show M34 190 12 = v36 from hv36] at nuM34
            obtain ⟨v37, hv37, rv37⟩ := gRd IM34 (by decide) (gsz hsz (by decide)) rc_190_13.1
            try rw [show M34 190 13 = v37 from hv37] at nuM34
            refine g_iast (n := 201) X (by decide) (gsz hsz (by decide)) lay_191 (by omega) (by omega) (by decide) dX12_reads_200 rfl ?_
            refine G.nm (fun M38 e39 => ?_)
            have IM38 : gI sz M38 := gI.set IM34 (rs_LVALUE (k := 24810 + ((8 * a) + v6)) (by omega)).1 (by omega) e39
            have CM38 : gC sz M38 := gC.set CM34 (rs_LVALUE (k := 24810 + ((8 * a) + v6)) (by omega)).2.1 e39
            refine g_iload_n (n := 202) X 0 dX12_reads_201 rfl rfl rfl ?_
            refine g_bipush (n := 204) X dX12_reads_202 (by decide +kernel) rfl ?_
            refine g_icmp_eq (n := 207) (tgt := 213) X dX12_reads_204 (by decide) (by omega) (by omega) rfl (fun c40 => ?_) (fun c40 => ?_)
            · refine g_aload_n (n := 214) X 2 dX12_reads_213 rfl rfl rfl ?_
              refine g_bipush (n := 216) X dX12_reads_214 (by decide +kernel) rfl ?_
              have tM38_12 : M38 190 12 = v36 := ((congrFun (congrFun e39 _) _).trans ((gset_ne (by omega)).trans hv36))
              have tM38_13 : M38 190 13 = v37 := ((congrFun (congrFun e39 _) _).trans ((gset_ne (by omega)).trans hv37))
              refine g_callVv (n := 219) (As := [gJ 32]) (rest := []) (cs1 := 0) (ss1 := 0) X (s_X12_must2 32 (by omega) hsz IM38 CM38 (by have h1 := ((congrFun (congrFun e39 _) _).trans ((gset_ne (by omega)).trans hv36)); omega)) okX12_must kw_7_42 ⟨kw_7_44, kw_0_62⟩ ⟨rfl, rfl⟩ ⟨Nat.le_of_ble_eq_true rfl, Nat.le_of_ble_eq_true rfl⟩ rfl (by decide) (gsz hsz (by decide)) lay_190 rfl rfl (Nat.le_of_ble_eq_true rfl) ⟨Nat.le_of_ble_eq_true rfl, Nat.le_of_ble_eq_true rfl⟩ rfl rfl dX12_reads_216 rfl (fun M42 P43 => ?_)
              obtain ⟨IM42, CM42, FM42, xM42⟩ := P43
              have muM42 := xM42
              rw [show gTx M38 = gTx M from ((gTx.set hsz IM34 e39 (by omega)).trans ((gTx.fr hsz IM15 ((gFr.c gFr.rf FM34 rfl) : gFr 147573952589676412928 M15 M34) rfl).trans ((gTx.set hsz IM13 e16 (by omega)).trans ((gTx.set hsz IM9 e14 (by omega)).trans ((gTx.fr hsz I ((gFr.c gFr.rf FM9 rfl) : gFr 147573952589676412928 M M9) rfl).trans (rfl : gTx M = gTx M))))))] at muM42
              try rw [show M38 190 12 = v36 from ((congrFun (congrFun e39 _) _).trans ((gset_ne (by omega)).trans hv36))] at muM42
              try rw [show M38 190 13 = v37 from ((congrFun (congrFun e39 _) _).trans ((gset_ne (by omega)).trans hv37))] at muM42
              obtain ⟨v44, hv44, rv44⟩ := gRd IM42 (by decide) (gsz hsz (by decide)) rc_190_12.1
              try rw [show M42 190 12 = v44 from hv44] at muM42
              obtain ⟨v45, hv45, rv45⟩ := gRd IM42 (by decide) (gsz hsz (by decide)) rc_190_13.1
              try rw [show M42 190 13 = v45 from hv45] at muM42
              refine g_aload_n (n := 220) X 2 dX12_reads_219 rfl rfl rfl ?_
              refine gg_12_1 (n := 223) (z := 191) X (by decide) (gsz hsz (by decide)) lay_190 kw_6_27 dX12_reads_220 rfl (rf_190_1 IM42 (gsz hsz (by decide))) (by decide) ?_
              refine g_sipush (n := 226) X dX12_reads_223 (by decide +kernel) rfl ?_
              refine g_iload_n (n := 227) X 1 dX12_reads_226 rfl rfl rfl ?_
              refine g_iadd (n := 228) (z := 24900 + ((8 * a) + v6)) X dX12_reads_227 rfl rfl ?_
              refine g_aload_n (n := 229) X 2 dX12_reads_228 rfl rfl rfl ?_
              refine gg_12_12 (n := 232) (z := v44) X (by decide) (gsz hsz (by decide)) lay_190 kw_6_38 dX12_reads_229 rfl hv44 ?_
              refine g_iast (n := 233) X (by decide) (gsz hsz (by decide)) lay_191 (by omega) (by omega) (by decide) dX12_reads_232 rfl ?_
              refine G.nm (fun M46 e47 => ?_)
              have IM46 : gI sz M46 := gI.set IM42 (rs_LSPOT (k := 24900 + ((8 * a) + v6)) (by omega)).1 (by omega) e47
              have CM46 : gC sz M46 := gC.set CM42 (rs_LSPOT (k := 24900 + ((8 * a) + v6)) (by omega)).2.1 e47
              refine g_aload_n (n := 234) X 2 dX12_reads_233 rfl rfl rfl ?_
              have tM46_12 : M46 190 12 = v44 := ((congrFun (congrFun e47 _) _).trans ((gset_ne (by omega)).trans hv44))
              have tM46_13 : M46 190 13 = v45 := ((congrFun (congrFun e47 _) _).trans ((gset_ne (by omega)).trans hv45))
              have tM46_14 : M46 190 14 = v3 := ((congrFun (congrFun e47 _) _).trans ((gset_ne (by omega)).trans ((gFr.at FM42 rc_190_14.2.2 rfl).trans ((congrFun (congrFun e39 _) _).trans ((gset_ne (by omega)).trans ((gFr.at FM34 rc_190_14.2.2 rfl).trans ((congrFun (congrFun e16 _) _).trans ((gset_ne (by omega)).trans ((congrFun (congrFun e14 _) _).trans ((gset_ne (by omega)).trans ((gFr.at FM9 rc_190_14.2.2 rfl).trans hv3)))))))))))
              refine g_callVi (n := 237) (As := []) (rest := []) (cs1 := 0) (ss1 := 0) X (s_X12_some2 hsz M46 IM46 CM46 (gW.fr (S := 147578456189303783424) W ⟨sz, hsz, I⟩ (gFr.s (gFr.c (gFr.s (gFr.c (gFr.s (gFr.s (gFr.c gFr.rf FM9 rfl) e14 (rs_LWORD (k := 24720 + ((8 * a) + v6)) (by omega)).2.2 rfl) e16 (rs_LSPOT (k := 24900 + ((8 * a) + v6)) (by omega)).2.2 rfl) FM34 rfl) e39 (rs_LVALUE (k := 24810 + ((8 * a) + v6)) (by omega)).2.2 rfl) FM42 rfl) e47 (rs_LSPOT (k := 24900 + ((8 * a) + v6)) (by omega)).2.2 rfl) rfl) (by have q1 := ((congrFun (congrFun e47 _) _).trans ((gset_ne (by omega)).trans ((gFr.at FM42 rc_190_15.2.2 rfl).trans ((congrFun (congrFun e39 _) _).trans ((gset_ne (by omega)).trans ((gFr.at FM34 rc_190_15.2.2 rfl).trans ((congrFun (congrFun e16 _) _).trans ((gset_ne (by omega)).trans ((congrFun (congrFun e14 _) _).trans ((gset_ne (by omega)).trans ((gFr.at FM9 rc_190_15.2.2 rfl).trans hv4))))))))))); have q2 := ((congrFun (congrFun e47 _) _).trans ((gset_ne (by omega)).trans ((gFr.at FM42 (rs_PERS (k := 1) (by omega)).2.2 rfl).trans ((congrFun (congrFun e39 _) _).trans ((gset_ne (by omega)).trans ((gFr.at FM34 (rs_PERS (k := 1) (by omega)).2.2 rfl).trans ((congrFun (congrFun e16 _) _).trans ((gset_ne (by omega)).trans ((congrFun (congrFun e14 _) _).trans ((gset_ne (by omega)).trans ((gFr.at FM9 (rs_PERS (k := 1) (by omega)).2.2 rfl).trans hv5))))))))))); omega) (by have q14 := ((congrFun (congrFun e47 _) _).trans ((gset_ne (by omega)).trans ((gFr.at FM42 rc_190_14.2.2 rfl).trans ((congrFun (congrFun e39 _) _).trans ((gset_ne (by omega)).trans ((gFr.at FM34 rc_190_14.2.2 rfl).trans ((congrFun (congrFun e16 _) _).trans ((gset_ne (by omega)).trans ((congrFun (congrFun e14 _) _).trans ((gset_ne (by omega)).trans ((gFr.at FM9 rc_190_14.2.2 rfl).trans hv3))))))))))); omega) (by have q14 := ((congrFun (congrFun e47 _) _).trans ((gset_ne (by omega)).trans ((gFr.at FM42 rc_190_14.2.2 rfl).trans ((congrFun (congrFun e39 _) _).trans ((gset_ne (by omega)).trans ((gFr.at FM34 rc_190_14.2.2 rfl).trans ((congrFun (congrFun e16 _) _).trans ((gset_ne (by omega)).trans ((congrFun (congrFun e14 _) _).trans ((gset_ne (by omega)).trans ((gFr.at FM9 rc_190_14.2.2 rfl).trans hv3))))))))))); omega) (by have q12 := ((congrFun (congrFun e47 _) _).trans ((gset_ne (by omega)).trans hv44)); omega)) okX12_some kw_7_46 ⟨kw_7_48, kw_0_63⟩ ⟨rfl, rfl⟩ ⟨Nat.le_of_ble_eq_true rfl, Nat.le_of_ble_eq_true rfl⟩ rfl (by decide) (gsz hsz (by decide)) lay_190 rfl rfl (Nat.le_of_ble_eq_true rfl) ⟨Nat.le_of_ble_eq_true rfl, Nat.le_of_ble_eq_true rfl⟩ rfl rfl dX12_reads_234 rfl (fun v48 M49 P50 => ?_)
              obtain ⟨rv48, IM49, CM49, FM49, xM49, sM49⟩ := P50
              obtain ⟨v51, hv51, rv51⟩ := gRd IM49 (by decide) (gsz hsz (by decide)) rc_190_12.1
              have so := sM49
              rw [show gTx M46 = gTx M from ((gTx.set hsz IM42 e47 (by omega)).trans ((gTx.fr hsz IM38 ((gFr.c gFr.rf FM42 rfl) : gFr 147573952589676412928 M38 M42) rfl).trans ((gTx.set hsz IM34 e39 (by omega)).trans ((gTx.fr hsz IM15 ((gFr.c gFr.rf FM34 rfl) : gFr 147573952589676412928 M15 M34) rfl).trans ((gTx.set hsz IM13 e16 (by omega)).trans ((gTx.set hsz IM9 e14 (by omega)).trans ((gTx.fr hsz I ((gFr.c gFr.rf FM9 rfl) : gFr 147573952589676412928 M M9) rfl).trans (rfl : gTx M = gTx M))))))))] at so
              try rw [show M46 190 12 = v44 from ((congrFun (congrFun e47 _) _).trans ((gset_ne (by omega)).trans hv44))] at so
              try rw [show M46 190 13 = v45 from ((congrFun (congrFun e47 _) _).trans ((gset_ne (by omega)).trans hv45))] at so
              try rw [show M46 190 14 = v3 from ((congrFun (congrFun e47 _) _).trans ((gset_ne (by omega)).trans ((gFr.at FM42 rc_190_14.2.2 rfl).trans ((congrFun (congrFun e39 _) _).trans ((gset_ne (by omega)).trans ((gFr.at FM34 rc_190_14.2.2 rfl).trans ((congrFun (congrFun e16 _) _).trans ((gset_ne (by omega)).trans ((congrFun (congrFun e14 _) _).trans ((gset_ne (by omega)).trans ((gFr.at FM9 rc_190_14.2.2 rfl).trans hv3)))))))))))] at so
              try rw [show M49 190 12 = v51 from hv51] at so
              obtain ⟨v52, hv52, rv52⟩ := gRd IM49 (by decide) (gsz hsz (by decide)) rc_190_13.1
              try rw [show M49 190 13 = v52 from hv52] at so
              refine g_istore (n := 239) (L' := [(4, gJ v48), (3, gJ v8), (2, gJ ((8 * a) + v6)), (0, gA n0 190), (1, gJ a)]) X dX12_reads_237 (by decide) rfl rfl ?_
              refine g_aload_n (n := 240) X 3 dX12_reads_239 rfl rfl rfl ?_
              refine gg_12_1 (n := 243) (z := 191) X (by decide) (gsz hsz (by decide)) lay_190 kw_6_27 dX12_reads_240 rfl (rf_190_1 IM49 (gsz hsz (by decide))) (by decide) ?_
              refine g_sipush (n := 246) X dX12_reads_243 (by decide +kernel) rfl ?_
              refine g_iload_n (n := 247) X 4 dX12_reads_246 rfl rfl rfl ?_
              refine g_iadd (n := 248) (z := a + 24700) X dX12_reads_247 (by omega) rfl ?_
              refine g_dup2 (n := 249) X dX12_reads_248 rfl rfl rfl ?_
              refine g_iald2 (n := 250) (v := v6) X (by decide) (gsz hsz (by decide)) lay_191 (by omega) (by omega) (by decide) dX12_reads_249 rfl ((gFr.at FM49 (rs_LCOUNT (k := a + 24700) (by omega)).2.2 rfl).trans ((congrFun (congrFun e47 _) _).trans ((gset_ne (by omega)).trans ((gFr.at FM42 (rs_LCOUNT (k := a + 24700) (by omega)).2.2 rfl).trans ((congrFun (congrFun e39 _) _).trans ((gset_ne (by omega)).trans ((gFr.at FM34 (rs_LCOUNT (k := a + 24700) (by omega)).2.2 rfl).trans ((congrFun (congrFun e16 _) _).trans ((gset_ne (by omega)).trans ((congrFun (congrFun e14 _) _).trans ((gset_ne (by omega)).trans ((gFr.at FM9 (rs_LCOUNT (k := a + 24700) (by omega)).2.2 rfl).trans hv6)))))))))))) ?_
              refine g_iconst (n := 251) X dX12_reads_250 rfl ?_
              refine g_iadd (n := 252) (z := v6 + 1) X dX12_reads_251 (by omega) rfl ?_
              refine g_iast (n := 253) X (by decide) (gsz hsz (by decide)) lay_191 (by omega) (by omega) (by decide) dX12_reads_252 rfl ?_
              refine G.nm (fun M53 e54 => ?_)
              have IM53 : gI sz M53 := gI.set IM49 (rs_LCOUNT (k := a + 24700) (by omega)).1 (by omega) e54
              have CM53 : gC sz M53 := gC.set CM49 (rs_LCOUNT (k := a + 24700) (by omega)).2.1 e54
              exact hq _ _ _ dX12_reads_253 ⟨IM53, CM53, (gFr.s (gFr.c (gFr.s (gFr.c (gFr.s (gFr.c (gFr.s (gFr.s (gFr.c gFr.rf FM9 rfl) e14 (rs_LWORD (k := 24720 + ((8 * a) + v6)) (by omega)).2.2 rfl) e16 (rs_LSPOT (k := 24900 + ((8 * a) + v6)) (by omega)).2.2 rfl) FM34 rfl) e39 (rs_LVALUE (k := 24810 + ((8 * a) + v6)) (by omega)).2.2 rfl) FM42 rfl) e47 (rs_LSPOT (k := 24900 + ((8 * a) + v6)) (by omega)).2.2 rfl) FM49 rfl) e54 (rs_LCOUNT (k := a + 24700) (by omega)).2.2 rfl), ⟨(by have zb12 : M 190 12 = v1 := hv1; have ze12 : M53 190 12 = v51 := ((congrFun (congrFun e54 _) _).trans ((gset_ne (by omega)).trans hv51)); have ze13 : M53 190 13 = v52 := ((congrFun (congrFun e54 _) _).trans ((gset_ne (by omega)).trans hv52)); have ze14 : M53 190 14 = v3 := ((congrFun (congrFun e54 _) _).trans ((gset_ne (by omega)).trans (xM49.2.trans ((congrFun (congrFun e47 _) _).trans ((gset_ne (by omega)).trans ((gFr.at FM42 rc_190_14.2.2 rfl).trans ((congrFun (congrFun e39 _) _).trans ((gset_ne (by omega)).trans ((gFr.at FM34 rc_190_14.2.2 rfl).trans ((congrFun (congrFun e16 _) _).trans ((gset_ne (by omega)).trans ((congrFun (congrFun e14 _) _).trans ((gset_ne (by omega)).trans ((gFr.at FM9 rc_190_14.2.2 rfl).trans hv3)))))))))))))); have zb14 : M 190 14 = v3 := hv3; have zeL : M53 191 (a + 24700) = v6 + 1 := ((congrFun (congrFun e54 _) _).trans (gset_eq _ _ _ _)); have zbL : M 191 (a + 24700) = v6 := hv6; have zbA : M 191 (a + 668) = v7 := hv7; have zeA : M53 191 (a + 668) = v7 := ((congrFun (congrFun e54 _) _).trans ((gset_ne (by omega)).trans ((gFr.at FM49 (rs_ALONG (k := a + 668) (by omega)).2.2 rfl).trans ((congrFun (congrFun e47 _) _).trans ((gset_ne (by omega)).trans ((gFr.at FM42 (rs_ALONG (k := a + 668) (by omega)).2.2 rfl).trans ((congrFun (congrFun e39 _) _).trans ((gset_ne (by omega)).trans ((gFr.at FM34 (rs_ALONG (k := a + 668) (by omega)).2.2 rfl).trans ((congrFun (congrFun e16 _) _).trans ((gset_ne (by omega)).trans ((congrFun (congrFun e14 _) _).trans ((gset_ne (by omega)).trans ((gFr.at FM9 (rs_ALONG (k := a + 668) (by omega)).2.2 rfl).trans hv7)))))))))))))); have zbL9 : M 191 (a + 24700) = v6 := hv6; omega), ((gTx.set hsz IM49 e54 (by omega)).trans ((gTx.fr hsz IM46 ((gFr.c gFr.rf FM49 rfl) : gFr 2475881517416798299143274496 M46 M49) rfl).trans ((gTx.set hsz IM42 e47 (by omega)).trans ((gTx.fr hsz IM38 ((gFr.c gFr.rf FM42 rfl) : gFr 147573952589676412928 M38 M42) rfl).trans ((gTx.set hsz IM34 e39 (by omega)).trans ((gTx.fr hsz IM15 ((gFr.c gFr.rf FM34 rfl) : gFr 147573952589676412928 M15 M34) rfl).trans ((gTx.set hsz IM13 e16 (by omega)).trans ((gTx.set hsz IM9 e14 (by omega)).trans ((gTx.fr hsz I ((gFr.c gFr.rf FM9 rfl) : gFr 147573952589676412928 M M9) rfl).trans (rfl : gTx M = gTx M)))))))))), (by have zb12 : M 190 12 = v1 := hv1; have ze12 : M53 190 12 = v51 := ((congrFun (congrFun e54 _) _).trans ((gset_ne (by omega)).trans hv51)); have ze13 : M53 190 13 = v52 := ((congrFun (congrFun e54 _) _).trans ((gset_ne (by omega)).trans hv52)); have ze14 : M53 190 14 = v3 := ((congrFun (congrFun e54 _) _).trans ((gset_ne (by omega)).trans (xM49.2.trans ((congrFun (congrFun e47 _) _).trans ((gset_ne (by omega)).trans ((gFr.at FM42 rc_190_14.2.2 rfl).trans ((congrFun (congrFun e39 _) _).trans ((gset_ne (by omega)).trans ((gFr.at FM34 rc_190_14.2.2 rfl).trans ((congrFun (congrFun e16 _) _).trans ((gset_ne (by omega)).trans ((congrFun (congrFun e14 _) _).trans ((gset_ne (by omega)).trans ((gFr.at FM9 rc_190_14.2.2 rfl).trans hv3)))))))))))))); have zb14 : M 190 14 = v3 := hv3; have zeL : M53 191 (a + 24700) = v6 + 1 := ((congrFun (congrFun e54 _) _).trans (gset_eq _ _ _ _)); have zbL : M 191 (a + 24700) = v6 := hv6; have zbA : M 191 (a + 668) = v7 := hv7; have zeA : M53 191 (a + 668) = v7 := ((congrFun (congrFun e54 _) _).trans ((gset_ne (by omega)).trans ((gFr.at FM49 (rs_ALONG (k := a + 668) (by omega)).2.2 rfl).trans ((congrFun (congrFun e47 _) _).trans ((gset_ne (by omega)).trans ((gFr.at FM42 (rs_ALONG (k := a + 668) (by omega)).2.2 rfl).trans ((congrFun (congrFun e39 _) _).trans ((gset_ne (by omega)).trans ((gFr.at FM34 (rs_ALONG (k := a + 668) (by omega)).2.2 rfl).trans ((congrFun (congrFun e16 _) _).trans ((gset_ne (by omega)).trans ((congrFun (congrFun e14 _) _).trans ((gset_ne (by omega)).trans ((gFr.at FM9 (rs_ALONG (k := a + 668) (by omega)).2.2 rfl).trans hv7)))))))))))))); have zbL9 : M 191 (a + 24700) = v6 := hv6; rcases owM9.1 with ⟨w1, w2, w3⟩ | ⟨w1, w3⟩; (have vv2 := gCl_of w3 w2.1; rcases nuM34 with ⟨n1, _⟩ | ⟨n1, ⟨n2, n3, n5⟩ | ⟨n2, n3, n4, n5⟩⟩; (exfalso; omega); (have mx := muM42; rcases mx with ⟨m1, m2, m3⟩ | ⟨m1, ⟨m2, m3, m4⟩ | ⟨m2, m3, m4⟩⟩ <;> (first | (have vv3 := gVal_dn (T := gTx M) (w := v8) (by omega) n2; exact Or.inl ⟨by omega, by rw [zb12, vv2, gClW_v vv3]; omega⟩) | (exfalso; omega))); (have vn9 : (0 : Int) ≤ v33 := (by have t := gNum_v (T := gTx M) (k := (4 : Int).toNat) (p := v11); rw [n4] at t; exact t); have mx := muM42; rcases mx with ⟨m1, m2, m3⟩ | ⟨m1, ⟨m2, m3, m4⟩ | ⟨m2, m3, m4⟩⟩ <;> (first | (have vv3 := gVal_d (T := gTx M) (w := v8) (by omega) n2 n4; have vv4 := gClW_3 vv3 (by omega) (by omega) (by have mm := muM42; rw [show v36 = v36 by omega] at mm; omega); exact Or.inl ⟨by omega, by rw [zb12, vv2, vv4]; show -1 - (v36) = -1 - M53 190 12; omega⟩) | (have vv3 := gVal_d (T := gTx M) (w := v8) (by omega) n2 n4; have vv4 := gClW_2 vv3 (by omega) (by omega) (by have mm := muM42; rw [show v36 = v36 by omega] at mm; omega); rcases so with ⟨s1, _⟩ | ⟨s1, s2, s3⟩; (exfalso; omega); rw [show v44 = v36 + 1 by omega] at s2; rcases s2 [] (by show (0 : Int) = _; omega) rfl with ⟨t1, t2, t3⟩ | ⟨t1, t2⟩; (have t4 := s3 (by omega); rw [gR_stop (by omega) (Or.inr rfl), if_pos rfl] at t3; exact Or.inr ⟨by omega, by rw [zb12, vv2, vv4]; show 0 ≤ gR (gTx M) (v36 + 1) [] true; omega, by rw [zb12, vv2, vv4]; show gR (gTx M) (v36 + 1) [] true = M53 190 12; omega, by omega, by rw [zb12, vv2, vv4]; show 0 ≤ v33; first | omega | exact vn9, by rw [zbL9, show 8 * a + v6 + 24720 = 24720 + ((8 * a) + v6) by omega, show M53 191 (24720 + ((8 * a) + v6)) = v8 from ((congrFun (congrFun e54 _) _).trans ((gset_ne (by omega)).trans ((gFr.at FM49 (rs_LWORD (k := 24720 + ((8 * a) + v6)) (by omega)).2.2 rfl).trans ((congrFun (congrFun e47 _) _).trans ((gset_ne (by omega)).trans ((gFr.at FM42 (rs_LWORD (k := 24720 + ((8 * a) + v6)) (by omega)).2.2 rfl).trans ((congrFun (congrFun e39 _) _).trans ((gset_ne (by omega)).trans ((gFr.at FM34 (rs_LWORD (k := 24720 + ((8 * a) + v6)) (by omega)).2.2 rfl).trans ((congrFun (congrFun e16 _) _).trans ((gset_ne (by omega)).trans ((congrFun (congrFun e14 _) _).trans (gset_eq _ _ _ _))))))))))))), zb12, vv2, vv4], by rw [zbL9, show 8 * a + v6 + 24810 = 24810 + ((8 * a) + v6) by omega, show M53 191 (24810 + ((8 * a) + v6)) = v33 from ((congrFun (congrFun e54 _) _).trans ((gset_ne (by omega)).trans ((gFr.at FM49 (rs_LVALUE (k := 24810 + ((8 * a) + v6)) (by omega)).2.2 rfl).trans ((congrFun (congrFun e47 _) _).trans ((gset_ne (by omega)).trans ((gFr.at FM42 (rs_LVALUE (k := 24810 + ((8 * a) + v6)) (by omega)).2.2 rfl).trans ((congrFun (congrFun e39 _) _).trans (gset_eq _ _ _ _)))))))), zb12, vv2, vv4]⟩); (exact Or.inl ⟨by omega, by rw [zb12, vv2, vv4]; show gR (gTx M) (v36 + 1) [] true = -1 - M53 190 12; omega⟩)) | (exfalso; omega)))); (exfalso; omega)), ⟨(fun k k0 k1 k2 k3 => by have zbL : M 191 (a + 24700) = v6 := hv6; exact (((congrFun (congrFun e54 _) _).trans (gset_ne (by omega))).trans ((gFr.at FM49 (gG_ac (k := k) (by omega)) rfl).trans (((congrFun (congrFun e47 _) _).trans (gset_ne (by omega))).trans ((gFr.at FM42 (gG_ac (k := k) (by omega)) rfl).trans (((congrFun (congrFun e39 _) _).trans (gset_ne (by omega))).trans ((gFr.at FM34 (gG_ac (k := k) (by omega)) rfl).trans (((congrFun (congrFun e16 _) _).trans (gset_ne (by omega))).trans (((congrFun (congrFun e14 _) _).trans (gset_ne (by omega))).trans ((gFr.at FM9 (gG_ac (k := k) (by omega)) rfl).trans rfl)))))))))), (fun k k0 k1 => by have zbL : M 191 (a + 24700) = v6 := hv6; exact (((congrFun (congrFun e54 _) _).trans (gset_ne (by omega))).trans ((gFr.at FM49 (rs_AWEEK (k := k) (by omega)).2.2 rfl).trans (((congrFun (congrFun e47 _) _).trans (gset_ne (by omega))).trans ((gFr.at FM42 (rs_AWEEK (k := k) (by omega)).2.2 rfl).trans (((congrFun (congrFun e39 _) _).trans (gset_ne (by omega))).trans ((gFr.at FM34 (rs_AWEEK (k := k) (by omega)).2.2 rfl).trans (((congrFun (congrFun e16 _) _).trans (gset_ne (by omega))).trans (((congrFun (congrFun e14 _) _).trans (gset_ne (by omega))).trans ((gFr.at FM9 (rs_AWEEK (k := k) (by omega)).2.2 rfl).trans rfl)))))))))), (fun k k0 k1 k2 => by have zbL : M 191 (a + 24700) = v6 := hv6; exact (((congrFun (congrFun e54 _) _).trans (gset_ne (by omega))).trans ((gFr.at FM49 (gG_ac (k := k) (by omega)) rfl).trans (((congrFun (congrFun e47 _) _).trans (gset_ne (by omega))).trans ((gFr.at FM42 (gG_ac (k := k) (by omega)) rfl).trans (((congrFun (congrFun e39 _) _).trans (gset_ne (by omega))).trans ((gFr.at FM34 (gG_ac (k := k) (by omega)) rfl).trans (((congrFun (congrFun e16 _) _).trans (gset_ne (by omega))).trans (((congrFun (congrFun e14 _) _).trans (gset_ne (by omega))).trans ((gFr.at FM9 (gG_ac (k := k) (by omega)) rfl).trans rfl))))))))))⟩⟩⟩
            · refine g_iload_n (n := 208) X 0 dX12_reads_207 rfl rfl rfl ?_
              refine g_bipush (n := 210) X dX12_reads_208 (by decide +kernel) rfl ?_
              refine g_icmp_ne (n := 213) (tgt := 239) X dX12_reads_210 (by decide) (by omega) (by omega) rfl (fun c55 => ?_) (fun c55 => by exfalso; omega)
              refine g_aload_n (n := 240) X 2 dX12_reads_239 rfl rfl rfl ?_
              refine gg_12_1 (n := 243) (z := 191) X (by decide) (gsz hsz (by decide)) lay_190 kw_6_27 dX12_reads_240 rfl (rf_190_1 IM38 (gsz hsz (by decide))) (by decide) ?_
              refine g_sipush (n := 246) X dX12_reads_243 (by decide +kernel) rfl ?_
              refine g_iload_n (n := 247) X 3 dX12_reads_246 rfl rfl rfl ?_
              refine g_iadd (n := 248) (z := a + 24700) X dX12_reads_247 (by omega) rfl ?_
              refine g_dup2 (n := 249) X dX12_reads_248 rfl rfl rfl ?_
              refine g_iald2 (n := 250) (v := v6) X (by decide) (gsz hsz (by decide)) lay_191 (by omega) (by omega) (by decide) dX12_reads_249 rfl ((congrFun (congrFun e39 _) _).trans ((gset_ne (by omega)).trans ((gFr.at FM34 (rs_LCOUNT (k := a + 24700) (by omega)).2.2 rfl).trans ((congrFun (congrFun e16 _) _).trans ((gset_ne (by omega)).trans ((congrFun (congrFun e14 _) _).trans ((gset_ne (by omega)).trans ((gFr.at FM9 (rs_LCOUNT (k := a + 24700) (by omega)).2.2 rfl).trans hv6)))))))) ?_
              refine g_iconst (n := 251) X dX12_reads_250 rfl ?_
              refine g_iadd (n := 252) (z := v6 + 1) X dX12_reads_251 (by omega) rfl ?_
              refine g_iast (n := 253) X (by decide) (gsz hsz (by decide)) lay_191 (by omega) (by omega) (by decide) dX12_reads_252 rfl ?_
              refine G.nm (fun M56 e57 => ?_)
              have IM56 : gI sz M56 := gI.set IM38 (rs_LCOUNT (k := a + 24700) (by omega)).1 (by omega) e57
              have CM56 : gC sz M56 := gC.set CM38 (rs_LCOUNT (k := a + 24700) (by omega)).2.1 e57
              exact hq _ _ _ dX12_reads_253 ⟨IM56, CM56, (gFr.s (gFr.s (gFr.c (gFr.s (gFr.s (gFr.c gFr.rf FM9 rfl) e14 (rs_LWORD (k := 24720 + ((8 * a) + v6)) (by omega)).2.2 rfl) e16 (rs_LSPOT (k := 24900 + ((8 * a) + v6)) (by omega)).2.2 rfl) FM34 rfl) e39 (rs_LVALUE (k := 24810 + ((8 * a) + v6)) (by omega)).2.2 rfl) e57 (rs_LCOUNT (k := a + 24700) (by omega)).2.2 rfl), ⟨(by have zb12 : M 190 12 = v1 := hv1; have ze12 : M56 190 12 = v36 := ((congrFun (congrFun e57 _) _).trans ((gset_ne (by omega)).trans ((congrFun (congrFun e39 _) _).trans ((gset_ne (by omega)).trans hv36)))); have ze13 : M56 190 13 = v37 := ((congrFun (congrFun e57 _) _).trans ((gset_ne (by omega)).trans ((congrFun (congrFun e39 _) _).trans ((gset_ne (by omega)).trans hv37)))); have ze14 : M56 190 14 = v3 := ((congrFun (congrFun e57 _) _).trans ((gset_ne (by omega)).trans ((congrFun (congrFun e39 _) _).trans ((gset_ne (by omega)).trans ((gFr.at FM34 rc_190_14.2.2 rfl).trans ((congrFun (congrFun e16 _) _).trans ((gset_ne (by omega)).trans ((congrFun (congrFun e14 _) _).trans ((gset_ne (by omega)).trans ((gFr.at FM9 rc_190_14.2.2 rfl).trans hv3)))))))))); have zb14 : M 190 14 = v3 := hv3; have zeL : M56 191 (a + 24700) = v6 + 1 := ((congrFun (congrFun e57 _) _).trans (gset_eq _ _ _ _)); have zbL : M 191 (a + 24700) = v6 := hv6; have zbA : M 191 (a + 668) = v7 := hv7; have zeA : M56 191 (a + 668) = v7 := ((congrFun (congrFun e57 _) _).trans ((gset_ne (by omega)).trans ((congrFun (congrFun e39 _) _).trans ((gset_ne (by omega)).trans ((gFr.at FM34 (rs_ALONG (k := a + 668) (by omega)).2.2 rfl).trans ((congrFun (congrFun e16 _) _).trans ((gset_ne (by omega)).trans ((congrFun (congrFun e14 _) _).trans ((gset_ne (by omega)).trans ((gFr.at FM9 (rs_ALONG (k := a + 668) (by omega)).2.2 rfl).trans hv7)))))))))); have zbL9 : M 191 (a + 24700) = v6 := hv6; omega), ((gTx.set hsz IM38 e57 (by omega)).trans ((gTx.set hsz IM34 e39 (by omega)).trans ((gTx.fr hsz IM15 ((gFr.c gFr.rf FM34 rfl) : gFr 147573952589676412928 M15 M34) rfl).trans ((gTx.set hsz IM13 e16 (by omega)).trans ((gTx.set hsz IM9 e14 (by omega)).trans ((gTx.fr hsz I ((gFr.c gFr.rf FM9 rfl) : gFr 147573952589676412928 M M9) rfl).trans (rfl : gTx M = gTx M))))))), (by have zb12 : M 190 12 = v1 := hv1; have ze12 : M56 190 12 = v36 := ((congrFun (congrFun e57 _) _).trans ((gset_ne (by omega)).trans ((congrFun (congrFun e39 _) _).trans ((gset_ne (by omega)).trans hv36)))); have ze13 : M56 190 13 = v37 := ((congrFun (congrFun e57 _) _).trans ((gset_ne (by omega)).trans ((congrFun (congrFun e39 _) _).trans ((gset_ne (by omega)).trans hv37)))); have ze14 : M56 190 14 = v3 := ((congrFun (congrFun e57 _) _).trans ((gset_ne (by omega)).trans ((congrFun (congrFun e39 _) _).trans ((gset_ne (by omega)).trans ((gFr.at FM34 rc_190_14.2.2 rfl).trans ((congrFun (congrFun e16 _) _).trans ((gset_ne (by omega)).trans ((congrFun (congrFun e14 _) _).trans ((gset_ne (by omega)).trans ((gFr.at FM9 rc_190_14.2.2 rfl).trans hv3)))))))))); have zb14 : M 190 14 = v3 := hv3; have zeL : M56 191 (a + 24700) = v6 + 1 := ((congrFun (congrFun e57 _) _).trans (gset_eq _ _ _ _)); have zbL : M 191 (a + 24700) = v6 := hv6; have zbA : M 191 (a + 668) = v7 := hv7; have zeA : M56 191 (a + 668) = v7 := ((congrFun (congrFun e57 _) _).trans ((gset_ne (by omega)).trans ((congrFun (congrFun e39 _) _).trans ((gset_ne (by omega)).trans ((gFr.at FM34 (rs_ALONG (k := a + 668) (by omega)).2.2 rfl).trans ((congrFun (congrFun e16 _) _).trans ((gset_ne (by omega)).trans ((congrFun (congrFun e14 _) _).trans ((gset_ne (by omega)).trans ((gFr.at FM9 (rs_ALONG (k := a + 668) (by omega)).2.2 rfl).trans hv7)))))))))); have zbL9 : M 191 (a + 24700) = v6 := hv6; rcases owM9.1 with ⟨w1, w2, w3⟩ | ⟨w1, w3⟩; (have vv2 := gCl_of w3 w2.1; rcases nuM34 with ⟨n1, _⟩ | ⟨n1, ⟨n2, n3, n5⟩ | ⟨n2, n3, n4, n5⟩⟩; (exfalso; omega); (first | (have vv3 := gVal_dn (T := gTx M) (w := v8) (by omega) n2; exact Or.inl ⟨by omega, by rw [zb12, vv2, gClW_v vv3]; omega⟩) | (exfalso; omega)); (have vn9 : (0 : Int) ≤ v33 := (by have t := gNum_v (T := gTx M) (k := (4 : Int).toNat) (p := v11); rw [n4] at t; exact t); first | (have vv3 := gVal_d (T := gTx M) (w := v8) (by omega) n2 n4; have vv4 := gClW_1 vv3 (by omega) (by omega); exact Or.inr ⟨by omega, by rw [zb12, vv2, vv4]; show 0 ≤ v36; omega, by rw [zb12, vv2, vv4]; show v36 = M56 190 12; omega, by omega, by rw [zb12, vv2, vv4]; show 0 ≤ v33; first | omega | exact vn9, by rw [zbL9, show 8 * a + v6 + 24720 = 24720 + ((8 * a) + v6) by omega, show M56 191 (24720 + ((8 * a) + v6)) = v8 from ((congrFun (congrFun e57 _) _).trans ((gset_ne (by omega)).trans ((congrFun (congrFun e39 _) _).trans ((gset_ne (by omega)).trans ((gFr.at FM34 (rs_LWORD (k := 24720 + ((8 * a) + v6)) (by omega)).2.2 rfl).trans ((congrFun (congrFun e16 _) _).trans ((gset_ne (by omega)).trans ((congrFun (congrFun e14 _) _).trans (gset_eq _ _ _ _))))))))), zb12, vv2, vv4], by rw [zbL9, show 8 * a + v6 + 24810 = 24810 + ((8 * a) + v6) by omega, show M56 191 (24810 + ((8 * a) + v6)) = v33 from ((congrFun (congrFun e57 _) _).trans ((gset_ne (by omega)).trans ((congrFun (congrFun e39 _) _).trans (gset_eq _ _ _ _)))), zb12, vv2, vv4]⟩) | (exfalso; omega))); (exfalso; omega)), ⟨(fun k k0 k1 k2 k3 => by have zbL : M 191 (a + 24700) = v6 := hv6; exact (((congrFun (congrFun e57 _) _).trans (gset_ne (by omega))).trans (((congrFun (congrFun e39 _) _).trans (gset_ne (by omega))).trans ((gFr.at FM34 (gG_ac (k := k) (by omega)) rfl).trans (((congrFun (congrFun e16 _) _).trans (gset_ne (by omega))).trans (((congrFun (congrFun e14 _) _).trans (gset_ne (by omega))).trans ((gFr.at FM9 (gG_ac (k := k) (by omega)) rfl).trans rfl))))))), (fun k k0 k1 => by have zbL : M 191 (a + 24700) = v6 := hv6; exact (((congrFun (congrFun e57 _) _).trans (gset_ne (by omega))).trans (((congrFun (congrFun e39 _) _).trans (gset_ne (by omega))).trans ((gFr.at FM34 (rs_AWEEK (k := k) (by omega)).2.2 rfl).trans (((congrFun (congrFun e16 _) _).trans (gset_ne (by omega))).trans (((congrFun (congrFun e14 _) _).trans (gset_ne (by omega))).trans ((gFr.at FM9 (rs_AWEEK (k := k) (by omega)).2.2 rfl).trans rfl))))))), (fun k k0 k1 k2 => by have zbL : M 191 (a + 24700) = v6 := hv6; exact (((congrFun (congrFun e57 _) _).trans (gset_ne (by omega))).trans (((congrFun (congrFun e39 _) _).trans (gset_ne (by omega))).trans ((gFr.at FM34 (gG_ac (k := k) (by omega)) rfl).trans (((congrFun (congrFun e16 _) _).trans (gset_ne (by omega))).trans (((congrFun (congrFun e14 _) _).trans (gset_ne (by omega))).trans ((gFr.at FM9 (gG_ac (k := k) (by omega)) rfl).trans rfl)))))))⟩⟩⟩
          · refine g_aload_n (n := 121) X 2 dX12_reads_120 rfl rfl rfl ?_
            have tM15_12 : M15 190 12 = v11 := ((congrFun (congrFun e16 _) _).trans ((gset_ne (by omega)).trans ((congrFun (congrFun e14 _) _).trans ((gset_ne (by omega)).trans hv11))))
            have tM15_13 : M15 190 13 = v12 := ((congrFun (congrFun e16 _) _).trans ((gset_ne (by omega)).trans ((congrFun (congrFun e14 _) _).trans ((gset_ne (by omega)).trans hv12))))
            refine g_callVi (n := 124) (As := []) (rest := []) (cs1 := 0) (ss1 := 0) X (s_X12_here2  hsz IM15 CM15 (by have h1 := ((congrFun (congrFun e16 _) _).trans ((gset_ne (by omega)).trans ((congrFun (congrFun e14 _) _).trans ((gset_ne (by omega)).trans hv11)))); omega)) okX12_here kw_7_26 ⟨kw_7_28, kw_0_58⟩ ⟨rfl, rfl⟩ ⟨Nat.le_of_ble_eq_true rfl, Nat.le_of_ble_eq_true rfl⟩ rfl (by decide) (gsz hsz (by decide)) lay_190 rfl rfl (Nat.le_of_ble_eq_true rfl) ⟨Nat.le_of_ble_eq_true rfl, Nat.le_of_ble_eq_true rfl⟩ rfl rfl dX12_reads_121 rfl (fun v58 M59 P60 => ?_)
            obtain ⟨rfl, rv58, xv58⟩ := P60
            have he := xv58.1
            rw [show gTx M15 = gTx M from ((gTx.set hsz IM13 e16 (by omega)).trans ((gTx.set hsz IM9 e14 (by omega)).trans ((gTx.fr hsz I ((gFr.c gFr.rf FM9 rfl) : gFr 147573952589676412928 M M9) rfl).trans (rfl : gTx M = gTx M)))), show M15 190 12 = v11 from ((congrFun (congrFun e16 _) _).trans ((gset_ne (by omega)).trans ((congrFun (congrFun e14 _) _).trans ((gset_ne (by omega)).trans hv11))))] at he
            refine g_istore (n := 126) (L' := [(4, gJ v58), (3, gJ v8), (2, gJ ((8 * a) + v6)), (0, gA n0 190), (1, gJ a)]) X dX12_reads_124 (by decide) rfl rfl ?_
            refine g_aload_n (n := 127) X 3 dX12_reads_126 rfl rfl rfl ?_
            refine g_iload (n := 129) X 0 dX12_reads_127 rfl rfl ?_
            refine g_bipush (n := 131) X dX12_reads_129 (by decide +kernel) rfl ?_
            refine g_bipush (n := 133) X dX12_reads_131 (by decide +kernel) rfl ?_
            refine g_callSi (n := 136) (As := [gJ v58, gJ 48, gJ 51]) (rest := [gA n0 190]) (cs1 := 0) (ss1 := 0) X (s_X12_in v58 (by omega) 48 (by omega) 51 (by omega) hsz IM15 CM15 ) okX12_in kw_6_106 kw_6_107 ⟨rfl, rfl⟩ ⟨Nat.le_of_ble_eq_true rfl, Nat.le_of_ble_eq_true rfl⟩ rfl rfl (Nat.le_of_ble_eq_true rfl) ⟨Nat.le_of_ble_eq_true rfl, Nat.le_of_ble_eq_true rfl⟩ rfl rfl dX12_reads_133 rfl (fun v61 M62 P63 => ?_)
            obtain ⟨rfl, rv61, xv61⟩ := P63
            refine g_if_ne (n := 139) (tgt := 143) X dX12_reads_136 (by decide) (by omega) rfl (fun c64 => ?_) (fun c64 => ?_)
            · refine g_iconst (n := 144) X dX12_reads_143 rfl ?_
              refine gp_12_13 (n := 147) X (by decide) (gsz hsz (by decide)) lay_190 kw_6_39 (by omega) dX12_reads_144 rfl ?_
              refine G.nm (fun M65 e66 => ?_)
              have IM65 : gI sz M65 := gI.set IM15 rc_190_13.1 (by omega) e66
              have CM65 : gC sz M65 := gC.set CM15 rc_190_13.2.1 e66
              refine g_aload_n (n := 148) X 3 dX12_reads_147 rfl rfl rfl ?_
              refine g_dup (n := 149) X dX12_reads_148 rfl rfl ?_
              refine gg_12_12 (n := 152) (z := v11) X (by decide) (gsz hsz (by decide)) lay_190 kw_6_38 dX12_reads_149 rfl ((congrFun (congrFun e66 _) _).trans ((gset_ne (by omega)).trans ((congrFun (congrFun e16 _) _).trans ((gset_ne (by omega)).trans ((congrFun (congrFun e14 _) _).trans ((gset_ne (by omega)).trans hv11)))))) ?_
              refine g_aload_n (n := 153) X 3 dX12_reads_152 rfl rfl rfl ?_
              refine gg_12_13 (n := 156) (z := 0) X (by decide) (gsz hsz (by decide)) lay_190 kw_6_39 dX12_reads_153 rfl ((congrFun (congrFun e66 _) _).trans (gset_eq _ _ _ _)) ?_
              refine g_if_eq (n := 159) (tgt := 163) X dX12_reads_156 (by decide) (by omega) rfl (fun c67 => ?_) (fun c67 => by exfalso; omega)
              refine g_iconst (n := 164) X dX12_reads_163 rfl ?_
              refine g_iadd (n := 165) (z := v11 + 1) X dX12_reads_164 (by omega) rfl ?_
              refine gp_12_12 (n := 168) X (by decide) (gsz hsz (by decide)) lay_190 kw_6_38 dX12_reads_165 rfl ?_
              refine G.nm (fun M68 e69 => ?_)
              have IM68 : gI sz M68 := gI.set IM65 rc_190_12.1 (by omega) e69
              have CM68 : gC sz M68 := gC.set CM65 rc_190_12.2.1 e69
              refine g_aload_n (n := 169) X 3 dX12_reads_168 rfl rfl rfl ?_
              refine gg_12_1 (n := 172) (z := 191) X (by decide) (gsz hsz (by decide)) lay_190 kw_6_27 dX12_reads_169 rfl (rf_190_1 IM68 (gsz hsz (by decide))) (by decide) ?_
              refine g_sipush (n := 175) X dX12_reads_172 (by decide +kernel) rfl ?_
              refine g_iload_n (n := 176) X 2 dX12_reads_175 rfl rfl rfl ?_
              refine g_iadd (n := 177) (z := 24810 + ((8 * a) + v6)) X dX12_reads_176 rfl rfl ?_
              refine g_iload (n := 179) X 0 dX12_reads_177 rfl rfl ?_
              refine g_bipush (n := 181) X dX12_reads_179 (by decide +kernel) rfl ?_
              refine g_isub (n := 182) (z := v58 - 48) X dX12_reads_181 (by omega) rfl ?_
              refine g_iast (n := 183) X (by decide) (gsz hsz (by decide)) lay_191 (by omega) (by omega) (by decide) dX12_reads_182 rfl ?_
              refine G.nm (fun M70 e71 => ?_)
              have IM70 : gI sz M70 := gI.set IM68 (rs_LVALUE (k := 24810 + ((8 * a) + v6)) (by omega)).1 (by omega) e71
              have CM70 : gC sz M70 := gC.set CM68 (rs_LVALUE (k := 24810 + ((8 * a) + v6)) (by omega)).2.1 e71
              refine g_goto (tgt := 201) X dX12_reads_183 (by decide) ?_
              refine g_iload_n (n := 202) X 1 dX12_reads_201 rfl rfl rfl ?_
              refine g_bipush (n := 204) X dX12_reads_202 (by decide +kernel) rfl ?_
              refine g_icmp_eq (n := 207) (tgt := 213) X dX12_reads_204 (by decide) (by omega) (by omega) rfl (fun c72 => by exfalso; omega) (fun c72 => ?_)
              refine g_iload_n (n := 208) X 1 dX12_reads_207 rfl rfl rfl ?_
              refine g_bipush (n := 210) X dX12_reads_208 (by decide +kernel) rfl ?_
              refine g_icmp_ne (n := 213) (tgt := 239) X dX12_reads_210 (by decide) (by omega) (by omega) rfl (fun c73 => by exfalso; omega) (fun c73 => ?_)
              refine g_aload_n (n := 214) X 3 dX12_reads_213 rfl rfl rfl ?_
              refine g_bipush (n := 216) X dX12_reads_214 (by decide +kernel) rfl ?_
              have tM70_12 : M70 190 12 = v11 + 1 := ((congrFun (congrFun e71 _) _).trans ((gset_ne (by omega)).trans ((congrFun (congrFun e69 _) _).trans (gset_eq _ _ _ _))))
              have tM70_13 : M70 190 13 = 0 := ((congrFun (congrFun e71 _) _).trans ((gset_ne (by omega)).trans ((congrFun (congrFun e69 _) _).trans ((gset_ne (by omega)).trans ((congrFun (congrFun e66 _) _).trans (gset_eq _ _ _ _))))))
              refine g_callVv (n := 219) (As := [gJ 32]) (rest := []) (cs1 := 0) (ss1 := 0) X (s_X12_must2 32 (by omega) hsz IM70 CM70 (by have h1 := ((congrFun (congrFun e71 _) _).trans ((gset_ne (by omega)).trans ((congrFun (congrFun e69 _) _).trans (gset_eq _ _ _ _)))); omega)) okX12_must kw_7_42 ⟨kw_7_44, kw_0_62⟩ ⟨rfl, rfl⟩ ⟨Nat.le_of_ble_eq_true rfl, Nat.le_of_ble_eq_true rfl⟩ rfl (by decide) (gsz hsz (by decide)) lay_190 rfl rfl (Nat.le_of_ble_eq_true rfl) ⟨Nat.le_of_ble_eq_true rfl, Nat.le_of_ble_eq_true rfl⟩ rfl rfl dX12_reads_216 rfl (fun M75 P76 => ?_)
              obtain ⟨IM75, CM75, FM75, xM75⟩ := P76
              have muM75 := xM75
              rw [show gTx M70 = gTx M from ((gTx.set hsz IM68 e71 (by omega)).trans ((gTx.fr hsz IM65 ((gFr.s gFr.rf e69 rc_190_12.2.2 rfl) : gFr 147573952589676412928 M65 M68) rfl).trans ((gTx.fr hsz IM15 ((gFr.s gFr.rf e66 rc_190_13.2.2 rfl) : gFr 147573952589676412928 M15 M65) rfl).trans ((gTx.set hsz IM13 e16 (by omega)).trans ((gTx.set hsz IM9 e14 (by omega)).trans ((gTx.fr hsz I ((gFr.c gFr.rf FM9 rfl) : gFr 147573952589676412928 M M9) rfl).trans (rfl : gTx M = gTx M)))))))] at muM75
              try rw [show M70 190 12 = v11 + 1 from ((congrFun (congrFun e71 _) _).trans ((gset_ne (by omega)).trans ((congrFun (congrFun e69 _) _).trans (gset_eq _ _ _ _))))] at muM75
              try rw [show M70 190 13 = 0 from ((congrFun (congrFun e71 _) _).trans ((gset_ne (by omega)).trans ((congrFun (congrFun e69 _) _).trans ((gset_ne (by omega)).trans ((congrFun (congrFun e66 _) _).trans (gset_eq _ _ _ _))))))] at muM75
              obtain ⟨v77, hv77, rv77⟩ := gRd IM75 (by decide) (gsz hsz (by decide)) rc_190_12.1
              try rw [show M75 190 12 = v77 from hv77] at muM75
              obtain ⟨v78, hv78, rv78⟩ := gRd IM75 (by decide) (gsz hsz (by decide)) rc_190_13.1
              try rw [show M75 190 13 = v78 from hv78] at muM75
              refine g_aload_n (n := 220) X 3 dX12_reads_219 rfl rfl rfl ?_
              refine gg_12_1 (n := 223) (z := 191) X (by decide) (gsz hsz (by decide)) lay_190 kw_6_27 dX12_reads_220 rfl (rf_190_1 IM75 (gsz hsz (by decide))) (by decide) ?_
              refine g_sipush (n := 226) X dX12_reads_223 (by decide +kernel) rfl ?_
              refine g_iload_n (n := 227) X 2 dX12_reads_226 rfl rfl rfl ?_
              refine g_iadd (n := 228) (z := 24900 + ((8 * a) + v6)) X dX12_reads_227 rfl rfl ?_
              refine g_aload_n (n := 229) X 3 dX12_reads_228 rfl rfl rfl ?_
              refine gg_12_12 (n := 232) (z := v77) X (by decide) (gsz hsz (by decide)) lay_190 kw_6_38 dX12_reads_229 rfl hv77 ?_
              refine g_iast (n := 233) X (by decide) (gsz hsz (by decide)) lay_191 (by omega) (by omega) (by decide) dX12_reads_232 rfl ?_
              refine G.nm (fun M79 e80 => ?_)
              have IM79 : gI sz M79 := gI.set IM75 (rs_LSPOT (k := 24900 + ((8 * a) + v6)) (by omega)).1 (by omega) e80
              have CM79 : gC sz M79 := gC.set CM75 (rs_LSPOT (k := 24900 + ((8 * a) + v6)) (by omega)).2.1 e80
              refine g_aload_n (n := 234) X 3 dX12_reads_233 rfl rfl rfl ?_
              have tM79_12 : M79 190 12 = v77 := ((congrFun (congrFun e80 _) _).trans ((gset_ne (by omega)).trans hv77))
              have tM79_13 : M79 190 13 = v78 := ((congrFun (congrFun e80 _) _).trans ((gset_ne (by omega)).trans hv78))
              have tM79_14 : M79 190 14 = v3 := ((congrFun (congrFun e80 _) _).trans ((gset_ne (by omega)).trans ((gFr.at FM75 rc_190_14.2.2 rfl).trans ((congrFun (congrFun e71 _) _).trans ((gset_ne (by omega)).trans ((congrFun (congrFun e69 _) _).trans ((gset_ne (by omega)).trans ((congrFun (congrFun e66 _) _).trans ((gset_ne (by omega)).trans ((congrFun (congrFun e16 _) _).trans ((gset_ne (by omega)).trans ((congrFun (congrFun e14 _) _).trans ((gset_ne (by omega)).trans ((gFr.at FM9 rc_190_14.2.2 rfl).trans hv3))))))))))))))
              refine g_callVi (n := 237) (As := []) (rest := []) (cs1 := 0) (ss1 := 0) X (s_X12_some2 hsz M79 IM79 CM79 (gW.fr (S := 147578456189303783424) W ⟨sz, hsz, I⟩ (gFr.s (gFr.c (gFr.s (gFr.s (gFr.s (gFr.s (gFr.s (gFr.c gFr.rf FM9 rfl) e14 (rs_LWORD (k := 24720 + ((8 * a) + v6)) (by omega)).2.2 rfl) e16 (rs_LSPOT (k := 24900 + ((8 * a) + v6)) (by omega)).2.2 rfl) e66 rc_190_13.2.2 rfl) e69 rc_190_12.2.2 rfl) e71 (rs_LVALUE (k := 24810 + ((8 * a) + v6)) (by omega)).2.2 rfl) FM75 rfl) e80 (rs_LSPOT (k := 24900 + ((8 * a) + v6)) (by omega)).2.2 rfl) rfl) (by have q1 := ((congrFun (congrFun e80 _) _).trans ((gset_ne (by omega)).trans ((gFr.at FM75 rc_190_15.2.2 rfl).trans ((congrFun (congrFun e71 _) _).trans ((gset_ne (by omega)).trans ((congrFun (congrFun e69 _) _).trans ((gset_ne (by omega)).trans ((congrFun (congrFun e66 _) _).trans ((gset_ne (by omega)).trans ((congrFun (congrFun e16 _) _).trans ((gset_ne (by omega)).trans ((congrFun (congrFun e14 _) _).trans ((gset_ne (by omega)).trans ((gFr.at FM9 rc_190_15.2.2 rfl).trans hv4)))))))))))))); have q2 := ((congrFun (congrFun e80 _) _).trans ((gset_ne (by omega)).trans ((gFr.at FM75 (rs_PERS (k := 1) (by omega)).2.2 rfl).trans ((congrFun (congrFun e71 _) _).trans ((gset_ne (by omega)).trans ((congrFun (congrFun e69 _) _).trans ((gset_ne (by omega)).trans ((congrFun (congrFun e66 _) _).trans ((gset_ne (by omega)).trans ((congrFun (congrFun e16 _) _).trans ((gset_ne (by omega)).trans ((congrFun (congrFun e14 _) _).trans ((gset_ne (by omega)).trans ((gFr.at FM9 (rs_PERS (k := 1) (by omega)).2.2 rfl).trans hv5)))))))))))))); omega) (by have q14 := ((congrFun (congrFun e80 _) _).trans ((gset_ne (by omega)).trans ((gFr.at FM75 rc_190_14.2.2 rfl).trans ((congrFun (congrFun e71 _) _).trans ((gset_ne (by omega)).trans ((congrFun (congrFun e69 _) _).trans ((gset_ne (by omega)).trans ((congrFun (congrFun e66 _) _).trans ((gset_ne (by omega)).trans ((congrFun (congrFun e16 _) _).trans ((gset_ne (by omega)).trans ((congrFun (congrFun e14 _) _).trans ((gset_ne (by omega)).trans ((gFr.at FM9 rc_190_14.2.2 rfl).trans hv3)))))))))))))); omega) (by have q14 := ((congrFun (congrFun e80 _) _).trans ((gset_ne (by omega)).trans ((gFr.at FM75 rc_190_14.2.2 rfl).trans ((congrFun (congrFun e71 _) _).trans ((gset_ne (by omega)).trans ((congrFun (congrFun e69 _) _).trans ((gset_ne (by omega)).trans ((congrFun (congrFun e66 _) _).trans ((gset_ne (by omega)).trans ((congrFun (congrFun e16 _) _).trans ((gset_ne (by omega)).trans ((congrFun (congrFun e14 _) _).trans ((gset_ne (by omega)).trans ((gFr.at FM9 rc_190_14.2.2 rfl).trans hv3)))))))))))))); omega) (by have q12 := ((congrFun (congrFun e80 _) _).trans ((gset_ne (by omega)).trans hv77)); omega)) okX12_some kw_7_46 ⟨kw_7_48, kw_0_63⟩ ⟨rfl, rfl⟩ ⟨Nat.le_of_ble_eq_true rfl, Nat.le_of_ble_eq_true rfl⟩ rfl (by decide) (gsz hsz (by decide)) lay_190 rfl rfl (Nat.le_of_ble_eq_true rfl) ⟨Nat.le_of_ble_eq_true rfl, Nat.le_of_ble_eq_true rfl⟩ rfl rfl dX12_reads_234 rfl (fun v81 M82 P83 => ?_)
              obtain ⟨rv81, IM82, CM82, FM82, xM82, sM82⟩ := P83
              obtain ⟨v84, hv84, rv84⟩ := gRd IM82 (by decide) (gsz hsz (by decide)) rc_190_12.1
              have so := sM82
              rw [show gTx M79 = gTx M from ((gTx.set hsz IM75 e80 (by omega)).trans ((gTx.fr hsz IM70 ((gFr.c gFr.rf FM75 rfl) : gFr 147573952589676412928 M70 M75) rfl).trans ((gTx.set hsz IM68 e71 (by omega)).trans ((gTx.fr hsz IM65 ((gFr.s gFr.rf e69 rc_190_12.2.2 rfl) : gFr 147573952589676412928 M65 M68) rfl).trans ((gTx.fr hsz IM15 ((gFr.s gFr.rf e66 rc_190_13.2.2 rfl) : gFr 147573952589676412928 M15 M65) rfl).trans ((gTx.set hsz IM13 e16 (by omega)).trans ((gTx.set hsz IM9 e14 (by omega)).trans ((gTx.fr hsz I ((gFr.c gFr.rf FM9 rfl) : gFr 147573952589676412928 M M9) rfl).trans (rfl : gTx M = gTx M)))))))))] at so
              try rw [show M79 190 12 = v77 from ((congrFun (congrFun e80 _) _).trans ((gset_ne (by omega)).trans hv77))] at so
              try rw [show M79 190 13 = v78 from ((congrFun (congrFun e80 _) _).trans ((gset_ne (by omega)).trans hv78))] at so
              try rw [show M79 190 14 = v3 from ((congrFun (congrFun e80 _) _).trans ((gset_ne (by omega)).trans ((gFr.at FM75 rc_190_14.2.2 rfl).trans ((congrFun (congrFun e71 _) _).trans ((gset_ne (by omega)).trans ((congrFun (congrFun e69 _) _).trans ((gset_ne (by omega)).trans ((congrFun (congrFun e66 _) _).trans ((gset_ne (by omega)).trans ((congrFun (congrFun e16 _) _).trans ((gset_ne (by omega)).trans ((congrFun (congrFun e14 _) _).trans ((gset_ne (by omega)).trans ((gFr.at FM9 rc_190_14.2.2 rfl).trans hv3))))))))))))))] at so
              try rw [show M82 190 12 = v84 from hv84] at so
              obtain ⟨v85, hv85, rv85⟩ := gRd IM82 (by decide) (gsz hsz (by decide)) rc_190_13.1
              try rw [show M82 190 13 = v85 from hv85] at so
              refine g_istore (n := 239) (L' := [(4, gJ v81), (3, gJ v8), (2, gJ ((8 * a) + v6)), (0, gA n0 190), (1, gJ a)]) X dX12_reads_237 (by decide) rfl rfl ?_
              refine g_aload_n (n := 240) X 3 dX12_reads_239 rfl rfl rfl ?_
              refine gg_12_1 (n := 243) (z := 191) X (by decide) (gsz hsz (by decide)) lay_190 kw_6_27 dX12_reads_240 rfl (rf_190_1 IM82 (gsz hsz (by decide))) (by decide) ?_
              refine g_sipush (n := 246) X dX12_reads_243 (by decide +kernel) rfl ?_
              refine g_iload_n (n := 247) X 4 dX12_reads_246 rfl rfl rfl ?_
              refine g_iadd (n := 248) (z := a + 24700) X dX12_reads_247 (by omega) rfl ?_
              refine g_dup2 (n := 249) X dX12_reads_248 rfl rfl rfl ?_
              refine g_iald2 (n := 250) (v := v6) X (by decide) (gsz hsz (by decide)) lay_191 (by omega) (by omega) (by decide) dX12_reads_249 rfl ((gFr.at FM82 (rs_LCOUNT (k := a + 24700) (by omega)).2.2 rfl).trans ((congrFun (congrFun e80 _) _).trans ((gset_ne (by omega)).trans ((gFr.at FM75 (rs_LCOUNT (k := a + 24700) (by omega)).2.2 rfl).trans ((congrFun (congrFun e71 _) _).trans ((gset_ne (by omega)).trans ((congrFun (congrFun e69 _) _).trans ((gset_ne (by omega)).trans ((congrFun (congrFun e66 _) _).trans ((gset_ne (by omega)).trans ((congrFun (congrFun e16 _) _).trans ((gset_ne (by omega)).trans ((congrFun (congrFun e14 _) _).trans ((gset_ne (by omega)).trans ((gFr.at FM9 (rs_LCOUNT (k := a + 24700) (by omega)).2.2 rfl).trans hv6))))))))))))))) ?_
              refine g_iconst (n := 251) X dX12_reads_250 rfl ?_
              refine g_iadd (n := 252) (z := v6 + 1) X dX12_reads_251 (by omega) rfl ?_
              refine g_iast (n := 253) X (by decide) (gsz hsz (by decide)) lay_191 (by omega) (by omega) (by decide) dX12_reads_252 rfl ?_
              refine G.nm (fun M86 e87 => ?_)
              have IM86 : gI sz M86 := gI.set IM82 (rs_LCOUNT (k := a + 24700) (by omega)).1 (by omega) e87
              have CM86 : gC sz M86 := gC.set CM82 (rs_LCOUNT (k := a + 24700) (by omega)).2.1 e87
              exact hq _ _ _ dX12_reads_253 ⟨IM86, CM86, (gFr.s (gFr.c (gFr.s (gFr.c (gFr.s (gFr.s (gFr.s (gFr.s (gFr.s (gFr.c gFr.rf FM9 rfl) e14 (rs_LWORD (k := 24720 + ((8 * a) + v6)) (by omega)).2.2 rfl) e16 (rs_LSPOT (k := 24900 + ((8 * a) + v6)) (by omega)).2.2 rfl) e66 rc_190_13.2.2 rfl) e69 rc_190_12.2.2 rfl) e71 (rs_LVALUE (k := 24810 + ((8 * a) + v6)) (by omega)).2.2 rfl) FM75 rfl) e80 (rs_LSPOT (k := 24900 + ((8 * a) + v6)) (by omega)).2.2 rfl) FM82 rfl) e87 (rs_LCOUNT (k := a + 24700) (by omega)).2.2 rfl), ⟨(by have zb12 : M 190 12 = v1 := hv1; have ze12 : M86 190 12 = v84 := ((congrFun (congrFun e87 _) _).trans ((gset_ne (by omega)).trans hv84)); have ze13 : M86 190 13 = v85 := ((congrFun (congrFun e87 _) _).trans ((gset_ne (by omega)).trans hv85)); have ze14 : M86 190 14 = v3 := ((congrFun (congrFun e87 _) _).trans ((gset_ne (by omega)).trans (xM82.2.trans ((congrFun (congrFun e80 _) _).trans ((gset_ne (by omega)).trans ((gFr.at FM75 rc_190_14.2.2 rfl).trans ((congrFun (congrFun e71 _) _).trans ((gset_ne (by omega)).trans ((congrFun (congrFun e69 _) _).trans ((gset_ne (by omega)).trans ((congrFun (congrFun e66 _) _).trans ((gset_ne (by omega)).trans ((congrFun (congrFun e16 _) _).trans ((gset_ne (by omega)).trans ((congrFun (congrFun e14 _) _).trans ((gset_ne (by omega)).trans ((gFr.at FM9 rc_190_14.2.2 rfl).trans hv3))))))))))))))))); have zb14 : M 190 14 = v3 := hv3; have zeL : M86 191 (a + 24700) = v6 + 1 := ((congrFun (congrFun e87 _) _).trans (gset_eq _ _ _ _)); have zbL : M 191 (a + 24700) = v6 := hv6; have zbA : M 191 (a + 668) = v7 := hv7; have zeA : M86 191 (a + 668) = v7 := ((congrFun (congrFun e87 _) _).trans ((gset_ne (by omega)).trans ((gFr.at FM82 (rs_ALONG (k := a + 668) (by omega)).2.2 rfl).trans ((congrFun (congrFun e80 _) _).trans ((gset_ne (by omega)).trans ((gFr.at FM75 (rs_ALONG (k := a + 668) (by omega)).2.2 rfl).trans ((congrFun (congrFun e71 _) _).trans ((gset_ne (by omega)).trans ((congrFun (congrFun e69 _) _).trans ((gset_ne (by omega)).trans ((congrFun (congrFun e66 _) _).trans ((gset_ne (by omega)).trans ((congrFun (congrFun e16 _) _).trans ((gset_ne (by omega)).trans ((congrFun (congrFun e14 _) _).trans ((gset_ne (by omega)).trans ((gFr.at FM9 (rs_ALONG (k := a + 668) (by omega)).2.2 rfl).trans hv7))))))))))))))))); have zbL9 : M 191 (a + 24700) = v6 := hv6; omega), ((gTx.set hsz IM82 e87 (by omega)).trans ((gTx.fr hsz IM79 ((gFr.c gFr.rf FM82 rfl) : gFr 2475881517416798299143274496 M79 M82) rfl).trans ((gTx.set hsz IM75 e80 (by omega)).trans ((gTx.fr hsz IM70 ((gFr.c gFr.rf FM75 rfl) : gFr 147573952589676412928 M70 M75) rfl).trans ((gTx.set hsz IM68 e71 (by omega)).trans ((gTx.fr hsz IM65 ((gFr.s gFr.rf e69 rc_190_12.2.2 rfl) : gFr 147573952589676412928 M65 M68) rfl).trans ((gTx.fr hsz IM15 ((gFr.s gFr.rf e66 rc_190_13.2.2 rfl) : gFr 147573952589676412928 M15 M65) rfl).trans ((gTx.set hsz IM13 e16 (by omega)).trans ((gTx.set hsz IM9 e14 (by omega)).trans ((gTx.fr hsz I ((gFr.c gFr.rf FM9 rfl) : gFr 147573952589676412928 M M9) rfl).trans (rfl : gTx M = gTx M))))))))))), (by have zb12 : M 190 12 = v1 := hv1; have ze12 : M86 190 12 = v84 := ((congrFun (congrFun e87 _) _).trans ((gset_ne (by omega)).trans hv84)); have ze13 : M86 190 13 = v85 := ((congrFun (congrFun e87 _) _).trans ((gset_ne (by omega)).trans hv85)); have ze14 : M86 190 14 = v3 := ((congrFun (congrFun e87 _) _).trans ((gset_ne (by omega)).trans (xM82.2.trans ((congrFun (congrFun e80 _) _).trans ((gset_ne (by omega)).trans ((gFr.at FM75 rc_190_14.2.2 rfl).trans ((congrFun (congrFun e71 _) _).trans ((gset_ne (by omega)).trans ((congrFun (congrFun e69 _) _).trans ((gset_ne (by omega)).trans ((congrFun (congrFun e66 _) _).trans ((gset_ne (by omega)).trans ((congrFun (congrFun e16 _) _).trans ((gset_ne (by omega)).trans ((congrFun (congrFun e14 _) _).trans ((gset_ne (by omega)).trans ((gFr.at FM9 rc_190_14.2.2 rfl).trans hv3))))))))))))))))); have zb14 : M 190 14 = v3 := hv3; have zeL : M86 191 (a + 24700) = v6 + 1 := ((congrFun (congrFun e87 _) _).trans (gset_eq _ _ _ _)); have zbL : M 191 (a + 24700) = v6 := hv6; have zbA : M 191 (a + 668) = v7 := hv7; have zeA : M86 191 (a + 668) = v7 := ((congrFun (congrFun e87 _) _).trans ((gset_ne (by omega)).trans ((gFr.at FM82 (rs_ALONG (k := a + 668) (by omega)).2.2 rfl).trans ((congrFun (congrFun e80 _) _).trans ((gset_ne (by omega)).trans ((gFr.at FM75 (rs_ALONG (k := a + 668) (by omega)).2.2 rfl).trans ((congrFun (congrFun e71 _) _).trans ((gset_ne (by omega)).trans ((congrFun (congrFun e69 _) _).trans ((gset_ne (by omega)).trans ((congrFun (congrFun e66 _) _).trans ((gset_ne (by omega)).trans ((congrFun (congrFun e16 _) _).trans ((gset_ne (by omega)).trans ((congrFun (congrFun e14 _) _).trans ((gset_ne (by omega)).trans ((gFr.at FM9 (rs_ALONG (k := a + 668) (by omega)).2.2 rfl).trans hv7))))))))))))))))); have zbL9 : M 191 (a + 24700) = v6 := hv6; rcases owM9.1 with ⟨w1, w2, w3⟩ | ⟨w1, w3⟩; (have vv2 := gCl_of w3 w2.1; have mx := muM75; rcases mx with ⟨m1, m2, m3⟩ | ⟨m1, ⟨m2, m3, m4⟩ | ⟨m2, m3, m4⟩⟩ <;> (first | (have vv3 := gVal_9n (T := gTx M) (w := v8) (p := v11) (by omega) (by omega); exact Or.inl ⟨by omega, by rw [zb12, vv2, gClW_v vv3]; omega⟩) | (have vv3 := gVal_9 (T := gTx M) (w := v8) (p := v11) (v := v58 - 48) (by omega) (by omega) (by omega); have vv4 := gClW_3 vv3 (by omega) (by omega) (by have mm := muM75; rw [show v11 + 1 = v11 + 1 by omega] at mm; omega); exact Or.inl ⟨by omega, by rw [zb12, vv2, vv4]; show -1 - (v11 + 1) = -1 - M86 190 12; omega⟩) | (have vv3 := gVal_9 (T := gTx M) (w := v8) (p := v11) (v := v58 - 48) (by omega) (by omega) (by omega); have vv4 := gClW_2 vv3 (by omega) (by omega) (by have mm := muM75; rw [show v11 + 1 = v11 + 1 by omega] at mm; omega); rcases so with ⟨s1, _⟩ | ⟨s1, s2, s3⟩; (exfalso; omega); rw [show v77 = v11 + 1 + 1 by omega] at s2; rcases s2 [] (by show (0 : Int) = _; omega) rfl with ⟨t1, t2, t3⟩ | ⟨t1, t2⟩; (have t4 := s3 (by omega); rw [gR_stop (by omega) (Or.inr rfl), if_pos rfl] at t3; exact Or.inr ⟨by omega, by rw [zb12, vv2, vv4]; show 0 ≤ gR (gTx M) (v11 + 1 + 1) [] true; omega, by rw [zb12, vv2, vv4]; show gR (gTx M) (v11 + 1 + 1) [] true = M86 190 12; omega, by omega, by rw [zb12, vv2, vv4]; show 0 ≤ (v58 - 48); first | omega | exact vn9, by rw [zbL9, show 8 * a + v6 + 24720 = 24720 + ((8 * a) + v6) by omega, show M86 191 (24720 + ((8 * a) + v6)) = v8 from ((congrFun (congrFun e87 _) _).trans ((gset_ne (by omega)).trans ((gFr.at FM82 (rs_LWORD (k := 24720 + ((8 * a) + v6)) (by omega)).2.2 rfl).trans ((congrFun (congrFun e80 _) _).trans ((gset_ne (by omega)).trans ((gFr.at FM75 (rs_LWORD (k := 24720 + ((8 * a) + v6)) (by omega)).2.2 rfl).trans ((congrFun (congrFun e71 _) _).trans ((gset_ne (by omega)).trans ((congrFun (congrFun e69 _) _).trans ((gset_ne (by omega)).trans ((congrFun (congrFun e66 _) _).trans ((gset_ne (by omega)).trans ((congrFun (congrFun e16 _) _).trans ((gset_ne (by omega)).trans ((congrFun (congrFun e14 _) _).trans (gset_eq _ _ _ _)))))))))))))))), zb12, vv2, vv4], by rw [zbL9, show 8 * a + v6 + 24810 = 24810 + ((8 * a) + v6) by omega, show M86 191 (24810 + ((8 * a) + v6)) = v58 - 48 from ((congrFun (congrFun e87 _) _).trans ((gset_ne (by omega)).trans ((gFr.at FM82 (rs_LVALUE (k := 24810 + ((8 * a) + v6)) (by omega)).2.2 rfl).trans ((congrFun (congrFun e80 _) _).trans ((gset_ne (by omega)).trans ((gFr.at FM75 (rs_LVALUE (k := 24810 + ((8 * a) + v6)) (by omega)).2.2 rfl).trans ((congrFun (congrFun e71 _) _).trans (gset_eq _ _ _ _)))))))), zb12, vv2, vv4]⟩); (exact Or.inl ⟨by omega, by rw [zb12, vv2, vv4]; show gR (gTx M) (v11 + 1 + 1) [] true = -1 - M86 190 12; omega⟩)) | (exfalso; omega))); (exfalso; omega)), ⟨(fun k k0 k1 k2 k3 => by have zbL : M 191 (a + 24700) = v6 := hv6; exact (((congrFun (congrFun e87 _) _).trans (gset_ne (by omega))).trans ((gFr.at FM82 (gG_ac (k := k) (by omega)) rfl).trans (((congrFun (congrFun e80 _) _).trans (gset_ne (by omega))).trans ((gFr.at FM75 (gG_ac (k := k) (by omega)) rfl).trans (((congrFun (congrFun e71 _) _).trans (gset_ne (by omega))).trans (((congrFun (congrFun e69 _) _).trans (gset_ne (by omega))).trans (((congrFun (congrFun e66 _) _).trans (gset_ne (by omega))).trans (((congrFun (congrFun e16 _) _).trans (gset_ne (by omega))).trans (((congrFun (congrFun e14 _) _).trans (gset_ne (by omega))).trans ((gFr.at FM9 (gG_ac (k := k) (by omega)) rfl).trans rfl))))))))))), (fun k k0 k1 => by have zbL : M 191 (a + 24700) = v6 := hv6; exact (((congrFun (congrFun e87 _) _).trans (gset_ne (by omega))).trans ((gFr.at FM82 (rs_AWEEK (k := k) (by omega)).2.2 rfl).trans (((congrFun (congrFun e80 _) _).trans (gset_ne (by omega))).trans ((gFr.at FM75 (rs_AWEEK (k := k) (by omega)).2.2 rfl).trans (((congrFun (congrFun e71 _) _).trans (gset_ne (by omega))).trans (((congrFun (congrFun e69 _) _).trans (gset_ne (by omega))).trans (((congrFun (congrFun e66 _) _).trans (gset_ne (by omega))).trans (((congrFun (congrFun e16 _) _).trans (gset_ne (by omega))).trans (((congrFun (congrFun e14 _) _).trans (gset_ne (by omega))).trans ((gFr.at FM9 (rs_AWEEK (k := k) (by omega)).2.2 rfl).trans rfl))))))))))), (fun k k0 k1 k2 => by have zbL : M 191 (a + 24700) = v6 := hv6; exact (((congrFun (congrFun e87 _) _).trans (gset_ne (by omega))).trans ((gFr.at FM82 (gG_ac (k := k) (by omega)) rfl).trans (((congrFun (congrFun e80 _) _).trans (gset_ne (by omega))).trans ((gFr.at FM75 (gG_ac (k := k) (by omega)) rfl).trans (((congrFun (congrFun e71 _) _).trans (gset_ne (by omega))).trans (((congrFun (congrFun e69 _) _).trans (gset_ne (by omega))).trans (((congrFun (congrFun e66 _) _).trans (gset_ne (by omega))).trans (((congrFun (congrFun e16 _) _).trans (gset_ne (by omega))).trans (((congrFun (congrFun e14 _) _).trans (gset_ne (by omega))).trans ((gFr.at FM9 (gG_ac (k := k) (by omega)) rfl).trans rfl)))))))))))⟩⟩⟩
            · refine g_iconst (n := 140) X dX12_reads_139 rfl ?_
              refine g_goto (tgt := 144) X dX12_reads_140 (by decide) ?_
              refine gp_12_13 (n := 147) X (by decide) (gsz hsz (by decide)) lay_190 kw_6_39 (by omega) dX12_reads_144 rfl ?_
              refine G.nm (fun M88 e89 => ?_)
              have IM88 : gI sz M88 := gI.set IM15 rc_190_13.1 (by omega) e89
              have CM88 : gC sz M88 := gC.set CM15 rc_190_13.2.1 e89
              refine g_aload_n (n := 148) X 3 dX12_reads_147 rfl rfl rfl ?_
              refine g_dup (n := 149) X dX12_reads_148 rfl rfl ?_
              refine gg_12_12 (n := 152) (z := v11) X (by decide) (gsz hsz (by decide)) lay_190 kw_6_38 dX12_reads_149 rfl ((congrFun (congrFun e89 _) _).trans ((gset_ne (by omega)).trans ((congrFun (congrFun e16 _) _).trans ((gset_ne (by omega)).trans ((congrFun (congrFun e14 _) _).trans ((gset_ne (by omega)).trans hv11)))))) ?_
              refine g_aload_n (n := 153) X 3 dX12_reads_152 rfl rfl rfl ?_
              refine gg_12_13 (n := 156) (z := 1) X (by decide) (gsz hsz (by decide)) lay_190 kw_6_39 dX12_reads_153 rfl ((congrFun (congrFun e89 _) _).trans (gset_eq _ _ _ _)) ?_
              refine g_if_eq (n := 159) (tgt := 163) X dX12_reads_156 (by decide) (by omega) rfl (fun c90 => by exfalso; omega) (fun c90 => ?_)
              refine g_iconst (n := 160) X dX12_reads_159 rfl ?_
              refine g_goto (tgt := 164) X dX12_reads_160 (by decide) ?_
              refine g_iadd (n := 165) (z := v11) X dX12_reads_164 (by omega) rfl ?_
              refine gp_12_12 (n := 168) X (by decide) (gsz hsz (by decide)) lay_190 kw_6_38 dX12_reads_165 rfl ?_
              refine G.nm (fun M91 e92 => ?_)
              have IM91 : gI sz M91 := gI.set IM88 rc_190_12.1 (by omega) e92
              have CM91 : gC sz M91 := gC.set CM88 rc_190_12.2.1 e92
              refine g_aload_n (n := 169) X 3 dX12_reads_168 rfl rfl rfl ?_
              refine gg_12_1 (n := 172) (z := 191) X (by decide) (gsz hsz (by decide)) lay_190 kw_6_27 dX12_reads_169 rfl (rf_190_1 IM91 (gsz hsz (by decide))) (by decide) ?_
              refine g_sipush (n := 175) X dX12_reads_172 (by decide +kernel) rfl ?_
              refine g_iload_n (n := 176) X 2 dX12_reads_175 rfl rfl rfl ?_
              refine g_iadd (n := 177) (z := 24810 + ((8 * a) + v6)) X dX12_reads_176 rfl rfl ?_
              refine g_iload (n := 179) X 0 dX12_reads_177 rfl rfl ?_
              refine g_bipush (n := 181) X dX12_reads_179 (by decide +kernel) rfl ?_
              refine g_isub (n := 182) (z := v58 - 48) X dX12_reads_181 (by omega) rfl ?_
              refine g_iast (n := 183) X (by decide) (gsz hsz (by decide)) lay_191 (by omega) (by omega) (by decide) dX12_reads_182 rfl ?_
              refine G.nm (fun M93 e94 => ?_)
              have IM93 : gI sz M93 := gI.set IM91 (rs_LVALUE (k := 24810 + ((8 * a) + v6)) (by omega)).1 (by omega) e94
              have CM93 : gC sz M93 := gC.set CM91 (rs_LVALUE (k := 24810 + ((8 * a) + v6)) (by omega)).2.1 e94
              refine g_goto (tgt := 201) X dX12_reads_183 (by decide) ?_
              refine g_iload_n (n := 202) X 1 dX12_reads_201 rfl rfl rfl ?_
              refine g_bipush (n := 204) X dX12_reads_202 (by decide +kernel) rfl ?_
              refine g_icmp_eq (n := 207) (tgt := 213) X dX12_reads_204 (by decide) (by omega) (by omega) rfl (fun c95 => by exfalso; omega) (fun c95 => ?_)
              refine g_iload_n (n := 208) X 1 dX12_reads_207 rfl rfl rfl ?_
              refine g_bipush (n := 210) X dX12_reads_208 (by decide +kernel) rfl ?_
              refine g_icmp_ne (n := 213) (tgt := 239) X dX12_reads_210 (by decide) (by omega) (by omega) rfl (fun c96 => by exfalso; omega) (fun c96 => ?_)
              refine g_aload_n (n := 214) X 3 dX12_reads_213 rfl rfl rfl ?_
              refine g_bipush (n := 216) X dX12_reads_214 (by decide +kernel) rfl ?_
              have tM93_12 : M93 190 12 = v11 := ((congrFun (congrFun e94 _) _).trans ((gset_ne (by omega)).trans ((congrFun (congrFun e92 _) _).trans (gset_eq _ _ _ _))))
              have tM93_13 : M93 190 13 = 1 := ((congrFun (congrFun e94 _) _).trans ((gset_ne (by omega)).trans ((congrFun (congrFun e92 _) _).trans ((gset_ne (by omega)).trans ((congrFun (congrFun e89 _) _).trans (gset_eq _ _ _ _))))))
              refine g_callVv (n := 219) (As := [gJ 32]) (rest := []) (cs1 := 0) (ss1 := 0) X (s_X12_must2 32 (by omega) hsz IM93 CM93 (by have h1 := ((congrFun (congrFun e94 _) _).trans ((gset_ne (by omega)).trans ((congrFun (congrFun e92 _) _).trans (gset_eq _ _ _ _)))); omega)) okX12_must kw_7_42 ⟨kw_7_44, kw_0_62⟩ ⟨rfl, rfl⟩ ⟨Nat.le_of_ble_eq_true rfl, Nat.le_of_ble_eq_true rfl⟩ rfl (by decide) (gsz hsz (by decide)) lay_190 rfl rfl (Nat.le_of_ble_eq_true rfl) ⟨Nat.le_of_ble_eq_true rfl, Nat.le_of_ble_eq_true rfl⟩ rfl rfl dX12_reads_216 rfl (fun M98 P99 => ?_)
              obtain ⟨IM98, CM98, FM98, xM98⟩ := P99
              have muM98 := xM98
              rw [show gTx M93 = gTx M from ((gTx.set hsz IM91 e94 (by omega)).trans ((gTx.fr hsz IM88 ((gFr.s gFr.rf e92 rc_190_12.2.2 rfl) : gFr 147573952589676412928 M88 M91) rfl).trans ((gTx.fr hsz IM15 ((gFr.s gFr.rf e89 rc_190_13.2.2 rfl) : gFr 147573952589676412928 M15 M88) rfl).trans ((gTx.set hsz IM13 e16 (by omega)).trans ((gTx.set hsz IM9 e14 (by omega)).trans ((gTx.fr hsz I ((gFr.c gFr.rf FM9 rfl) : gFr 147573952589676412928 M M9) rfl).trans (rfl : gTx M = gTx M)))))))] at muM98
              try rw [show M93 190 12 = v11 from ((congrFun (congrFun e94 _) _).trans ((gset_ne (by omega)).trans ((congrFun (congrFun e92 _) _).trans (gset_eq _ _ _ _))))] at muM98
              try rw [show M93 190 13 = 1 from ((congrFun (congrFun e94 _) _).trans ((gset_ne (by omega)).trans ((congrFun (congrFun e92 _) _).trans ((gset_ne (by omega)).trans ((congrFun (congrFun e89 _) _).trans (gset_eq _ _ _ _))))))] at muM98
              obtain ⟨v100, hv100, rv100⟩ := gRd IM98 (by decide) (gsz hsz (by decide)) rc_190_12.1
              try rw [show M98 190 12 = v100 from hv100] at muM98
              obtain ⟨v101, hv101, rv101⟩ := gRd IM98 (by decide) (gsz hsz (by decide)) rc_190_13.1
              try rw [show M98 190 13 = v101 from hv101] at muM98
              refine g_aload_n (n := 220) X 3 dX12_reads_219 rfl rfl rfl ?_
              refine gg_12_1 (n := 223) (z := 191) X (by decide) (gsz hsz (by decide)) lay_190 kw_6_27 dX12_reads_220 rfl (rf_190_1 IM98 (gsz hsz (by decide))) (by decide) ?_
              refine g_sipush (n := 226) X dX12_reads_223 (by decide +kernel) rfl ?_
              refine g_iload_n (n := 227) X 2 dX12_reads_226 rfl rfl rfl ?_
              refine g_iadd (n := 228) (z := 24900 + ((8 * a) + v6)) X dX12_reads_227 rfl rfl ?_
              refine g_aload_n (n := 229) X 3 dX12_reads_228 rfl rfl rfl ?_
              refine gg_12_12 (n := 232) (z := v100) X (by decide) (gsz hsz (by decide)) lay_190 kw_6_38 dX12_reads_229 rfl hv100 ?_
              refine g_iast (n := 233) X (by decide) (gsz hsz (by decide)) lay_191 (by omega) (by omega) (by decide) dX12_reads_232 rfl ?_
              refine G.nm (fun M102 e103 => ?_)
              have IM102 : gI sz M102 := gI.set IM98 (rs_LSPOT (k := 24900 + ((8 * a) + v6)) (by omega)).1 (by omega) e103
              have CM102 : gC sz M102 := gC.set CM98 (rs_LSPOT (k := 24900 + ((8 * a) + v6)) (by omega)).2.1 e103
              refine g_aload_n (n := 234) X 3 dX12_reads_233 rfl rfl rfl ?_
              have tM102_12 : M102 190 12 = v100 := ((congrFun (congrFun e103 _) _).trans ((gset_ne (by omega)).trans hv100))
              have tM102_13 : M102 190 13 = v101 := ((congrFun (congrFun e103 _) _).trans ((gset_ne (by omega)).trans hv101))
              have tM102_14 : M102 190 14 = v3 := ((congrFun (congrFun e103 _) _).trans ((gset_ne (by omega)).trans ((gFr.at FM98 rc_190_14.2.2 rfl).trans ((congrFun (congrFun e94 _) _).trans ((gset_ne (by omega)).trans ((congrFun (congrFun e92 _) _).trans ((gset_ne (by omega)).trans ((congrFun (congrFun e89 _) _).trans ((gset_ne (by omega)).trans ((congrFun (congrFun e16 _) _).trans ((gset_ne (by omega)).trans ((congrFun (congrFun e14 _) _).trans ((gset_ne (by omega)).trans ((gFr.at FM9 rc_190_14.2.2 rfl).trans hv3))))))))))))))
              refine g_callVi (n := 237) (As := []) (rest := []) (cs1 := 0) (ss1 := 0) X (s_X12_some2 hsz M102 IM102 CM102 (gW.fr (S := 147578456189303783424) W ⟨sz, hsz, I⟩ (gFr.s (gFr.c (gFr.s (gFr.s (gFr.s (gFr.s (gFr.s (gFr.c gFr.rf FM9 rfl) e14 (rs_LWORD (k := 24720 + ((8 * a) + v6)) (by omega)).2.2 rfl) e16 (rs_LSPOT (k := 24900 + ((8 * a) + v6)) (by omega)).2.2 rfl) e89 rc_190_13.2.2 rfl) e92 rc_190_12.2.2 rfl) e94 (rs_LVALUE (k := 24810 + ((8 * a) + v6)) (by omega)).2.2 rfl) FM98 rfl) e103 (rs_LSPOT (k := 24900 + ((8 * a) + v6)) (by omega)).2.2 rfl) rfl) (by have q1 := ((congrFun (congrFun e103 _) _).trans ((gset_ne (by omega)).trans ((gFr.at FM98 rc_190_15.2.2 rfl).trans ((congrFun (congrFun e94 _) _).trans ((gset_ne (by omega)).trans ((congrFun (congrFun e92 _) _).trans ((gset_ne (by omega)).trans ((congrFun (congrFun e89 _) _).trans ((gset_ne (by omega)).trans ((congrFun (congrFun e16 _) _).trans ((gset_ne (by omega)).trans ((congrFun (congrFun e14 _) _).trans ((gset_ne (by omega)).trans ((gFr.at FM9 rc_190_15.2.2 rfl).trans hv4)))))))))))))); have q2 := ((congrFun (congrFun e103 _) _).trans ((gset_ne (by omega)).trans ((gFr.at FM98 (rs_PERS (k := 1) (by omega)).2.2 rfl).trans ((congrFun (congrFun e94 _) _).trans ((gset_ne (by omega)).trans ((congrFun (congrFun e92 _) _).trans ((gset_ne (by omega)).trans ((congrFun (congrFun e89 _) _).trans ((gset_ne (by omega)).trans ((congrFun (congrFun e16 _) _).trans ((gset_ne (by omega)).trans ((congrFun (congrFun e14 _) _).trans ((gset_ne (by omega)).trans ((gFr.at FM9 (rs_PERS (k := 1) (by omega)).2.2 rfl).trans hv5)))))))))))))); omega) (by have q14 := ((congrFun (congrFun e103 _) _).trans ((gset_ne (by omega)).trans ((gFr.at FM98 rc_190_14.2.2 rfl).trans ((congrFun (congrFun e94 _) _).trans ((gset_ne (by omega)).trans ((congrFun (congrFun e92 _) _).trans ((gset_ne (by omega)).trans ((congrFun (congrFun e89 _) _).trans ((gset_ne (by omega)).trans ((congrFun (congrFun e16 _) _).trans ((gset_ne (by omega)).trans ((congrFun (congrFun e14 _) _).trans ((gset_ne (by omega)).trans ((gFr.at FM9 rc_190_14.2.2 rfl).trans hv3)))))))))))))); omega) (by have q14 := ((congrFun (congrFun e103 _) _).trans ((gset_ne (by omega)).trans ((gFr.at FM98 rc_190_14.2.2 rfl).trans ((congrFun (congrFun e94 _) _).trans ((gset_ne (by omega)).trans ((congrFun (congrFun e92 _) _).trans ((gset_ne (by omega)).trans ((congrFun (congrFun e89 _) _).trans ((gset_ne (by omega)).trans ((congrFun (congrFun e16 _) _).trans ((gset_ne (by omega)).trans ((congrFun (congrFun e14 _) _).trans ((gset_ne (by omega)).trans ((gFr.at FM9 rc_190_14.2.2 rfl).trans hv3)))))))))))))); omega) (by have q12 := ((congrFun (congrFun e103 _) _).trans ((gset_ne (by omega)).trans hv100)); omega)) okX12_some kw_7_46 ⟨kw_7_48, kw_0_63⟩ ⟨rfl, rfl⟩ ⟨Nat.le_of_ble_eq_true rfl, Nat.le_of_ble_eq_true rfl⟩ rfl (by decide) (gsz hsz (by decide)) lay_190 rfl rfl (Nat.le_of_ble_eq_true rfl) ⟨Nat.le_of_ble_eq_true rfl, Nat.le_of_ble_eq_true rfl⟩ rfl rfl dX12_reads_234 rfl (fun v104 M105 P106 => ?_)
              obtain ⟨rv104, IM105, CM105, FM105, xM105, sM105⟩ := P106
              obtain ⟨v107, hv107, rv107⟩ := gRd IM105 (by decide) (gsz hsz (by decide)) rc_190_12.1
              have so := sM105
              rw [show gTx M102 = gTx M from ((gTx.set hsz IM98 e103 (by omega)).trans ((gTx.fr hsz IM93 ((gFr.c gFr.rf FM98 rfl) : gFr 147573952589676412928 M93 M98) rfl).trans ((gTx.set hsz IM91 e94 (by omega)).trans ((gTx.fr hsz IM88 ((gFr.s gFr.rf e92 rc_190_12.2.2 rfl) : gFr 147573952589676412928 M88 M91) rfl).trans ((gTx.fr hsz IM15 ((gFr.s gFr.rf e89 rc_190_13.2.2 rfl) : gFr 147573952589676412928 M15 M88) rfl).trans ((gTx.set hsz IM13 e16 (by omega)).trans ((gTx.set hsz IM9 e14 (by omega)).trans ((gTx.fr hsz I ((gFr.c gFr.rf FM9 rfl) : gFr 147573952589676412928 M M9) rfl).trans (rfl : gTx M = gTx M)))))))))] at so
              try rw [show M102 190 12 = v100 from ((congrFun (congrFun e103 _) _).trans ((gset_ne (by omega)).trans hv100))] at so
              try rw [show M102 190 13 = v101 from ((congrFun (congrFun e103 _) _).trans ((gset_ne (by omega)).trans hv101))] at so
              try rw [show M102 190 14 = v3 from ((congrFun (congrFun e103 _) _).trans ((gset_ne (by omega)).trans ((gFr.at FM98 rc_190_14.2.2 rfl).trans ((congrFun (congrFun e94 _) _).trans ((gset_ne (by omega)).trans ((congrFun (congrFun e92 _) _).trans ((gset_ne (by omega)).trans ((congrFun (congrFun e89 _) _).trans ((gset_ne (by omega)).trans ((congrFun (congrFun e16 _) _).trans ((gset_ne (by omega)).trans ((congrFun (congrFun e14 _) _).trans ((gset_ne (by omega)).trans ((gFr.at FM9 rc_190_14.2.2 rfl).trans hv3))))))))))))))] at so
              try rw [show M105 190 12 = v107 from hv107] at so
              obtain ⟨v108, hv108, rv108⟩ := gRd IM105 (by decide) (gsz hsz (by decide)) rc_190_13.1
              try rw [show M105 190 13 = v108 from hv108] at so
              refine g_istore (n := 239) (L' := [(4, gJ v104), (3, gJ v8), (2, gJ ((8 * a) + v6)), (0, gA n0 190), (1, gJ a)]) X dX12_reads_237 (by decide) rfl rfl ?_
              refine g_aload_n (n := 240) X 3 dX12_reads_239 rfl rfl rfl ?_
              refine gg_12_1 (n := 243) (z := 191) X (by decide) (gsz hsz (by decide)) lay_190 kw_6_27 dX12_reads_240 rfl (rf_190_1 IM105 (gsz hsz (by decide))) (by decide) ?_
              refine g_sipush (n := 246) X dX12_reads_243 (by decide +kernel) rfl ?_
              refine g_iload_n (n := 247) X 4 dX12_reads_246 rfl rfl rfl ?_
              refine g_iadd (n := 248) (z := a + 24700) X dX12_reads_247 (by omega) rfl ?_
              refine g_dup2 (n := 249) X dX12_reads_248 rfl rfl rfl ?_
              refine g_iald2 (n := 250) (v := v6) X (by decide) (gsz hsz (by decide)) lay_191 (by omega) (by omega) (by decide) dX12_reads_249 rfl ((gFr.at FM105 (rs_LCOUNT (k := a + 24700) (by omega)).2.2 rfl).trans ((congrFun (congrFun e103 _) _).trans ((gset_ne (by omega)).trans ((gFr.at FM98 (rs_LCOUNT (k := a + 24700) (by omega)).2.2 rfl).trans ((congrFun (congrFun e94 _) _).trans ((gset_ne (by omega)).trans ((congrFun (congrFun e92 _) _).trans ((gset_ne (by omega)).trans ((congrFun (congrFun e89 _) _).trans ((gset_ne (by omega)).trans ((congrFun (congrFun e16 _) _).trans ((gset_ne (by omega)).trans ((congrFun (congrFun e14 _) _).trans ((gset_ne (by omega)).trans ((gFr.at FM9 (rs_LCOUNT (k := a + 24700) (by omega)).2.2 rfl).trans hv6))))))))))))))) ?_
              refine g_iconst (n := 251) X dX12_reads_250 rfl ?_
              refine g_iadd (n := 252) (z := v6 + 1) X dX12_reads_251 (by omega) rfl ?_
              refine g_iast (n := 253) X (by decide) (gsz hsz (by decide)) lay_191 (by omega) (by omega) (by decide) dX12_reads_252 rfl ?_
              refine G.nm (fun M109 e110 => ?_)
              have IM109 : gI sz M109 := gI.set IM105 (rs_LCOUNT (k := a + 24700) (by omega)).1 (by omega) e110
              have CM109 : gC sz M109 := gC.set CM105 (rs_LCOUNT (k := a + 24700) (by omega)).2.1 e110
              exact hq _ _ _ dX12_reads_253 ⟨IM109, CM109, (gFr.s (gFr.c (gFr.s (gFr.c (gFr.s (gFr.s (gFr.s (gFr.s (gFr.s (gFr.c gFr.rf FM9 rfl) e14 (rs_LWORD (k := 24720 + ((8 * a) + v6)) (by omega)).2.2 rfl) e16 (rs_LSPOT (k := 24900 + ((8 * a) + v6)) (by omega)).2.2 rfl) e89 rc_190_13.2.2 rfl) e92 rc_190_12.2.2 rfl) e94 (rs_LVALUE (k := 24810 + ((8 * a) + v6)) (by omega)).2.2 rfl) FM98 rfl) e103 (rs_LSPOT (k := 24900 + ((8 * a) + v6)) (by omega)).2.2 rfl) FM105 rfl) e110 (rs_LCOUNT (k := a + 24700) (by omega)).2.2 rfl), ⟨(by have zb12 : M 190 12 = v1 := hv1; have ze12 : M109 190 12 = v107 := ((congrFun (congrFun e110 _) _).trans ((gset_ne (by omega)).trans hv107)); have ze13 : M109 190 13 = v108 := ((congrFun (congrFun e110 _) _).trans ((gset_ne (by omega)).trans hv108)); have ze14 : M109 190 14 = v3 := ((congrFun (congrFun e110 _) _).trans ((gset_ne (by omega)).trans (xM105.2.trans ((congrFun (congrFun e103 _) _).trans ((gset_ne (by omega)).trans ((gFr.at FM98 rc_190_14.2.2 rfl).trans ((congrFun (congrFun e94 _) _).trans ((gset_ne (by omega)).trans ((congrFun (congrFun e92 _) _).trans ((gset_ne (by omega)).trans ((congrFun (congrFun e89 _) _).trans ((gset_ne (by omega)).trans ((congrFun (congrFun e16 _) _).trans ((gset_ne (by omega)).trans ((congrFun (congrFun e14 _) _).trans ((gset_ne (by omega)).trans ((gFr.at FM9 rc_190_14.2.2 rfl).trans hv3))))))))))))))))); have zb14 : M 190 14 = v3 := hv3; have zeL : M109 191 (a + 24700) = v6 + 1 := ((congrFun (congrFun e110 _) _).trans (gset_eq _ _ _ _)); have zbL : M 191 (a + 24700) = v6 := hv6; have zbA : M 191 (a + 668) = v7 := hv7; have zeA : M109 191 (a + 668) = v7 := ((congrFun (congrFun e110 _) _).trans ((gset_ne (by omega)).trans ((gFr.at FM105 (rs_ALONG (k := a + 668) (by omega)).2.2 rfl).trans ((congrFun (congrFun e103 _) _).trans ((gset_ne (by omega)).trans ((gFr.at FM98 (rs_ALONG (k := a + 668) (by omega)).2.2 rfl).trans ((congrFun (congrFun e94 _) _).trans ((gset_ne (by omega)).trans ((congrFun (congrFun e92 _) _).trans ((gset_ne (by omega)).trans ((congrFun (congrFun e89 _) _).trans ((gset_ne (by omega)).trans ((congrFun (congrFun e16 _) _).trans ((gset_ne (by omega)).trans ((congrFun (congrFun e14 _) _).trans ((gset_ne (by omega)).trans ((gFr.at FM9 (rs_ALONG (k := a + 668) (by omega)).2.2 rfl).trans hv7))))))))))))))))); have zbL9 : M 191 (a + 24700) = v6 := hv6; omega), ((gTx.set hsz IM105 e110 (by omega)).trans ((gTx.fr hsz IM102 ((gFr.c gFr.rf FM105 rfl) : gFr 2475881517416798299143274496 M102 M105) rfl).trans ((gTx.set hsz IM98 e103 (by omega)).trans ((gTx.fr hsz IM93 ((gFr.c gFr.rf FM98 rfl) : gFr 147573952589676412928 M93 M98) rfl).trans ((gTx.set hsz IM91 e94 (by omega)).trans ((gTx.fr hsz IM88 ((gFr.s gFr.rf e92 rc_190_12.2.2 rfl) : gFr 147573952589676412928 M88 M91) rfl).trans ((gTx.fr hsz IM15 ((gFr.s gFr.rf e89 rc_190_13.2.2 rfl) : gFr 147573952589676412928 M15 M88) rfl).trans ((gTx.set hsz IM13 e16 (by omega)).trans ((gTx.set hsz IM9 e14 (by omega)).trans ((gTx.fr hsz I ((gFr.c gFr.rf FM9 rfl) : gFr 147573952589676412928 M M9) rfl).trans (rfl : gTx M = gTx M))))))))))), (by have zb12 : M 190 12 = v1 := hv1; have ze12 : M109 190 12 = v107 := ((congrFun (congrFun e110 _) _).trans ((gset_ne (by omega)).trans hv107)); have ze13 : M109 190 13 = v108 := ((congrFun (congrFun e110 _) _).trans ((gset_ne (by omega)).trans hv108)); have ze14 : M109 190 14 = v3 := ((congrFun (congrFun e110 _) _).trans ((gset_ne (by omega)).trans (xM105.2.trans ((congrFun (congrFun e103 _) _).trans ((gset_ne (by omega)).trans ((gFr.at FM98 rc_190_14.2.2 rfl).trans ((congrFun (congrFun e94 _) _).trans ((gset_ne (by omega)).trans ((congrFun (congrFun e92 _) _).trans ((gset_ne (by omega)).trans ((congrFun (congrFun e89 _) _).trans ((gset_ne (by omega)).trans ((congrFun (congrFun e16 _) _).trans ((gset_ne (by omega)).trans ((congrFun (congrFun e14 _) _).trans ((gset_ne (by omega)).trans ((gFr.at FM9 rc_190_14.2.2 rfl).trans hv3))))))))))))))))); have zb14 : M 190 14 = v3 := hv3; have zeL : M109 191 (a + 24700) = v6 + 1 := ((congrFun (congrFun e110 _) _).trans (gset_eq _ _ _ _)); have zbL : M 191 (a + 24700) = v6 := hv6; have zbA : M 191 (a + 668) = v7 := hv7; have zeA : M109 191 (a + 668) = v7 := ((congrFun (congrFun e110 _) _).trans ((gset_ne (by omega)).trans ((gFr.at FM105 (rs_ALONG (k := a + 668) (by omega)).2.2 rfl).trans ((congrFun (congrFun e103 _) _).trans ((gset_ne (by omega)).trans ((gFr.at FM98 (rs_ALONG (k := a + 668) (by omega)).2.2 rfl).trans ((congrFun (congrFun e94 _) _).trans ((gset_ne (by omega)).trans ((congrFun (congrFun e92 _) _).trans ((gset_ne (by omega)).trans ((congrFun (congrFun e89 _) _).trans ((gset_ne (by omega)).trans ((congrFun (congrFun e16 _) _).trans ((gset_ne (by omega)).trans ((congrFun (congrFun e14 _) _).trans ((gset_ne (by omega)).trans ((gFr.at FM9 (rs_ALONG (k := a + 668) (by omega)).2.2 rfl).trans hv7))))))))))))))))); have zbL9 : M 191 (a + 24700) = v6 := hv6; rcases owM9.1 with ⟨w1, w2, w3⟩ | ⟨w1, w3⟩; (have vv2 := gCl_of w3 w2.1; have mx := muM98; rcases mx with ⟨m1, m2, m3⟩ | ⟨m1, ⟨m2, m3, m4⟩ | ⟨m2, m3, m4⟩⟩ <;> (first | (have vv3 := gVal_9n (T := gTx M) (w := v8) (p := v11) (by omega) (by omega); exact Or.inl ⟨by omega, by rw [zb12, vv2, gClW_v vv3]; omega⟩) | (have vv3 := gVal_9 (T := gTx M) (w := v8) (p := v11) (v := v58 - 48) (by omega) (by omega) (by omega); have vv4 := gClW_3 vv3 (by omega) (by omega) (by have mm := muM98; rw [show v11 = v11 + 1 by omega] at mm; omega); exact Or.inl ⟨by omega, by rw [zb12, vv2, vv4]; show -1 - (v11 + 1) = -1 - M109 190 12; omega⟩) | (have vv3 := gVal_9 (T := gTx M) (w := v8) (p := v11) (v := v58 - 48) (by omega) (by omega) (by omega); have vv4 := gClW_2 vv3 (by omega) (by omega) (by have mm := muM98; rw [show v11 = v11 + 1 by omega] at mm; omega); rcases so with ⟨s1, _⟩ | ⟨s1, s2, s3⟩; (exfalso; omega); rw [show v100 = v11 + 1 + 1 by omega] at s2; rcases s2 [] (by show (0 : Int) = _; omega) rfl with ⟨t1, t2, t3⟩ | ⟨t1, t2⟩; (have t4 := s3 (by omega); rw [gR_stop (by omega) (Or.inr rfl), if_pos rfl] at t3; exact Or.inr ⟨by omega, by rw [zb12, vv2, vv4]; show 0 ≤ gR (gTx M) (v11 + 1 + 1) [] true; omega, by rw [zb12, vv2, vv4]; show gR (gTx M) (v11 + 1 + 1) [] true = M109 190 12; omega, by omega, by rw [zb12, vv2, vv4]; show 0 ≤ (v58 - 48); first | omega | exact vn9, by rw [zbL9, show 8 * a + v6 + 24720 = 24720 + ((8 * a) + v6) by omega, show M109 191 (24720 + ((8 * a) + v6)) = v8 from ((congrFun (congrFun e110 _) _).trans ((gset_ne (by omega)).trans ((gFr.at FM105 (rs_LWORD (k := 24720 + ((8 * a) + v6)) (by omega)).2.2 rfl).trans ((congrFun (congrFun e103 _) _).trans ((gset_ne (by omega)).trans ((gFr.at FM98 (rs_LWORD (k := 24720 + ((8 * a) + v6)) (by omega)).2.2 rfl).trans ((congrFun (congrFun e94 _) _).trans ((gset_ne (by omega)).trans ((congrFun (congrFun e92 _) _).trans ((gset_ne (by omega)).trans ((congrFun (congrFun e89 _) _).trans ((gset_ne (by omega)).trans ((congrFun (congrFun e16 _) _).trans ((gset_ne (by omega)).trans ((congrFun (congrFun e14 _) _).trans (gset_eq _ _ _ _)))))))))))))))), zb12, vv2, vv4], by rw [zbL9, show 8 * a + v6 + 24810 = 24810 + ((8 * a) + v6) by omega, show M109 191 (24810 + ((8 * a) + v6)) = v58 - 48 from ((congrFun (congrFun e110 _) _).trans ((gset_ne (by omega)).trans ((gFr.at FM105 (rs_LVALUE (k := 24810 + ((8 * a) + v6)) (by omega)).2.2 rfl).trans ((congrFun (congrFun e103 _) _).trans ((gset_ne (by omega)).trans ((gFr.at FM98 (rs_LVALUE (k := 24810 + ((8 * a) + v6)) (by omega)).2.2 rfl).trans ((congrFun (congrFun e94 _) _).trans (gset_eq _ _ _ _)))))))), zb12, vv2, vv4]⟩); (exact Or.inl ⟨by omega, by rw [zb12, vv2, vv4]; show gR (gTx M) (v11 + 1 + 1) [] true = -1 - M109 190 12; omega⟩)) | (exfalso; omega))); (exfalso; omega)), ⟨(fun k k0 k1 k2 k3 => by have zbL : M 191 (a + 24700) = v6 := hv6; exact (((congrFun (congrFun e110 _) _).trans (gset_ne (by omega))).trans ((gFr.at FM105 (gG_ac (k := k) (by omega)) rfl).trans (((congrFun (congrFun e103 _) _).trans (gset_ne (by omega))).trans ((gFr.at FM98 (gG_ac (k := k) (by omega)) rfl).trans (((congrFun (congrFun e94 _) _).trans (gset_ne (by omega))).trans (((congrFun (congrFun e92 _) _).trans (gset_ne (by omega))).trans (((congrFun (congrFun e89 _) _).trans (gset_ne (by omega))).trans (((congrFun (congrFun e16 _) _).trans (gset_ne (by omega))).trans (((congrFun (congrFun e14 _) _).trans (gset_ne (by omega))).trans ((gFr.at FM9 (gG_ac (k := k) (by omega)) rfl).trans rfl))))))))))), (fun k k0 k1 => by have zbL : M 191 (a + 24700) = v6 := hv6; exact (((congrFun (congrFun e110 _) _).trans (gset_ne (by omega))).trans ((gFr.at FM105 (rs_AWEEK (k := k) (by omega)).2.2 rfl).trans (((congrFun (congrFun e103 _) _).trans (gset_ne (by omega))).trans ((gFr.at FM98 (rs_AWEEK (k := k) (by omega)).2.2 rfl).trans (((congrFun (congrFun e94 _) _).trans (gset_ne (by omega))).trans (((congrFun (congrFun e92 _) _).trans (gset_ne (by omega))).trans (((congrFun (congrFun e89 _) _).trans (gset_ne (by omega))).trans (((congrFun (congrFun e16 _) _).trans (gset_ne (by omega))).trans (((congrFun (congrFun e14 _) _).trans (gset_ne (by omega))).trans ((gFr.at FM9 (rs_AWEEK (k := k) (by omega)).2.2 rfl).trans rfl))))))))))), (fun k k0 k1 k2 => by have zbL : M 191 (a + 24700) = v6 := hv6; exact (((congrFun (congrFun e110 _) _).trans (gset_ne (by omega))).trans ((gFr.at FM105 (gG_ac (k := k) (by omega)) rfl).trans (((congrFun (congrFun e103 _) _).trans (gset_ne (by omega))).trans ((gFr.at FM98 (gG_ac (k := k) (by omega)) rfl).trans (((congrFun (congrFun e94 _) _).trans (gset_ne (by omega))).trans (((congrFun (congrFun e92 _) _).trans (gset_ne (by omega))).trans (((congrFun (congrFun e89 _) _).trans (gset_ne (by omega))).trans (((congrFun (congrFun e16 _) _).trans (gset_ne (by omega))).trans (((congrFun (congrFun e14 _) _).trans (gset_ne (by omega))).trans ((gFr.at FM9 (gG_ac (k := k) (by omega)) rfl).trans rfl)))))))))))⟩⟩⟩
        · refine g_aload_n (n := 92) X 2 dX12_reads_91 rfl rfl rfl ?_
          refine gg_12_1 (n := 95) (z := 191) X (by decide) (gsz hsz (by decide)) lay_190 kw_6_27 dX12_reads_92 rfl (rf_190_1 IM15 (gsz hsz (by decide))) (by decide) ?_
          refine g_sipush (n := 98) X dX12_reads_95 (by decide +kernel) rfl ?_
          refine g_iload_n (n := 99) X 1 dX12_reads_98 rfl rfl rfl ?_
          refine g_iadd (n := 100) (z := 24810 + ((8 * a) + v6)) X dX12_reads_99 rfl rfl ?_
          refine g_aload_n (n := 101) X 2 dX12_reads_100 rfl rfl rfl ?_
          refine g_bipush (n := 103) X dX12_reads_101 (by decide +kernel) rfl ?_
          refine g_bipush (n := 105) X dX12_reads_103 (by decide +kernel) rfl ?_
          refine g_bipush (n := 107) X dX12_reads_105 (by decide +kernel) rfl ?_
          have tM15_12 : M15 190 12 = v11 := ((congrFun (congrFun e16 _) _).trans ((gset_ne (by omega)).trans ((congrFun (congrFun e14 _) _).trans ((gset_ne (by omega)).trans hv11))))
          have tM15_13 : M15 190 13 = v12 := ((congrFun (congrFun e16 _) _).trans ((gset_ne (by omega)).trans ((congrFun (congrFun e14 _) _).trans ((gset_ne (by omega)).trans hv12))))
          refine g_callVi (n := 110) (As := [gJ 114, gJ 104, gJ 101]) (rest := [gJ (24810 + ((8 * a) + v6)), gA n0 191]) (cs1 := 0) (ss1 := 0) X (e_X12_letter 114 (by omega) 104 (by omega) 101 (by omega) hsz IM15 CM15 (by have h1 := ((congrFun (congrFun e16 _) _).trans ((gset_ne (by omega)).trans ((congrFun (congrFun e14 _) _).trans ((gset_ne (by omega)).trans hv11)))); omega) (by have h1 := ((congrFun (congrFun e16 _) _).trans ((gset_ne (by omega)).trans ((congrFun (congrFun e14 _) _).trans ((gset_ne (by omega)).trans hv12)))); omega)) okX12_letter kw_7_30 ⟨kw_7_32, kw_0_59⟩ ⟨rfl, rfl⟩ ⟨Nat.le_of_ble_eq_true rfl, Nat.le_of_ble_eq_true rfl⟩ rfl (by decide) (gsz hsz (by decide)) lay_190 rfl rfl (Nat.le_of_ble_eq_true rfl) ⟨Nat.le_of_ble_eq_true rfl, Nat.le_of_ble_eq_true rfl⟩ rfl rfl dX12_reads_107 rfl (fun v111 M112 P113 => ?_)
          obtain ⟨rv111, IM112, CM112, FM112, xM112⟩ := P113
          have lfM112 := xM112
          rw [show gTx M15 = gTx M from ((gTx.set hsz IM13 e16 (by omega)).trans ((gTx.set hsz IM9 e14 (by omega)).trans ((gTx.fr hsz I ((gFr.c gFr.rf FM9 rfl) : gFr 147573952589676412928 M M9) rfl).trans (rfl : gTx M = gTx M))))] at lfM112
          try rw [show M15 190 12 = v11 from ((congrFun (congrFun e16 _) _).trans ((gset_ne (by omega)).trans ((congrFun (congrFun e14 _) _).trans ((gset_ne (by omega)).trans hv11))))] at lfM112
          try rw [show M15 190 13 = v12 from ((congrFun (congrFun e16 _) _).trans ((gset_ne (by omega)).trans ((congrFun (congrFun e14 _) _).trans ((gset_ne (by omega)).trans hv12))))] at lfM112
          obtain ⟨v114, hv114, rv114⟩ := gRd IM112 (by decide) (gsz hsz (by decide)) rc_190_12.1
          try rw [show M112 190 12 = v114 from hv114] at lfM112
          obtain ⟨v115, hv115, rv115⟩ := gRd IM112 (by decide) (gsz hsz (by decide)) rc_190_13.1
          try rw [show M112 190 13 = v115 from hv115] at lfM112
          refine g_iast (n := 111) X (by decide) (gsz hsz (by decide)) lay_191 (by omega) (by omega) (by decide) dX12_reads_110 rfl ?_
          refine G.nm (fun M116 e117 => ?_)
          have IM116 : gI sz M116 := gI.set IM112 (rs_LVALUE (k := 24810 + ((8 * a) + v6)) (by omega)).1 (by omega) e117
          have CM116 : gC sz M116 := gC.set CM112 (rs_LVALUE (k := 24810 + ((8 * a) + v6)) (by omega)).2.1 e117
          refine g_goto (tgt := 201) X dX12_reads_111 (by decide) ?_
          refine g_iload_n (n := 202) X 0 dX12_reads_201 rfl rfl rfl ?_
          refine g_bipush (n := 204) X dX12_reads_202 (by decide +kernel) rfl ?_
          refine g_icmp_eq (n := 207) (tgt := 213) X dX12_reads_204 (by decide) (by omega) (by omega) rfl (fun c118 => by exfalso; omega) (fun c118 => ?_)
          refine g_iload_n (n := 208) X 0 dX12_reads_207 rfl rfl rfl ?_
          refine g_bipush (n := 210) X dX12_reads_208 (by decide +kernel) rfl ?_
          refine g_icmp_ne (n := 213) (tgt := 239) X dX12_reads_210 (by decide) (by omega) (by omega) rfl (fun c119 => ?_) (fun c119 => by exfalso; omega)
          refine g_aload_n (n := 240) X 2 dX12_reads_239 rfl rfl rfl ?_
          refine gg_12_1 (n := 243) (z := 191) X (by decide) (gsz hsz (by decide)) lay_190 kw_6_27 dX12_reads_240 rfl (rf_190_1 IM116 (gsz hsz (by decide))) (by decide) ?_
          refine g_sipush (n := 246) X dX12_reads_243 (by decide +kernel) rfl ?_
          refine g_iload_n (n := 247) X 3 dX12_reads_246 rfl rfl rfl ?_
          refine g_iadd (n := 248) (z := a + 24700) X dX12_reads_247 (by omega) rfl ?_
          refine g_dup2 (n := 249) X dX12_reads_248 rfl rfl rfl ?_
          refine g_iald2 (n := 250) (v := v6) X (by decide) (gsz hsz (by decide)) lay_191 (by omega) (by omega) (by decide) dX12_reads_249 rfl ((congrFun (congrFun e117 _) _).trans ((gset_ne (by omega)).trans ((gFr.at FM112 (rs_LCOUNT (k := a + 24700) (by omega)).2.2 rfl).trans ((congrFun (congrFun e16 _) _).trans ((gset_ne (by omega)).trans ((congrFun (congrFun e14 _) _).trans ((gset_ne (by omega)).trans ((gFr.at FM9 (rs_LCOUNT (k := a + 24700) (by omega)).2.2 rfl).trans hv6)))))))) ?_
          refine g_iconst (n := 251) X dX12_reads_250 rfl ?_
          refine g_iadd (n := 252) (z := v6 + 1) X dX12_reads_251 (by omega) rfl ?_
          refine g_iast (n := 253) X (by decide) (gsz hsz (by decide)) lay_191 (by omega) (by omega) (by decide) dX12_reads_252 rfl ?_
          refine G.nm (fun M120 e121 => ?_)
          have IM120 : gI sz M120 := gI.set IM116 (rs_LCOUNT (k := a + 24700) (by omega)).1 (by omega) e121
          have CM120 : gC sz M120 := gC.set CM116 (rs_LCOUNT (k := a + 24700) (by omega)).2.1 e121
          exact hq _ _ _ dX12_reads_253 ⟨IM120, CM120, (gFr.s (gFr.s (gFr.c (gFr.s (gFr.s (gFr.c gFr.rf FM9 rfl) e14 (rs_LWORD (k := 24720 + ((8 * a) + v6)) (by omega)).2.2 rfl) e16 (rs_LSPOT (k := 24900 + ((8 * a) + v6)) (by omega)).2.2 rfl) FM112 rfl) e117 (rs_LVALUE (k := 24810 + ((8 * a) + v6)) (by omega)).2.2 rfl) e121 (rs_LCOUNT (k := a + 24700) (by omega)).2.2 rfl), ⟨(by have zb12 : M 190 12 = v1 := hv1; have ze12 : M120 190 12 = v114 := ((congrFun (congrFun e121 _) _).trans ((gset_ne (by omega)).trans ((congrFun (congrFun e117 _) _).trans ((gset_ne (by omega)).trans hv114)))); have ze13 : M120 190 13 = v115 := ((congrFun (congrFun e121 _) _).trans ((gset_ne (by omega)).trans ((congrFun (congrFun e117 _) _).trans ((gset_ne (by omega)).trans hv115)))); have ze14 : M120 190 14 = v3 := ((congrFun (congrFun e121 _) _).trans ((gset_ne (by omega)).trans ((congrFun (congrFun e117 _) _).trans ((gset_ne (by omega)).trans ((gFr.at FM112 rc_190_14.2.2 rfl).trans ((congrFun (congrFun e16 _) _).trans ((gset_ne (by omega)).trans ((congrFun (congrFun e14 _) _).trans ((gset_ne (by omega)).trans ((gFr.at FM9 rc_190_14.2.2 rfl).trans hv3)))))))))); have zb14 : M 190 14 = v3 := hv3; have zeL : M120 191 (a + 24700) = v6 + 1 := ((congrFun (congrFun e121 _) _).trans (gset_eq _ _ _ _)); have zbL : M 191 (a + 24700) = v6 := hv6; have zbA : M 191 (a + 668) = v7 := hv7; have zeA : M120 191 (a + 668) = v7 := ((congrFun (congrFun e121 _) _).trans ((gset_ne (by omega)).trans ((congrFun (congrFun e117 _) _).trans ((gset_ne (by omega)).trans ((gFr.at FM112 (rs_ALONG (k := a + 668) (by omega)).2.2 rfl).trans ((congrFun (congrFun e16 _) _).trans ((gset_ne (by omega)).trans ((congrFun (congrFun e14 _) _).trans ((gset_ne (by omega)).trans ((gFr.at FM9 (rs_ALONG (k := a + 668) (by omega)).2.2 rfl).trans hv7)))))))))); have zbL9 : M 191 (a + 24700) = v6 := hv6; omega), ((gTx.set hsz IM116 e121 (by omega)).trans ((gTx.set hsz IM112 e117 (by omega)).trans ((gTx.fr hsz IM15 ((gFr.c gFr.rf FM112 rfl) : gFr 147573952589676412928 M15 M112) rfl).trans ((gTx.set hsz IM13 e16 (by omega)).trans ((gTx.set hsz IM9 e14 (by omega)).trans ((gTx.fr hsz I ((gFr.c gFr.rf FM9 rfl) : gFr 147573952589676412928 M M9) rfl).trans (rfl : gTx M = gTx M))))))), (by have zb12 : M 190 12 = v1 := hv1; have ze12 : M120 190 12 = v114 := ((congrFun (congrFun e121 _) _).trans ((gset_ne (by omega)).trans ((congrFun (congrFun e117 _) _).trans ((gset_ne (by omega)).trans hv114)))); have ze13 : M120 190 13 = v115 := ((congrFun (congrFun e121 _) _).trans ((gset_ne (by omega)).trans ((congrFun (congrFun e117 _) _).trans ((gset_ne (by omega)).trans hv115)))); have ze14 : M120 190 14 = v3 := ((congrFun (congrFun e121 _) _).trans ((gset_ne (by omega)).trans ((congrFun (congrFun e117 _) _).trans ((gset_ne (by omega)).trans ((gFr.at FM112 rc_190_14.2.2 rfl).trans ((congrFun (congrFun e16 _) _).trans ((gset_ne (by omega)).trans ((congrFun (congrFun e14 _) _).trans ((gset_ne (by omega)).trans ((gFr.at FM9 rc_190_14.2.2 rfl).trans hv3)))))))))); have zb14 : M 190 14 = v3 := hv3; have zeL : M120 191 (a + 24700) = v6 + 1 := ((congrFun (congrFun e121 _) _).trans (gset_eq _ _ _ _)); have zbL : M 191 (a + 24700) = v6 := hv6; have zbA : M 191 (a + 668) = v7 := hv7; have zeA : M120 191 (a + 668) = v7 := ((congrFun (congrFun e121 _) _).trans ((gset_ne (by omega)).trans ((congrFun (congrFun e117 _) _).trans ((gset_ne (by omega)).trans ((gFr.at FM112 (rs_ALONG (k := a + 668) (by omega)).2.2 rfl).trans ((congrFun (congrFun e16 _) _).trans ((gset_ne (by omega)).trans ((congrFun (congrFun e14 _) _).trans ((gset_ne (by omega)).trans ((gFr.at FM9 (rs_ALONG (k := a + 668) (by omega)).2.2 rfl).trans hv7)))))))))); have zbL9 : M 191 (a + 24700) = v6 := hv6; rcases owM9.1 with ⟨w1, w2, w3⟩ | ⟨w1, w3⟩; (have vv2 := gCl_of w3 w2.1; have lx := lfM112.1; rcases lx with ⟨l1, l2, l3⟩ | ⟨l1, l2, l3⟩ <;> (first | (have vv3 := gVal_7n (T := gTx M) (w := v8) (p := v11) (by omega) (by omega) (by omega) (by omega); exact Or.inl ⟨by omega, by rw [zb12, vv2, gClW_v vv3]; omega⟩) | (have vv3 := gVal_7 (T := gTx M) (w := v8) (p := v11) (v := v111) (by omega) (by omega); have vv4 := gClW_1 vv3 (by omega) (by omega); exact Or.inr ⟨by omega, by rw [zb12, vv2, vv4]; show 0 ≤ v11 + 1; omega, by rw [zb12, vv2, vv4]; show v11 + 1 = M120 190 12; omega, by omega, by rw [zb12, vv2, vv4]; show 0 ≤ v111; first | omega | exact vn9, by rw [zbL9, show 8 * a + v6 + 24720 = 24720 + ((8 * a) + v6) by omega, show M120 191 (24720 + ((8 * a) + v6)) = v8 from ((congrFun (congrFun e121 _) _).trans ((gset_ne (by omega)).trans ((congrFun (congrFun e117 _) _).trans ((gset_ne (by omega)).trans ((gFr.at FM112 (rs_LWORD (k := 24720 + ((8 * a) + v6)) (by omega)).2.2 rfl).trans ((congrFun (congrFun e16 _) _).trans ((gset_ne (by omega)).trans ((congrFun (congrFun e14 _) _).trans (gset_eq _ _ _ _))))))))), zb12, vv2, vv4], by rw [zbL9, show 8 * a + v6 + 24810 = 24810 + ((8 * a) + v6) by omega, show M120 191 (24810 + ((8 * a) + v6)) = v111 from ((congrFun (congrFun e121 _) _).trans ((gset_ne (by omega)).trans ((congrFun (congrFun e117 _) _).trans (gset_eq _ _ _ _)))), zb12, vv2, vv4]⟩) | (exfalso; omega))); (exfalso; omega)), ⟨(fun k k0 k1 k2 k3 => by have zbL : M 191 (a + 24700) = v6 := hv6; exact (((congrFun (congrFun e121 _) _).trans (gset_ne (by omega))).trans (((congrFun (congrFun e117 _) _).trans (gset_ne (by omega))).trans ((gFr.at FM112 (gG_ac (k := k) (by omega)) rfl).trans (((congrFun (congrFun e16 _) _).trans (gset_ne (by omega))).trans (((congrFun (congrFun e14 _) _).trans (gset_ne (by omega))).trans ((gFr.at FM9 (gG_ac (k := k) (by omega)) rfl).trans rfl))))))), (fun k k0 k1 => by have zbL : M 191 (a + 24700) = v6 := hv6; exact (((congrFun (congrFun e121 _) _).trans (gset_ne (by omega))).trans (((congrFun (congrFun e117 _) _).trans (gset_ne (by omega))).trans ((gFr.at FM112 (rs_AWEEK (k := k) (by omega)).2.2 rfl).trans (((congrFun (congrFun e16 _) _).trans (gset_ne (by omega))).trans (((congrFun (congrFun e14 _) _).trans (gset_ne (by omega))).trans ((gFr.at FM9 (rs_AWEEK (k := k) (by omega)).2.2 rfl).trans rfl))))))), (fun k k0 k1 k2 => by have zbL : M 191 (a + 24700) = v6 := hv6; exact (((congrFun (congrFun e121 _) _).trans (gset_ne (by omega))).trans (((congrFun (congrFun e117 _) _).trans (gset_ne (by omega))).trans ((gFr.at FM112 (gG_ac (k := k) (by omega)) rfl).trans (((congrFun (congrFun e16 _) _).trans (gset_ne (by omega))).trans (((congrFun (congrFun e14 _) _).trans (gset_ne (by omega))).trans ((gFr.at FM9 (gG_ac (k := k) (by omega)) rfl).trans rfl)))))))⟩⟩⟩
      · refine g_aload_n (n := 63) X 2 dX12_reads_62 rfl rfl rfl ?_
        refine gg_12_1 (n := 66) (z := 191) X (by decide) (gsz hsz (by decide)) lay_190 kw_6_27 dX12_reads_63 rfl (rf_190_1 IM15 (gsz hsz (by decide))) (by decide) ?_
        refine g_sipush (n := 69) X dX12_reads_66 (by decide +kernel) rfl ?_
        refine g_iload_n (n := 70) X 1 dX12_reads_69 rfl rfl rfl ?_
        refine g_iadd (n := 71) (z := 24810 + ((8 * a) + v6)) X dX12_reads_70 rfl rfl ?_
        refine g_aload_n (n := 72) X 2 dX12_reads_71 rfl rfl rfl ?_
        refine g_bipush (n := 74) X dX12_reads_72 (by decide +kernel) rfl ?_
        refine g_bipush (n := 76) X dX12_reads_74 (by decide +kernel) rfl ?_
        refine g_bipush (n := 78) X dX12_reads_76 (by decide +kernel) rfl ?_
        have tM15_12 : M15 190 12 = v11 := ((congrFun (congrFun e16 _) _).trans ((gset_ne (by omega)).trans ((congrFun (congrFun e14 _) _).trans ((gset_ne (by omega)).trans hv11))))
        have tM15_13 : M15 190 13 = v12 := ((congrFun (congrFun e16 _) _).trans ((gset_ne (by omega)).trans ((congrFun (congrFun e14 _) _).trans ((gset_ne (by omega)).trans hv12))))
        refine g_callVi (n := 81) (As := [gJ 110, gJ 121, gJ 121]) (rest := [gJ (24810 + ((8 * a) + v6)), gA n0 191]) (cs1 := 0) (ss1 := 0) X (e_X12_letter 110 (by omega) 121 (by omega) 121 (by omega) hsz IM15 CM15 (by have h1 := ((congrFun (congrFun e16 _) _).trans ((gset_ne (by omega)).trans ((congrFun (congrFun e14 _) _).trans ((gset_ne (by omega)).trans hv11)))); omega) (by have h1 := ((congrFun (congrFun e16 _) _).trans ((gset_ne (by omega)).trans ((congrFun (congrFun e14 _) _).trans ((gset_ne (by omega)).trans hv12)))); omega)) okX12_letter kw_7_30 ⟨kw_7_32, kw_0_59⟩ ⟨rfl, rfl⟩ ⟨Nat.le_of_ble_eq_true rfl, Nat.le_of_ble_eq_true rfl⟩ rfl (by decide) (gsz hsz (by decide)) lay_190 rfl rfl (Nat.le_of_ble_eq_true rfl) ⟨Nat.le_of_ble_eq_true rfl, Nat.le_of_ble_eq_true rfl⟩ rfl rfl dX12_reads_78 rfl (fun v122 M123 P124 => ?_)
        obtain ⟨rv122, IM123, CM123, FM123, xM123⟩ := P124
        have leM123 := xM123
        rw [show gTx M15 = gTx M from ((gTx.set hsz IM13 e16 (by omega)).trans ((gTx.set hsz IM9 e14 (by omega)).trans ((gTx.fr hsz I ((gFr.c gFr.rf FM9 rfl) : gFr 147573952589676412928 M M9) rfl).trans (rfl : gTx M = gTx M))))] at leM123
        try rw [show M15 190 12 = v11 from ((congrFun (congrFun e16 _) _).trans ((gset_ne (by omega)).trans ((congrFun (congrFun e14 _) _).trans ((gset_ne (by omega)).trans hv11))))] at leM123
        try rw [show M15 190 13 = v12 from ((congrFun (congrFun e16 _) _).trans ((gset_ne (by omega)).trans ((congrFun (congrFun e14 _) _).trans ((gset_ne (by omega)).trans hv12))))] at leM123
        obtain ⟨v125, hv125, rv125⟩ := gRd IM123 (by decide) (gsz hsz (by decide)) rc_190_12.1
        try rw [show M123 190 12 = v125 from hv125] at leM123
        obtain ⟨v126, hv126, rv126⟩ := gRd IM123 (by decide) (gsz hsz (by decide)) rc_190_13.1
        try rw [show M123 190 13 = v126 from hv126] at leM123
        refine g_iast (n := 82) X (by decide) (gsz hsz (by decide)) lay_191 (by omega) (by omega) (by decide) dX12_reads_81 rfl ?_
        refine G.nm (fun M127 e128 => ?_)
        have IM127 : gI sz M127 := gI.set IM123 (rs_LVALUE (k := 24810 + ((8 * a) + v6)) (by omega)).1 (by omega) e128
        have CM127 : gC sz M127 := gC.set CM123 (rs_LVALUE (k := 24810 + ((8 * a) + v6)) (by omega)).2.1 e128
        refine g_goto (tgt := 201) X dX12_reads_82 (by decide) ?_
        refine g_iload_n (n := 202) X 0 dX12_reads_201 rfl rfl rfl ?_
        refine g_bipush (n := 204) X dX12_reads_202 (by decide +kernel) rfl ?_
        refine g_icmp_eq (n := 207) (tgt := 213) X dX12_reads_204 (by decide) (by omega) (by omega) rfl (fun c129 => by exfalso; omega) (fun c129 => ?_)
        refine g_iload_n (n := 208) X 0 dX12_reads_207 rfl rfl rfl ?_
        refine g_bipush (n := 210) X dX12_reads_208 (by decide +kernel) rfl ?_
        refine g_icmp_ne (n := 213) (tgt := 239) X dX12_reads_210 (by decide) (by omega) (by omega) rfl (fun c130 => ?_) (fun c130 => by exfalso; omega)
        refine g_aload_n (n := 240) X 2 dX12_reads_239 rfl rfl rfl ?_
        refine gg_12_1 (n := 243) (z := 191) X (by decide) (gsz hsz (by decide)) lay_190 kw_6_27 dX12_reads_240 rfl (rf_190_1 IM127 (gsz hsz (by decide))) (by decide) ?_
        refine g_sipush (n := 246) X dX12_reads_243 (by decide +kernel) rfl ?_
        refine g_iload_n (n := 247) X 3 dX12_reads_246 rfl rfl rfl ?_
        refine g_iadd (n := 248) (z := a + 24700) X dX12_reads_247 (by omega) rfl ?_
        refine g_dup2 (n := 249) X dX12_reads_248 rfl rfl rfl ?_
        refine g_iald2 (n := 250) (v := v6) X (by decide) (gsz hsz (by decide)) lay_191 (by omega) (by omega) (by decide) dX12_reads_249 rfl ((congrFun (congrFun e128 _) _).trans ((gset_ne (by omega)).trans ((gFr.at FM123 (rs_LCOUNT (k := a + 24700) (by omega)).2.2 rfl).trans ((congrFun (congrFun e16 _) _).trans ((gset_ne (by omega)).trans ((congrFun (congrFun e14 _) _).trans ((gset_ne (by omega)).trans ((gFr.at FM9 (rs_LCOUNT (k := a + 24700) (by omega)).2.2 rfl).trans hv6)))))))) ?_
        refine g_iconst (n := 251) X dX12_reads_250 rfl ?_
        refine g_iadd (n := 252) (z := v6 + 1) X dX12_reads_251 (by omega) rfl ?_
        refine g_iast (n := 253) X (by decide) (gsz hsz (by decide)) lay_191 (by omega) (by omega) (by decide) dX12_reads_252 rfl ?_
        refine G.nm (fun M131 e132 => ?_)
        have IM131 : gI sz M131 := gI.set IM127 (rs_LCOUNT (k := a + 24700) (by omega)).1 (by omega) e132
        have CM131 : gC sz M131 := gC.set CM127 (rs_LCOUNT (k := a + 24700) (by omega)).2.1 e132
        exact hq _ _ _ dX12_reads_253 ⟨IM131, CM131, (gFr.s (gFr.s (gFr.c (gFr.s (gFr.s (gFr.c gFr.rf FM9 rfl) e14 (rs_LWORD (k := 24720 + ((8 * a) + v6)) (by omega)).2.2 rfl) e16 (rs_LSPOT (k := 24900 + ((8 * a) + v6)) (by omega)).2.2 rfl) FM123 rfl) e128 (rs_LVALUE (k := 24810 + ((8 * a) + v6)) (by omega)).2.2 rfl) e132 (rs_LCOUNT (k := a + 24700) (by omega)).2.2 rfl), ⟨(by have zb12 : M 190 12 = v1 := hv1; have ze12 : M131 190 12 = v125 := ((congrFun (congrFun e132 _) _).trans ((gset_ne (by omega)).trans ((congrFun (congrFun e128 _) _).trans ((gset_ne (by omega)).trans hv125)))); have ze13 : M131 190 13 = v126 := ((congrFun (congrFun e132 _) _).trans ((gset_ne (by omega)).trans ((congrFun (congrFun e128 _) _).trans ((gset_ne (by omega)).trans hv126)))); have ze14 : M131 190 14 = v3 := ((congrFun (congrFun e132 _) _).trans ((gset_ne (by omega)).trans ((congrFun (congrFun e128 _) _).trans ((gset_ne (by omega)).trans ((gFr.at FM123 rc_190_14.2.2 rfl).trans ((congrFun (congrFun e16 _) _).trans ((gset_ne (by omega)).trans ((congrFun (congrFun e14 _) _).trans ((gset_ne (by omega)).trans ((gFr.at FM9 rc_190_14.2.2 rfl).trans hv3)))))))))); have zb14 : M 190 14 = v3 := hv3; have zeL : M131 191 (a + 24700) = v6 + 1 := ((congrFun (congrFun e132 _) _).trans (gset_eq _ _ _ _)); have zbL : M 191 (a + 24700) = v6 := hv6; have zbA : M 191 (a + 668) = v7 := hv7; have zeA : M131 191 (a + 668) = v7 := ((congrFun (congrFun e132 _) _).trans ((gset_ne (by omega)).trans ((congrFun (congrFun e128 _) _).trans ((gset_ne (by omega)).trans ((gFr.at FM123 (rs_ALONG (k := a + 668) (by omega)).2.2 rfl).trans ((congrFun (congrFun e16 _) _).trans ((gset_ne (by omega)).trans ((congrFun (congrFun e14 _) _).trans ((gset_ne (by omega)).trans ((gFr.at FM9 (rs_ALONG (k := a + 668) (by omega)).2.2 rfl).trans hv7)))))))))); have zbL9 : M 191 (a + 24700) = v6 := hv6; omega), ((gTx.set hsz IM127 e132 (by omega)).trans ((gTx.set hsz IM123 e128 (by omega)).trans ((gTx.fr hsz IM15 ((gFr.c gFr.rf FM123 rfl) : gFr 147573952589676412928 M15 M123) rfl).trans ((gTx.set hsz IM13 e16 (by omega)).trans ((gTx.set hsz IM9 e14 (by omega)).trans ((gTx.fr hsz I ((gFr.c gFr.rf FM9 rfl) : gFr 147573952589676412928 M M9) rfl).trans (rfl : gTx M = gTx M))))))), (by have zb12 : M 190 12 = v1 := hv1; have ze12 : M131 190 12 = v125 := ((congrFun (congrFun e132 _) _).trans ((gset_ne (by omega)).trans ((congrFun (congrFun e128 _) _).trans ((gset_ne (by omega)).trans hv125)))); have ze13 : M131 190 13 = v126 := ((congrFun (congrFun e132 _) _).trans ((gset_ne (by omega)).trans ((congrFun (congrFun e128 _) _).trans ((gset_ne (by omega)).trans hv126)))); have ze14 : M131 190 14 = v3 := ((congrFun (congrFun e132 _) _).trans ((gset_ne (by omega)).trans ((congrFun (congrFun e128 _) _).trans ((gset_ne (by omega)).trans ((gFr.at FM123 rc_190_14.2.2 rfl).trans ((congrFun (congrFun e16 _) _).trans ((gset_ne (by omega)).trans ((congrFun (congrFun e14 _) _).trans ((gset_ne (by omega)).trans ((gFr.at FM9 rc_190_14.2.2 rfl).trans hv3)))))))))); have zb14 : M 190 14 = v3 := hv3; have zeL : M131 191 (a + 24700) = v6 + 1 := ((congrFun (congrFun e132 _) _).trans (gset_eq _ _ _ _)); have zbL : M 191 (a + 24700) = v6 := hv6; have zbA : M 191 (a + 668) = v7 := hv7; have zeA : M131 191 (a + 668) = v7 := ((congrFun (congrFun e132 _) _).trans ((gset_ne (by omega)).trans ((congrFun (congrFun e128 _) _).trans ((gset_ne (by omega)).trans ((gFr.at FM123 (rs_ALONG (k := a + 668) (by omega)).2.2 rfl).trans ((congrFun (congrFun e16 _) _).trans ((gset_ne (by omega)).trans ((congrFun (congrFun e14 _) _).trans ((gset_ne (by omega)).trans ((gFr.at FM9 (rs_ALONG (k := a + 668) (by omega)).2.2 rfl).trans hv7)))))))))); have zbL9 : M 191 (a + 24700) = v6 := hv6; rcases owM9.1 with ⟨w1, w2, w3⟩ | ⟨w1, w3⟩; (have vv2 := gCl_of w3 w2.1; have lx := leM123.1; rcases lx with ⟨l1, l2, l3⟩ | ⟨l1, l2, l3⟩ <;> (first | (have vv3 := gVal_5n (T := gTx M) (w := v8) (p := v11) (by omega) (by omega) (by omega); exact Or.inl ⟨by omega, by rw [zb12, vv2, gClW_v vv3]; omega⟩) | (have vv3 := gVal_5 (T := gTx M) (w := v8) (p := v11) (v := v122) (by omega) (by omega); have vv4 := gClW_1 vv3 (by omega) (by omega); exact Or.inr ⟨by omega, by rw [zb12, vv2, vv4]; show 0 ≤ v11 + 1; omega, by rw [zb12, vv2, vv4]; show v11 + 1 = M131 190 12; omega, by omega, by rw [zb12, vv2, vv4]; show 0 ≤ v122; first | omega | exact vn9, by rw [zbL9, show 8 * a + v6 + 24720 = 24720 + ((8 * a) + v6) by omega, show M131 191 (24720 + ((8 * a) + v6)) = v8 from ((congrFun (congrFun e132 _) _).trans ((gset_ne (by omega)).trans ((congrFun (congrFun e128 _) _).trans ((gset_ne (by omega)).trans ((gFr.at FM123 (rs_LWORD (k := 24720 + ((8 * a) + v6)) (by omega)).2.2 rfl).trans ((congrFun (congrFun e16 _) _).trans ((gset_ne (by omega)).trans ((congrFun (congrFun e14 _) _).trans (gset_eq _ _ _ _))))))))), zb12, vv2, vv4], by rw [zbL9, show 8 * a + v6 + 24810 = 24810 + ((8 * a) + v6) by omega, show M131 191 (24810 + ((8 * a) + v6)) = v122 from ((congrFun (congrFun e132 _) _).trans ((gset_ne (by omega)).trans ((congrFun (congrFun e128 _) _).trans (gset_eq _ _ _ _)))), zb12, vv2, vv4]⟩) | (exfalso; omega))); (exfalso; omega)), ⟨(fun k k0 k1 k2 k3 => by have zbL : M 191 (a + 24700) = v6 := hv6; exact (((congrFun (congrFun e132 _) _).trans (gset_ne (by omega))).trans (((congrFun (congrFun e128 _) _).trans (gset_ne (by omega))).trans ((gFr.at FM123 (gG_ac (k := k) (by omega)) rfl).trans (((congrFun (congrFun e16 _) _).trans (gset_ne (by omega))).trans (((congrFun (congrFun e14 _) _).trans (gset_ne (by omega))).trans ((gFr.at FM9 (gG_ac (k := k) (by omega)) rfl).trans rfl))))))), (fun k k0 k1 => by have zbL : M 191 (a + 24700) = v6 := hv6; exact (((congrFun (congrFun e132 _) _).trans (gset_ne (by omega))).trans (((congrFun (congrFun e128 _) _).trans (gset_ne (by omega))).trans ((gFr.at FM123 (rs_AWEEK (k := k) (by omega)).2.2 rfl).trans (((congrFun (congrFun e16 _) _).trans (gset_ne (by omega))).trans (((congrFun (congrFun e14 _) _).trans (gset_ne (by omega))).trans ((gFr.at FM9 (rs_AWEEK (k := k) (by omega)).2.2 rfl).trans rfl))))))), (fun k k0 k1 k2 => by have zbL : M 191 (a + 24700) = v6 := hv6; exact (((congrFun (congrFun e132 _) _).trans (gset_ne (by omega))).trans (((congrFun (congrFun e128 _) _).trans (gset_ne (by omega))).trans ((gFr.at FM123 (gG_ac (k := k) (by omega)) rfl).trans (((congrFun (congrFun e16 _) _).trans (gset_ne (by omega))).trans (((congrFun (congrFun e14 _) _).trans (gset_ne (by omega))).trans ((gFr.at FM9 (gG_ac (k := k) (by omega)) rfl).trans rfl)))))))⟩⟩⟩
  · exact hq _ _ _ dX12_reads_50 ⟨IM15, CM15, (gFr.s (gFr.s (gFr.c gFr.rf FM9 rfl) e14 (rs_LWORD (k := 24720 + ((8 * a) + v6)) (by omega)).2.2 rfl) e16 (rs_LSPOT (k := 24900 + ((8 * a) + v6)) (by omega)).2.2 rfl), ⟨(by have zb12 : M 190 12 = v1 := hv1; have ze12 : M15 190 12 = v11 := ((congrFun (congrFun e16 _) _).trans ((gset_ne (by omega)).trans ((congrFun (congrFun e14 _) _).trans ((gset_ne (by omega)).trans hv11)))); have ze13 : M15 190 13 = v12 := ((congrFun (congrFun e16 _) _).trans ((gset_ne (by omega)).trans ((congrFun (congrFun e14 _) _).trans ((gset_ne (by omega)).trans hv12)))); have ze14 : M15 190 14 = v3 := ((congrFun (congrFun e16 _) _).trans ((gset_ne (by omega)).trans ((congrFun (congrFun e14 _) _).trans ((gset_ne (by omega)).trans ((gFr.at FM9 rc_190_14.2.2 rfl).trans hv3))))); have zb14 : M 190 14 = v3 := hv3; have zbA : M 191 (a + 668) = v7 := hv7; have zeA : M15 191 (a + 668) = v7 := ((congrFun (congrFun e16 _) _).trans ((gset_ne (by omega)).trans ((congrFun (congrFun e14 _) _).trans ((gset_ne (by omega)).trans ((gFr.at FM9 (rs_ALONG (k := a + 668) (by omega)).2.2 rfl).trans hv7))))); have zbL9 : M 191 (a + 24700) = v6 := hv6; omega), ((gTx.set hsz IM13 e16 (by omega)).trans ((gTx.set hsz IM9 e14 (by omega)).trans ((gTx.fr hsz I ((gFr.c gFr.rf FM9 rfl) : gFr 147573952589676412928 M M9) rfl).trans (rfl : gTx M = gTx M)))), (by have zb12 : M 190 12 = v1 := hv1; have ze12 : M15 190 12 = v11 := ((congrFun (congrFun e16 _) _).trans ((gset_ne (by omega)).trans ((congrFun (congrFun e14 _) _).trans ((gset_ne (by omega)).trans hv11)))); have ze13 : M15 190 13 = v12 := ((congrFun (congrFun e16 _) _).trans ((gset_ne (by omega)).trans ((congrFun (congrFun e14 _) _).trans ((gset_ne (by omega)).trans hv12)))); have ze14 : M15 190 14 = v3 := ((congrFun (congrFun e16 _) _).trans ((gset_ne (by omega)).trans ((congrFun (congrFun e14 _) _).trans ((gset_ne (by omega)).trans ((gFr.at FM9 rc_190_14.2.2 rfl).trans hv3))))); have zb14 : M 190 14 = v3 := hv3; have zbA : M 191 (a + 668) = v7 := hv7; have zeA : M15 191 (a + 668) = v7 := ((congrFun (congrFun e16 _) _).trans ((gset_ne (by omega)).trans ((congrFun (congrFun e14 _) _).trans ((gset_ne (by omega)).trans ((gFr.at FM9 (rs_ALONG (k := a + 668) (by omega)).2.2 rfl).trans hv7))))); have zbL9 : M 191 (a + 24700) = v6 := hv6; rcases owM9.1 with ⟨w1, w2, w3⟩ | ⟨w1, w3⟩; (exfalso; omega); (exact Or.inl ⟨by omega, by rw [zb12, gCl_no w3]; omega⟩)), ⟨(fun k k0 k1 k2 k3 => by have zbL : M 191 (a + 24700) = v6 := hv6; exact (((congrFun (congrFun e16 _) _).trans (gset_ne (by omega))).trans (((congrFun (congrFun e14 _) _).trans (gset_ne (by omega))).trans ((gFr.at FM9 (gG_ac (k := k) (by omega)) rfl).trans rfl)))), (fun k k0 k1 => by have zbL : M 191 (a + 24700) = v6 := hv6; exact (((congrFun (congrFun e16 _) _).trans (gset_ne (by omega))).trans (((congrFun (congrFun e14 _) _).trans (gset_ne (by omega))).trans ((gFr.at FM9 (rs_AWEEK (k := k) (by omega)).2.2 rfl).trans rfl)))), (fun k k0 k1 k2 => by have zbL : M 191 (a + 24700) = v6 := hv6; exact (((congrFun (congrFun e16 _) _).trans (gset_ne (by omega))).trans (((congrFun (congrFun e14 _) _).trans (gset_ne (by omega))).trans ((gFr.at FM9 (gG_ac (k := k) (by omega)) rfl).trans rfl))))⟩⟩⟩
abbrev R_e_X12_readsAct : Room := { frames := 132, cells := 0, slots := 0, locals := 5606 }
set_option maxRecDepth 100000 in
set_option maxHeartbeats 4000000 in
theorem e_X12_readsAct {l : Launch} {n0 : Nat} {D : va_G} {cA : Nat → ClassId} {M : gM} (a : Int) (r_a : 0 ≤ a ∧ a ≤ 10) (b : Int) (r_b : 0 ≤ b ∧ b ≤ 300) {sz : Nat} (hsz : 206 ≤ sz) (I : gI sz M) (C : gC sz M) (W : gW 191 M)  : Met l yX12_readsAct (gWsOf yX12_readsAct cX12_readsAct 4 (Option.some Jvm.ClassFile.FieldType.boolean)) R_e_X12_readsAct (gPc n0 D cA [gA n0 190, gJ a, gJ b] M sz) (gQi n0 D cA sz (fun z M1 => (0 ≤ z ∧ z ≤ 1) ∧ gI sz M1 ∧ gC sz M1 ∧ gFr 2475884173752466105132122112 M M1 ∧ ((((z = 1 ∧ gAct (gTm M) (M 191 10) 8 0 = -1) ∨ (z = 0 ∧ gAct (gTm M) (M 191 10) 8 0 = M1 190 12 ∧ 0 ≤ M1 190 12)) ∧ M1 191 10 = 0) ∧ M1 191 (a + 656) = b ∧ (∀ k : Int, 656 ≤ k → k < 668 → ¬ k = a + 656 → M1 191 k = M 191 k) ∧ (∀ k : Int, 24700 ≤ k → k < 24720 → ¬ k = a + 24700 → M1 191 k = M 191 k) ∧ (∀ i j : Int, 0 ≤ i → i ≤ 10 → ¬ i = a → 0 ≤ j → j < 8 → M1 191 (8 * i + j + 24720) = M 191 (8 * i + j + 24720) ∧ M1 191 (8 * i + j + 24810) = M 191 (8 * i + j + 24810)) ∧ (z = 1 → (∃ m : Nat, m ≤ 8 ∧ gFin (gTm M) (M 191 10) m ∧ M1 191 (a + 24700) = (m : Int) ∧ (∀ j : Nat, j < m → M1 191 (8 * a + (j : Int) + 24720) = (gCl (gTm M) (gPl (gTm M) j)).1 ∧ M1 191 (8 * a + (j : Int) + 24810) = (gCl (gTm M) (gPl (gTm M) j)).2.1 ∧ 0 ≤ (gCl (gTm M) (gPl (gTm M) j)).2.1)))))) 0 0 (fun q => n0 ≤ q) := by
  refine gMetZ [gA n0 190, gJ a, gJ b] (by decide) (Nat.le_of_ble_eq_true rfl) ⟨rfl, rfl⟩ ?_
  intro p e s m args below meth cd Q X hq
  have X : gCx p s m args meth cd n0 D cA "ParishUnionModel" cX12_readsAct 4 := X
  show G p l e R_e_X12_readsAct s m args below meth cd n0 D cA 4 Q 0 0 M sz 0 [(0, gA n0 190), (1, gJ a), (2, gJ b)] []
  obtain ⟨v1, hv1, rv1⟩ := gRd I (by decide) (gsz hsz (by decide)) (rs_PERS (k := 1) (by omega)).1
  obtain ⟨v2, hv2, rv2⟩ := gRd I (by decide) (gsz hsz (by decide)) (rs_TAPED (k := 10) (by omega)).1
  refine g_aload_n (n := 1) X 0 dX12_readsAct_0 rfl rfl rfl ?_
  refine gg_12_1 (n := 4) (z := 191) X (by decide) (gsz hsz (by decide)) lay_190 kw_6_27 dX12_readsAct_1 rfl (rf_190_1 I (gsz hsz (by decide))) (by decide) ?_
  refine g_sipush (n := 7) X dX12_readsAct_4 (by decide +kernel) rfl ?_
  refine g_iload_n (n := 8) X 1 dX12_readsAct_7 rfl rfl rfl ?_
  refine g_iadd (n := 9) (z := a + 656) X dX12_readsAct_8 (by omega) rfl ?_
  refine g_iload_n (n := 10) X 2 dX12_readsAct_9 rfl rfl rfl ?_
  refine g_iast (n := 11) X (by decide) (gsz hsz (by decide)) lay_191 (by omega) (by omega) (by decide) dX12_readsAct_10 rfl ?_
  refine G.nm (fun M3 e4 => ?_)
  have IM3 : gI sz M3 := gI.set I (rs_AWEEK (k := a + 656) (by omega)).1 (by omega) e4
  have CM3 : gC sz M3 := gC.set C (rs_AWEEK (k := a + 656) (by omega)).2.1 e4
  refine g_aload_n (n := 12) X 0 dX12_readsAct_11 rfl rfl rfl ?_
  refine gg_12_1 (n := 15) (z := 191) X (by decide) (gsz hsz (by decide)) lay_190 kw_6_27 dX12_readsAct_12 rfl (rf_190_1 IM3 (gsz hsz (by decide))) (by decide) ?_
  refine g_sipush (n := 18) X dX12_readsAct_15 (by decide +kernel) rfl ?_
  refine g_iload_n (n := 19) X 1 dX12_readsAct_18 rfl rfl rfl ?_
  refine g_iadd (n := 20) (z := a + 668) X dX12_readsAct_19 (by omega) rfl ?_
  refine g_aload_n (n := 21) X 0 dX12_readsAct_20 rfl rfl rfl ?_
  refine gg_12_1 (n := 24) (z := 191) X (by decide) (gsz hsz (by decide)) lay_190 kw_6_27 dX12_readsAct_21 rfl (rf_190_1 IM3 (gsz hsz (by decide))) (by decide) ?_
  refine g_bipush (n := 26) X dX12_readsAct_24 (by decide +kernel) rfl ?_
  refine g_iald2 (n := 27) (v := v2) X (by decide) (gsz hsz (by decide)) lay_191 (by omega) (by omega) (by decide) dX12_readsAct_26 rfl ((congrFun (congrFun e4 _) _).trans ((gset_ne (by omega)).trans hv2)) ?_
  refine g_iast (n := 28) X (by decide) (gsz hsz (by decide)) lay_191 (by omega) (by omega) (by decide) dX12_readsAct_27 rfl ?_
  refine G.nm (fun M5 e6 => ?_)
  have IM5 : gI sz M5 := gI.set IM3 (rs_ALONG (k := a + 668) (by omega)).1 (by omega) e6
  have CM5 : gC sz M5 := gC.set CM3 (rs_ALONG (k := a + 668) (by omega)).2.1 e6
  refine g_iconst (n := 29) X dX12_readsAct_28 rfl ?_
  refine g_istore_n (n := 30) (L' := [(3, gJ 0), (0, gA n0 190), (1, gJ a), (2, gJ b)]) X dX12_readsAct_29 rfl (by decide) rfl rfl ?_
  have j9 : ∀ (N113 : Nat) (v7 : Int) (M8 : gM) , (0 ≤ v7 ∧ v7 ≤ 150) → gI sz M8 → gC sz M8 → gFr 4503599627370496 M5 M8 → (∀ k : Int, ((656 ≤ k ∧ k < 668) ∨ (24700 ≤ k ∧ k < 25000)) → M8 191 k = M5 191 k) → (∀ i : Int, 0 ≤ i → i < v7 → M8 191 (680 + 150 * a + i) = M 191 (i + 2620)) → (M8 191 (a + 668) = v2) → (150 - v7).toNat < N113 → G p l e R_e_X12_readsAct s m args below meth cd n0 D cA 4 Q 0 0 M8 sz 30 [(0, gA n0 190), (1, gJ a), (3, gJ v7)] [] := by
    intro N113; induction N113 with
    | zero => intro v7 M8 rv7 IM8 CM8 FM8 hcp2 hc hA hm115; exfalso; omega
    | succ N113 ih114 =>
      intro v7 M8 rv7 IM8 CM8 FM8 hcp2 hc hA hm115
      refine g_iload_n (n := 31) X 2 dX12_readsAct_30 rfl rfl rfl ?_
      refine g_aload_n (n := 32) X 0 dX12_readsAct_31 rfl rfl rfl ?_
      refine gg_12_1 (n := 35) (z := 191) X (by decide) (gsz hsz (by decide)) lay_190 kw_6_27 dX12_readsAct_32 rfl (rf_190_1 IM8 (gsz hsz (by decide))) (by decide) ?_
      refine g_bipush (n := 37) X dX12_readsAct_35 (by decide +kernel) rfl ?_
      refine g_iald2 (n := 38) (v := v2) X (by decide) (gsz hsz (by decide)) lay_191 (by omega) (by omega) (by decide) dX12_readsAct_37 rfl ((gFr.at FM8 (rs_TAPED (k := 10) (by omega)).2.2 rfl).trans ((congrFun (congrFun e6 _) _).trans ((gset_ne (by omega)).trans ((congrFun (congrFun e4 _) _).trans ((gset_ne (by omega)).trans hv2))))) ?_
      refine g_icmp_ge (n := 41) (tgt := 73) X dX12_readsAct_38 (by decide) (by omega) (by omega) rfl (fun c116 => ?_) (fun c116 => ?_)
      · refine g_aload_n (n := 74) X 0 dX12_readsAct_73 rfl rfl rfl ?_
        refine gg_12_1 (n := 77) (z := 191) X (by decide) (gsz hsz (by decide)) lay_190 kw_6_27 dX12_readsAct_74 rfl (rf_190_1 IM8 (gsz hsz (by decide))) (by decide) ?_
        refine g_bipush (n := 79) X dX12_readsAct_77 (by decide +kernel) rfl ?_
        refine g_iconst (n := 80) X dX12_readsAct_79 rfl ?_
        refine g_iast (n := 81) X (by decide) (gsz hsz (by decide)) lay_191 (by omega) (by omega) (by decide) dX12_readsAct_80 rfl ?_
        refine G.nm (fun M117 e118 => ?_)
        have IM117 : gI sz M117 := gI.set IM8 (rs_TAPED (k := 10) (by omega)).1 (by omega) e118
        have CM117 : gC sz M117 := gC.set CM8 (rs_TAPED (k := 10) (by omega)).2.1 e118
        refine g_aload_n (n := 82) X 0 dX12_readsAct_81 rfl rfl rfl ?_
        refine gg_12_1 (n := 85) (z := 191) X (by decide) (gsz hsz (by decide)) lay_190 kw_6_27 dX12_readsAct_82 rfl (rf_190_1 IM117 (gsz hsz (by decide))) (by decide) ?_
        refine g_sipush (n := 88) X dX12_readsAct_85 (by decide +kernel) rfl ?_
        refine g_iload_n (n := 89) X 1 dX12_readsAct_88 rfl rfl rfl ?_
        refine g_iadd (n := 90) (z := a + 24700) X dX12_readsAct_89 (by omega) rfl ?_
        refine g_iconst (n := 91) X dX12_readsAct_90 rfl ?_
        refine g_iast (n := 92) X (by decide) (gsz hsz (by decide)) lay_191 (by omega) (by omega) (by decide) dX12_readsAct_91 rfl ?_
        refine G.nm (fun M119 e120 => ?_)
        have IM119 : gI sz M119 := gI.set IM117 (rs_LCOUNT (k := a + 24700) (by omega)).1 (by omega) e120
        have CM119 : gC sz M119 := gC.set CM117 (rs_LCOUNT (k := a + 24700) (by omega)).2.1 e120
        refine g_aload_n (n := 93) X 0 dX12_readsAct_92 rfl rfl rfl ?_
        refine g_iload_n (n := 94) X 1 dX12_readsAct_93 rfl rfl rfl ?_
        refine gp_12_11 (n := 97) X (by decide) (gsz hsz (by decide)) lay_190 kw_6_37 dX12_readsAct_94 rfl ?_
        refine G.nm (fun M121 e122 => ?_)
        have IM121 : gI sz M121 := gI.set IM119 rc_190_11.1 (by omega) e122
        have CM121 : gC sz M121 := gC.set CM119 rc_190_11.2.1 e122
        refine g_aload_n (n := 98) X 0 dX12_readsAct_97 rfl rfl rfl ?_
        refine g_iconst (n := 99) X dX12_readsAct_98 rfl ?_
        refine gp_12_12 (n := 102) X (by decide) (gsz hsz (by decide)) lay_190 kw_6_38 dX12_readsAct_99 rfl ?_
        refine G.nm (fun M123 e124 => ?_)
        have IM123 : gI sz M123 := gI.set IM121 rc_190_12.1 (by omega) e124
        have CM123 : gC sz M123 := gC.set CM121 rc_190_12.2.1 e124
        refine g_aload_n (n := 103) X 0 dX12_readsAct_102 rfl rfl rfl ?_
        refine g_iconst (n := 104) X dX12_readsAct_103 rfl ?_
        refine gp_12_14 (n := 107) X (by decide) (gsz hsz (by decide)) lay_190 kw_6_40 dX12_readsAct_104 rfl ?_
        refine G.nm (fun M125 e126 => ?_)
        have IM125 : gI sz M125 := gI.set IM123 rc_190_14.1 (by omega) e126
        have CM125 : gC sz M125 := gC.set CM123 rc_190_14.2.1 e126
        refine g_aload_n (n := 108) X 0 dX12_readsAct_107 rfl rfl rfl ?_
        refine g_iconst (n := 109) X dX12_readsAct_108 rfl ?_
        refine gp_12_13 (n := 112) X (by decide) (gsz hsz (by decide)) lay_190 kw_6_39 (by omega) dX12_readsAct_109 rfl ?_
        refine G.nm (fun M127 e128 => ?_)
        have IM127 : gI sz M127 := gI.set IM125 rc_190_13.1 (by omega) e128
        have CM127 : gC sz M127 := gC.set CM125 rc_190_13.2.1 e128
        refine g_aload_n (n := 113) X 0 dX12_readsAct_112 rfl rfl rfl ?_
        refine g_iconst (n := 114) X dX12_readsAct_113 rfl ?_
        refine gp_12_15 (n := 117) X (by decide) (gsz hsz (by decide)) lay_190 kw_6_41 dX12_readsAct_114 rfl ?_
        refine G.nm (fun M129 e130 => ?_)
        have IM129 : gI sz M129 := gI.set IM127 rc_190_15.1 (by omega) e130
        have CM129 : gC sz M129 := gC.set CM127 rc_190_15.2.1 e130
        refine g_aload_n (n := 118) X 0 dX12_readsAct_117 rfl rfl rfl ?_
        refine g_iload_n (n := 119) X 1 dX12_readsAct_118 rfl rfl rfl ?_
        have hT0 : gTx M129 = gTm M := gTx_of (a := a) (show M129 190 11 = a from ((congrFun (congrFun e130 _) _).trans ((gset_ne (by omega)).trans ((congrFun (congrFun e128 _) _).trans ((gset_ne (by omega)).trans ((congrFun (congrFun e126 _) _).trans ((gset_ne (by omega)).trans ((congrFun (congrFun e124 _) _).trans ((gset_ne (by omega)).trans ((congrFun (congrFun e122 _) _).trans (gset_eq _ _ _ _))))))))))) (show M129 191 (a + 668) = v2 from ((congrFun (congrFun e130 _) _).trans ((gset_ne (by omega)).trans ((congrFun (congrFun e128 _) _).trans ((gset_ne (by omega)).trans ((congrFun (congrFun e126 _) _).trans ((gset_ne (by omega)).trans ((congrFun (congrFun e124 _) _).trans ((gset_ne (by omega)).trans ((congrFun (congrFun e122 _) _).trans ((gset_ne (by omega)).trans ((congrFun (congrFun e120 _) _).trans ((gset_ne (by omega)).trans ((congrFun (congrFun e118 _) _).trans ((gset_ne (by omega)).trans hA))))))))))))))) hv2 (fun i h0 h1 => ((congrFun (congrFun e130 _) _).trans ((gset_ne (by omega)).trans ((congrFun (congrFun e128 _) _).trans ((gset_ne (by omega)).trans ((congrFun (congrFun e126 _) _).trans ((gset_ne (by omega)).trans ((congrFun (congrFun e124 _) _).trans ((gset_ne (by omega)).trans ((congrFun (congrFun e122 _) _).trans ((gset_ne (by omega)).trans ((congrFun (congrFun e120 _) _).trans ((gset_ne (by omega)).trans ((congrFun (congrFun e118 _) _).trans ((gset_ne (by omega)).trans (hc i h0 (by omega)))))))))))))))))
        have tM129_12 : M129 190 12 = 0 := ((congrFun (congrFun e130 _) _).trans ((gset_ne (by omega)).trans ((congrFun (congrFun e128 _) _).trans ((gset_ne (by omega)).trans ((congrFun (congrFun e126 _) _).trans ((gset_ne (by omega)).trans ((congrFun (congrFun e124 _) _).trans (gset_eq _ _ _ _))))))))
        have tM129_14 : M129 190 14 = 0 := ((congrFun (congrFun e130 _) _).trans ((gset_ne (by omega)).trans ((congrFun (congrFun e128 _) _).trans ((gset_ne (by omega)).trans ((congrFun (congrFun e126 _) _).trans (gset_eq _ _ _ _))))))
        refine g_callVv (n := 122) (As := [gJ a]) (rest := []) (cs1 := 0) (ss1 := 0) X (e_X12_reads a (by omega) hsz IM129 CM129 (gW.fr (S := 3984501241113076563968) W ⟨sz, hsz, I⟩ (gFr.s (gFr.s (gFr.s (gFr.s (gFr.s (gFr.s (gFr.s (gFr.c (gFr.s (gFr.s gFr.rf e4 (rs_AWEEK (k := a + 656) (by omega)).2.2 rfl) e6 (rs_ALONG (k := a + 668) (by omega)).2.2 rfl) FM8 rfl) e118 (rs_TAPED (k := 10) (by omega)).2.2 rfl) e120 (rs_LCOUNT (k := a + 24700) (by omega)).2.2 rfl) e122 rc_190_11.2.2 rfl) e124 rc_190_12.2.2 rfl) e126 rc_190_14.2.2 rfl) e128 rc_190_13.2.2 rfl) e130 rc_190_15.2.2 rfl) rfl) (by have q1 := ((congrFun (congrFun e130 _) _).trans (gset_eq _ _ _ _)); have q2 := ((congrFun (congrFun e130 _) _).trans ((gset_ne (by omega)).trans ((congrFun (congrFun e128 _) _).trans ((gset_ne (by omega)).trans ((congrFun (congrFun e126 _) _).trans ((gset_ne (by omega)).trans ((congrFun (congrFun e124 _) _).trans ((gset_ne (by omega)).trans ((congrFun (congrFun e122 _) _).trans ((gset_ne (by omega)).trans ((congrFun (congrFun e120 _) _).trans ((gset_ne (by omega)).trans ((congrFun (congrFun e118 _) _).trans ((gset_ne (by omega)).trans ((gFr.at FM8 (rs_PERS (k := 1) (by omega)).2.2 rfl).trans ((congrFun (congrFun e6 _) _).trans ((gset_ne (by omega)).trans ((congrFun (congrFun e4 _) _).trans ((gset_ne (by omega)).trans hv1))))))))))))))))))); omega) (by have h1 := ((congrFun (congrFun e130 _) _).trans ((gset_ne (by omega)).trans ((congrFun (congrFun e128 _) _).trans ((gset_ne (by omega)).trans ((congrFun (congrFun e126 _) _).trans (gset_eq _ _ _ _)))))); omega) (by have h1 := ((congrFun (congrFun e130 _) _).trans ((gset_ne (by omega)).trans ((congrFun (congrFun e128 _) _).trans (gset_eq _ _ _ _)))); omega) (by have h1 := ((congrFun (congrFun e130 _) _).trans ((gset_ne (by omega)).trans ((congrFun (congrFun e128 _) _).trans ((gset_ne (by omega)).trans ((congrFun (congrFun e126 _) _).trans ((gset_ne (by omega)).trans ((congrFun (congrFun e124 _) _).trans (gset_eq _ _ _ _)))))))); omega) (((congrFun (congrFun e130 _) _).trans ((gset_ne (by omega)).trans ((congrFun (congrFun e128 _) _).trans ((gset_ne (by omega)).trans ((congrFun (congrFun e126 _) _).trans ((gset_ne (by omega)).trans ((congrFun (congrFun e124 _) _).trans ((gset_ne (by omega)).trans ((congrFun (congrFun e122 _) _).trans (gset_eq _ _ _ _))))))))))) (by have q1 := ((congrFun (congrFun e130 _) _).trans ((gset_ne (by omega)).trans ((congrFun (congrFun e128 _) _).trans ((gset_ne (by omega)).trans ((congrFun (congrFun e126 _) _).trans ((gset_ne (by omega)).trans ((congrFun (congrFun e124 _) _).trans ((gset_ne (by omega)).trans ((congrFun (congrFun e122 _) _).trans ((gset_ne (by omega)).trans ((congrFun (congrFun e120 _) _).trans (gset_eq _ _ _ _)))))))))))); omega)) okX12_reads kw_7_3 ⟨kw_7_5, kw_0_56⟩ ⟨rfl, rfl⟩ ⟨Nat.le_of_ble_eq_true rfl, Nat.le_of_ble_eq_true rfl⟩ rfl (by decide) (gsz hsz (by decide)) lay_190 rfl rfl (Nat.le_of_ble_eq_true rfl) ⟨Nat.le_of_ble_eq_true rfl, Nat.le_of_ble_eq_true rfl⟩ rfl rfl dX12_readsAct_119 rfl (fun M132 P133 => ?_)
        obtain ⟨IM132, CM132, FM132, xM132⟩ := P133
        have yM132 := xM132.2.2.1
        have uM132 := xM132.1.1
        rw [show gTx M129 = gTm M from hT0] at yM132
        rw [show M129 190 12 = 0 from ((congrFun (congrFun e130 _) _).trans ((gset_ne (by omega)).trans ((congrFun (congrFun e128 _) _).trans ((gset_ne (by omega)).trans ((congrFun (congrFun e126 _) _).trans ((gset_ne (by omega)).trans ((congrFun (congrFun e124 _) _).trans (gset_eq _ _ _ _))))))))] at yM132 uM132
        obtain ⟨v134, hv134, rv134⟩ := gRd IM132 (by decide) (gsz hsz (by decide)) rc_190_12.1
        obtain ⟨v135, hv135, rv135⟩ := gRd IM132 (by decide) (gsz hsz (by decide)) rc_190_13.1
        rw [hv134] at uM132; rw [hv134, hv135] at yM132
        rw [show M129 191 (a + 24700) = 0 from ((congrFun (congrFun e130 _) _).trans ((gset_ne (by omega)).trans ((congrFun (congrFun e128 _) _).trans ((gset_ne (by omega)).trans ((congrFun (congrFun e126 _) _).trans ((gset_ne (by omega)).trans ((congrFun (congrFun e124 _) _).trans ((gset_ne (by omega)).trans ((congrFun (congrFun e122 _) _).trans ((gset_ne (by omega)).trans ((congrFun (congrFun e120 _) _).trans (gset_eq _ _ _ _))))))))))))] at yM132
        obtain ⟨v136, hv136, rv136⟩ := gRd IM132 (by decide) (gsz hsz (by decide)) (rs_LCOUNT (k := a + 24700) (by omega)).1
        rw [hv136] at yM132
        have wM132 := xM132.2.2.2
        rw [show M129 191 (a + 24700) = 0 from ((congrFun (congrFun e130 _) _).trans ((gset_ne (by omega)).trans ((congrFun (congrFun e128 _) _).trans ((gset_ne (by omega)).trans ((congrFun (congrFun e126 _) _).trans ((gset_ne (by omega)).trans ((congrFun (congrFun e124 _) _).trans ((gset_ne (by omega)).trans ((congrFun (congrFun e122 _) _).trans ((gset_ne (by omega)).trans ((congrFun (congrFun e120 _) _).trans (gset_eq _ _ _ _))))))))))))] at wM132
        have j138 : ∀ (N176 : Nat) (M137 : gM) , gI sz M137 → gC sz M137 → gFr 2475881517421301898770644992 M132 M137 → (M137 191 (a + 656) = b) → ((∀ k : Int, 656 ≤ k → k < 668 → ¬ k = a + 656 → M137 191 k = M 191 k)) → ((∀ k : Int, 24700 ≤ k → k < 24720 → ¬ k = a + 24700 → M137 191 k = M 191 k)) → ((∀ i j : Int, 0 ≤ i → i ≤ 10 → ¬ i = a → 0 ≤ j → j < 8 → M137 191 (8 * i + j + 24720) = M 191 (8 * i + j + 24720) ∧ M137 191 (8 * i + j + 24810) = M 191 (8 * i + j + 24810))) → (M137 190 13 = 0 → ∃ L : Nat, (1 ≤ L ∧ M137 191 (a + 24700) = (L : Int)) ∧ (gCl (gTm M) (gPl (gTm M) (L - 1))).2.2.2 = M137 190 12 ∧ (∀ i : Nat, i + 1 < L → gTm M (gCl (gTm M) (gPl (gTm M) i)).2.2.2 = 59) ∧ (∀ j : Nat, j < L → M137 191 (8 * a + (j : Int) + 24720) = (gCl (gTm M) (gPl (gTm M) j)).1 ∧ M137 191 (8 * a + (j : Int) + 24810) = (gCl (gTm M) (gPl (gTm M) j)).2.1 ∧ 0 ≤ (gCl (gTm M) (gPl (gTm M) j)).2.1)) → (gTx M137 = gTm M) → ((M137 190 13 = 1 ∧ gAct (gTm M) v2 8 0 = M137 190 12 ∧ 0 ≤ M137 190 12) ∨ ((M137 190 13 = 0 ∧ 0 ≤ M137 190 12) ∧ (1 ≤ M137 191 (a + 24700) ∧ M137 191 (a + 24700) ≤ 8) ∧ gAct (gTm M) v2 8 0 = gAd (gTm M) v2 (8 - M137 191 (a + 24700)).toNat (M137 190 12))) → (M137 190 14 = 0) → (M137 191 10 = 0) → (M137 190 11 = a) → (M137 191 (a + 668) = v2) → (M137 190 15 = -1) → (150 - M137 190 12).toNat < N176 → G p l e R_e_X12_readsAct s m args below meth cd n0 D cA 4 Q 0 0 M137 sz 122 [(0, gA n0 190), (1, gJ a)] [] := by
          intro N176; induction N176 with
          | zero => intro M137 IM137 CM137 FM137 hW9 hK9 hC9 hO9 hM9 hT hR ho5 hz h11 hA8 h15 hm178; exfalso; omega
          | succ N176 ih177 =>
            intro M137 IM137 CM137 FM137 hW9 hK9 hC9 hO9 hM9 hT hR ho5 hz h11 hA8 h15 hm178
            obtain ⟨v179, hv179, rv179⟩ := gRd IM137 (by decide) (gsz hsz (by decide)) rc_190_12.1
            obtain ⟨v180, hv180, rv180⟩ := gRd IM137 (by decide) (gsz hsz (by decide)) rc_190_13.1
            obtain ⟨v181, hv181, rv181⟩ := gRd IM137 (by decide) (gsz hsz (by decide)) (rs_LCOUNT (k := a + 24700) (by omega)).1
            rw [hv179, hv180, hv181] at hR
            have zN : M 191 10 = v2 := hv2
            refine g_aload_n (n := 123) X 0 dX12_readsAct_122 rfl rfl rfl ?_
            refine gg_12_13 (n := 126) (z := v180) X (by decide) (gsz hsz (by decide)) lay_190 kw_6_39 dX12_readsAct_123 rfl hv180 ?_
            refine g_if_ne (n := 129) (tgt := 171) X dX12_readsAct_126 (by decide) (by omega) rfl (fun c182 => ?_) (fun c182 => ?_)
            · refine g_aload_n (n := 172) X 0 dX12_readsAct_171 rfl rfl rfl ?_
              refine g_aload_n (n := 173) X 0 dX12_readsAct_172 rfl rfl rfl ?_
              refine gg_12_13 (n := 176) (z := v180) X (by decide) (gsz hsz (by decide)) lay_190 kw_6_39 dX12_readsAct_173 rfl hv180 ?_
              refine g_if_ne (n := 179) (tgt := 196) X dX12_readsAct_176 (by decide) (by omega) rfl (fun c183 => ?_) (fun c183 => by exfalso; omega)
              refine g_iconst (n := 197) X dX12_readsAct_196 rfl ?_
              refine g_goto (tgt := 201) X dX12_readsAct_197 (by decide) ?_
              refine gp_12_13 (n := 204) X (by decide) (gsz hsz (by decide)) lay_190 kw_6_39 (by omega) dX12_readsAct_201 rfl ?_
              refine G.nm (fun M184 e185 => ?_)
              have IM184 : gI sz M184 := gI.set IM137 rc_190_13.1 (by omega) e185
              have CM184 : gC sz M184 := gC.set CM137 rc_190_13.2.1 e185
              refine g_aload_n (n := 205) X 0 dX12_readsAct_204 rfl rfl rfl ?_
              refine gg_12_13 (n := 208) (z := 1) X (by decide) (gsz hsz (by decide)) lay_190 kw_6_39 dX12_readsAct_205 rfl ((congrFun (congrFun e185 _) _).trans (gset_eq _ _ _ _)) ?_
              refine g_if_ne (n := 211) (tgt := 215) X dX12_readsAct_208 (by decide) (by omega) rfl (fun c186 => ?_) (fun c186 => by exfalso; omega)
              refine g_iconst (n := 216) X dX12_readsAct_215 rfl ?_
              exact hq _ _ _ _ dX12_readsAct_216 (by omega) ⟨by omega, IM184, CM184, (gFr.s (gFr.c (gFr.c (gFr.s (gFr.s (gFr.s (gFr.s (gFr.s (gFr.s (gFr.s (gFr.c (gFr.s (gFr.s gFr.rf e4 (rs_AWEEK (k := a + 656) (by omega)).2.2 rfl) e6 (rs_ALONG (k := a + 668) (by omega)).2.2 rfl) FM8 rfl) e118 (rs_TAPED (k := 10) (by omega)).2.2 rfl) e120 (rs_LCOUNT (k := a + 24700) (by omega)).2.2 rfl) e122 rc_190_11.2.2 rfl) e124 rc_190_12.2.2 rfl) e126 rc_190_14.2.2 rfl) e128 rc_190_13.2.2 rfl) e130 rc_190_15.2.2 rfl) FM132 rfl) FM137 rfl) e185 rc_190_13.2.2 rfl), ⟨⟨(by have ze12 : M184 190 12 = v179 := ((congrFun (congrFun e185 _) _).trans ((gset_ne (by omega)).trans hv179)); have ze13 : M184 190 13 = 1 := ((congrFun (congrFun e185 _) _).trans (gset_eq _ _ _ _)); rw [hv2]; rcases hR with ⟨r1, r2, r4⟩ | ⟨r1, r2, r3⟩; (first | (exact Or.inr ⟨by omega, by rw [r2, ze12], by omega⟩) | (exfalso; omega)); (first | (exact Or.inl ⟨by omega, by rw [r3]; exact gAd_e (by omega)⟩) | (exact Or.inr ⟨by omega, by rw [r3, ze12]; exact gAd_n (by omega) (by first | (left; omega) | (right; omega)), by omega⟩) | (exfalso; omega))), (((congrFun (congrFun e185 _) _).trans ((gset_ne (by omega)).trans hz)))⟩, ((congrFun (congrFun e185 _) _).trans ((gset_ne (by omega)).trans hW9)), (fun k k0 k1 k2 => ((congrFun (congrFun e185 _) _).trans ((gset_ne (by omega)).trans (hK9 k k0 k1 k2)))), (fun k k0 k1 k2 => ((congrFun (congrFun e185 _) _).trans ((gset_ne (by omega)).trans (hC9 k k0 k1 k2)))), (fun i j i0 i1 i2 j0 j1 => ⟨((congrFun (congrFun e185 _) _).trans ((gset_ne (by omega)).trans (hO9 i j i0 i1 i2 j0 j1).1)), ((congrFun (congrFun e185 _) _).trans ((gset_ne (by omega)).trans (hO9 i j i0 i1 i2 j0 j1).2))⟩), (fun g => by have zq := ((congrFun (congrFun e185 _) _).trans ((gset_ne (by omega)).trans hv179)); first | (exfalso; omega) | (obtain ⟨L, L1, L2, L3, L4⟩ := hM9 (by omega); exact ⟨L, by omega, ⟨L1.1, L3, by rw [hv2]; omega⟩, ((congrFun (congrFun e185 _) _).trans ((gset_ne (by omega)).trans L1.2)), fun j hj => ⟨((congrFun (congrFun e185 _) _).trans ((gset_ne (by omega)).trans (L4 j hj).1)), ((congrFun (congrFun e185 _) _).trans ((gset_ne (by omega)).trans (L4 j hj).2.1)), (L4 j hj).2.2⟩⟩))⟩⟩
            · refine g_aload_n (n := 130) X 0 dX12_readsAct_129 rfl rfl rfl ?_
              refine gg_12_1 (n := 133) (z := 191) X (by decide) (gsz hsz (by decide)) lay_190 kw_6_27 dX12_readsAct_130 rfl (rf_190_1 IM137 (gsz hsz (by decide))) (by decide) ?_
              refine g_sipush (n := 136) X dX12_readsAct_133 (by decide +kernel) rfl ?_
              refine g_iload_n (n := 137) X 1 dX12_readsAct_136 rfl rfl rfl ?_
              refine g_iadd (n := 138) (z := a + 24700) X dX12_readsAct_137 (by omega) rfl ?_
              refine g_iald2 (n := 139) (v := v181) X (by decide) (gsz hsz (by decide)) lay_191 (by omega) (by omega) (by decide) dX12_readsAct_138 rfl hv181 ?_
              refine g_bipush (n := 141) X dX12_readsAct_139 (by decide +kernel) rfl ?_
              refine g_icmp_ge (n := 144) (tgt := 171) X dX12_readsAct_141 (by decide) (by omega) (by omega) rfl (fun c187 => ?_) (fun c187 => ?_)
              · refine g_aload_n (n := 172) X 0 dX12_readsAct_171 rfl rfl rfl ?_
                refine g_aload_n (n := 173) X 0 dX12_readsAct_172 rfl rfl rfl ?_
                refine gg_12_13 (n := 176) (z := v180) X (by decide) (gsz hsz (by decide)) lay_190 kw_6_39 dX12_readsAct_173 rfl hv180 ?_
                refine g_if_ne (n := 179) (tgt := 196) X dX12_readsAct_176 (by decide) (by omega) rfl (fun c188 => by exfalso; omega) (fun c188 => ?_)
                refine g_aload_n (n := 180) X 0 dX12_readsAct_179 rfl rfl rfl ?_
                refine gg_12_12 (n := 183) (z := v179) X (by decide) (gsz hsz (by decide)) lay_190 kw_6_38 dX12_readsAct_180 rfl hv179 ?_
                refine g_aload_n (n := 184) X 0 dX12_readsAct_183 rfl rfl rfl ?_
                refine gg_12_1 (n := 187) (z := 191) X (by decide) (gsz hsz (by decide)) lay_190 kw_6_27 dX12_readsAct_184 rfl (rf_190_1 IM137 (gsz hsz (by decide))) (by decide) ?_
                refine g_sipush (n := 190) X dX12_readsAct_187 (by decide +kernel) rfl ?_
                refine g_iload_n (n := 191) X 1 dX12_readsAct_190 rfl rfl rfl ?_
                refine g_iadd (n := 192) (z := a + 668) X dX12_readsAct_191 (by omega) rfl ?_
                refine g_iald2 (n := 193) (v := v2) X (by decide) (gsz hsz (by decide)) lay_191 (by omega) (by omega) (by decide) dX12_readsAct_192 rfl hA8 ?_
                refine g_icmp_eq (n := 196) (tgt := 200) X dX12_readsAct_193 (by decide) (by omega) (by omega) rfl (fun c189 => ?_) (fun c189 => ?_)
                · refine g_iconst (n := 201) X dX12_readsAct_200 rfl ?_
                  refine gp_12_13 (n := 204) X (by decide) (gsz hsz (by decide)) lay_190 kw_6_39 (by omega) dX12_readsAct_201 rfl ?_
                  refine G.nm (fun M190 e191 => ?_)
                  have IM190 : gI sz M190 := gI.set IM137 rc_190_13.1 (by omega) e191
                  have CM190 : gC sz M190 := gC.set CM137 rc_190_13.2.1 e191
                  refine g_aload_n (n := 205) X 0 dX12_readsAct_204 rfl rfl rfl ?_
                  refine gg_12_13 (n := 208) (z := 0) X (by decide) (gsz hsz (by decide)) lay_190 kw_6_39 dX12_readsAct_205 rfl ((congrFun (congrFun e191 _) _).trans (gset_eq _ _ _ _)) ?_
                  refine g_if_ne (n := 211) (tgt := 215) X dX12_readsAct_208 (by decide) (by omega) rfl (fun c192 => by exfalso; omega) (fun c192 => ?_)
                  refine g_iconst (n := 212) X dX12_readsAct_211 rfl ?_
                  refine g_goto (tgt := 216) X dX12_readsAct_212 (by decide) ?_
                  exact hq _ _ _ _ dX12_readsAct_216 (by omega) ⟨by omega, IM190, CM190, (gFr.s (gFr.c (gFr.c (gFr.s (gFr.s (gFr.s (gFr.s (gFr.s (gFr.s (gFr.s (gFr.c (gFr.s (gFr.s gFr.rf e4 (rs_AWEEK (k := a + 656) (by omega)).2.2 rfl) e6 (rs_ALONG (k := a + 668) (by omega)).2.2 rfl) FM8 rfl) e118 (rs_TAPED (k := 10) (by omega)).2.2 rfl) e120 (rs_LCOUNT (k := a + 24700) (by omega)).2.2 rfl) e122 rc_190_11.2.2 rfl) e124 rc_190_12.2.2 rfl) e126 rc_190_14.2.2 rfl) e128 rc_190_13.2.2 rfl) e130 rc_190_15.2.2 rfl) FM132 rfl) FM137 rfl) e191 rc_190_13.2.2 rfl), ⟨⟨(by have ze12 : M190 190 12 = v179 := ((congrFun (congrFun e191 _) _).trans ((gset_ne (by omega)).trans hv179)); have ze13 : M190 190 13 = 0 := ((congrFun (congrFun e191 _) _).trans (gset_eq _ _ _ _)); rw [hv2]; rcases hR with ⟨r1, r2, r4⟩ | ⟨r1, r2, r3⟩; (first | (exact Or.inr ⟨by omega, by rw [r2, ze12], by omega⟩) | (exfalso; omega)); (first | (exact Or.inl ⟨by omega, by rw [r3]; exact gAd_e (by omega)⟩) | (exact Or.inr ⟨by omega, by rw [r3, ze12]; exact gAd_n (by omega) (by first | (left; omega) | (right; omega)), by omega⟩) | (exfalso; omega))), (((congrFun (congrFun e191 _) _).trans ((gset_ne (by omega)).trans hz)))⟩, ((congrFun (congrFun e191 _) _).trans ((gset_ne (by omega)).trans hW9)), (fun k k0 k1 k2 => ((congrFun (congrFun e191 _) _).trans ((gset_ne (by omega)).trans (hK9 k k0 k1 k2)))), (fun k k0 k1 k2 => ((congrFun (congrFun e191 _) _).trans ((gset_ne (by omega)).trans (hC9 k k0 k1 k2)))), (fun i j i0 i1 i2 j0 j1 => ⟨((congrFun (congrFun e191 _) _).trans ((gset_ne (by omega)).trans (hO9 i j i0 i1 i2 j0 j1).1)), ((congrFun (congrFun e191 _) _).trans ((gset_ne (by omega)).trans (hO9 i j i0 i1 i2 j0 j1).2))⟩), (fun g => by have zq := ((congrFun (congrFun e191 _) _).trans ((gset_ne (by omega)).trans hv179)); first | (exfalso; omega) | (obtain ⟨L, L1, L2, L3, L4⟩ := hM9 (by omega); exact ⟨L, by omega, ⟨L1.1, L3, by rw [hv2]; omega⟩, ((congrFun (congrFun e191 _) _).trans ((gset_ne (by omega)).trans L1.2)), fun j hj => ⟨((congrFun (congrFun e191 _) _).trans ((gset_ne (by omega)).trans (L4 j hj).1)), ((congrFun (congrFun e191 _) _).trans ((gset_ne (by omega)).trans (L4 j hj).2.1)), (L4 j hj).2.2⟩⟩))⟩⟩
                · refine g_iconst (n := 197) X dX12_readsAct_196 rfl ?_
                  refine g_goto (tgt := 201) X dX12_readsAct_197 (by decide) ?_
                  refine gp_12_13 (n := 204) X (by decide) (gsz hsz (by decide)) lay_190 kw_6_39 (by omega) dX12_readsAct_201 rfl ?_
                  refine G.nm (fun M193 e194 => ?_)
                  have IM193 : gI sz M193 := gI.set IM137 rc_190_13.1 (by omega) e194
                  have CM193 : gC sz M193 := gC.set CM137 rc_190_13.2.1 e194
                  refine g_aload_n (n := 205) X 0 dX12_readsAct_204 rfl rfl rfl ?_
                  refine gg_12_13 (n := 208) (z := 1) X (by decide) (gsz hsz (by decide)) lay_190 kw_6_39 dX12_readsAct_205 rfl ((congrFun (congrFun e194 _) _).trans (gset_eq _ _ _ _)) ?_
                  refine g_if_ne (n := 211) (tgt := 215) X dX12_readsAct_208 (by decide) (by omega) rfl (fun c195 => ?_) (fun c195 => by exfalso; omega)
                  refine g_iconst (n := 216) X dX12_readsAct_215 rfl ?_
                  exact hq _ _ _ _ dX12_readsAct_216 (by omega) ⟨by omega, IM193, CM193, (gFr.s (gFr.c (gFr.c (gFr.s (gFr.s (gFr.s (gFr.s (gFr.s (gFr.s (gFr.s (gFr.c (gFr.s (gFr.s gFr.rf e4 (rs_AWEEK (k := a + 656) (by omega)).2.2 rfl) e6 (rs_ALONG (k := a + 668) (by omega)).2.2 rfl) FM8 rfl) e118 (rs_TAPED (k := 10) (by omega)).2.2 rfl) e120 (rs_LCOUNT (k := a + 24700) (by omega)).2.2 rfl) e122 rc_190_11.2.2 rfl) e124 rc_190_12.2.2 rfl) e126 rc_190_14.2.2 rfl) e128 rc_190_13.2.2 rfl) e130 rc_190_15.2.2 rfl) FM132 rfl) FM137 rfl) e194 rc_190_13.2.2 rfl), ⟨⟨(by have ze12 : M193 190 12 = v179 := ((congrFun (congrFun e194 _) _).trans ((gset_ne (by omega)).trans hv179)); have ze13 : M193 190 13 = 1 := ((congrFun (congrFun e194 _) _).trans (gset_eq _ _ _ _)); rw [hv2]; rcases hR with ⟨r1, r2, r4⟩ | ⟨r1, r2, r3⟩; (first | (exact Or.inr ⟨by omega, by rw [r2, ze12], by omega⟩) | (exfalso; omega)); (first | (exact Or.inl ⟨by omega, by rw [r3]; exact gAd_e (by omega)⟩) | (exact Or.inr ⟨by omega, by rw [r3, ze12]; exact gAd_n (by omega) (by first | (left; omega) | (right; omega)), by omega⟩) | (exfalso; omega))), (((congrFun (congrFun e194 _) _).trans ((gset_ne (by omega)).trans hz)))⟩, ((congrFun (congrFun e194 _) _).trans ((gset_ne (by omega)).trans hW9)), (fun k k0 k1 k2 => ((congrFun (congrFun e194 _) _).trans ((gset_ne (by omega)).trans (hK9 k k0 k1 k2)))), (fun k k0 k1 k2 => ((congrFun (congrFun e194 _) _).trans ((gset_ne (by omega)).trans (hC9 k k0 k1 k2)))), (fun i j i0 i1 i2 j0 j1 => ⟨((congrFun (congrFun e194 _) _).trans ((gset_ne (by omega)).trans (hO9 i j i0 i1 i2 j0 j1).1)), ((congrFun (congrFun e194 _) _).trans ((gset_ne (by omega)).trans (hO9 i j i0 i1 i2 j0 j1).2))⟩), (fun g => by have zq := ((congrFun (congrFun e194 _) _).trans ((gset_ne (by omega)).trans hv179)); first | (exfalso; omega) | (obtain ⟨L, L1, L2, L3, L4⟩ := hM9 (by omega); exact ⟨L, by omega, ⟨L1.1, L3, by rw [hv2]; omega⟩, ((congrFun (congrFun e194 _) _).trans ((gset_ne (by omega)).trans L1.2)), fun j hj => ⟨((congrFun (congrFun e194 _) _).trans ((gset_ne (by omega)).trans (L4 j hj).1)), ((congrFun (congrFun e194 _) _).trans ((gset_ne (by omega)).trans (L4 j hj).2.1)), (L4 j hj).2.2⟩⟩))⟩⟩
              · refine g_aload_n (n := 145) X 0 dX12_readsAct_144 rfl rfl rfl ?_
                refine g_callVi (n := 148) (As := []) (rest := []) (cs1 := 0) (ss1 := 0) X (s_X12_here2  hsz IM137 CM137 (by have h1 := hv179; omega)) okX12_here kw_7_26 ⟨kw_7_28, kw_0_58⟩ ⟨rfl, rfl⟩ ⟨Nat.le_of_ble_eq_true rfl, Nat.le_of_ble_eq_true rfl⟩ rfl (by decide) (gsz hsz (by decide)) lay_190 rfl rfl (Nat.le_of_ble_eq_true rfl) ⟨Nat.le_of_ble_eq_true rfl, Nat.le_of_ble_eq_true rfl⟩ rfl rfl dX12_readsAct_145 rfl (fun v196 M197 P198 => ?_)
                obtain ⟨rfl, rv196, xv196⟩ := P198
                have hh := xv196.1
                rw [show gTx M137 = gTm M from hT, show M137 190 12 = v179 from hv179] at hh
                refine g_bipush (n := 150) X dX12_readsAct_148 (by decide +kernel) rfl ?_
                refine g_icmp_ne (n := 153) (tgt := 171) X dX12_readsAct_150 (by decide) (by omega) (by omega) rfl (fun c199 => ?_) (fun c199 => ?_)
                · refine g_aload_n (n := 172) X 0 dX12_readsAct_171 rfl rfl rfl ?_
                  refine g_aload_n (n := 173) X 0 dX12_readsAct_172 rfl rfl rfl ?_
                  refine gg_12_13 (n := 176) (z := v180) X (by decide) (gsz hsz (by decide)) lay_190 kw_6_39 dX12_readsAct_173 rfl hv180 ?_
                  refine g_if_ne (n := 179) (tgt := 196) X dX12_readsAct_176 (by decide) (by omega) rfl (fun c200 => by exfalso; omega) (fun c200 => ?_)
                  refine g_aload_n (n := 180) X 0 dX12_readsAct_179 rfl rfl rfl ?_
                  refine gg_12_12 (n := 183) (z := v179) X (by decide) (gsz hsz (by decide)) lay_190 kw_6_38 dX12_readsAct_180 rfl hv179 ?_
                  refine g_aload_n (n := 184) X 0 dX12_readsAct_183 rfl rfl rfl ?_
                  refine gg_12_1 (n := 187) (z := 191) X (by decide) (gsz hsz (by decide)) lay_190 kw_6_27 dX12_readsAct_184 rfl (rf_190_1 IM137 (gsz hsz (by decide))) (by decide) ?_
                  refine g_sipush (n := 190) X dX12_readsAct_187 (by decide +kernel) rfl ?_
                  refine g_iload_n (n := 191) X 1 dX12_readsAct_190 rfl rfl rfl ?_
                  refine g_iadd (n := 192) (z := a + 668) X dX12_readsAct_191 (by omega) rfl ?_
                  refine g_iald2 (n := 193) (v := v2) X (by decide) (gsz hsz (by decide)) lay_191 (by omega) (by omega) (by decide) dX12_readsAct_192 rfl hA8 ?_
                  refine g_icmp_eq (n := 196) (tgt := 200) X dX12_readsAct_193 (by decide) (by omega) (by omega) rfl (fun c201 => ?_) (fun c201 => ?_)
                  · refine g_iconst (n := 201) X dX12_readsAct_200 rfl ?_
                    refine gp_12_13 (n := 204) X (by decide) (gsz hsz (by decide)) lay_190 kw_6_39 (by omega) dX12_readsAct_201 rfl ?_
                    refine G.nm (fun M202 e203 => ?_)
                    have IM202 : gI sz M202 := gI.set IM137 rc_190_13.1 (by omega) e203
                    have CM202 : gC sz M202 := gC.set CM137 rc_190_13.2.1 e203
                    refine g_aload_n (n := 205) X 0 dX12_readsAct_204 rfl rfl rfl ?_
                    refine gg_12_13 (n := 208) (z := 0) X (by decide) (gsz hsz (by decide)) lay_190 kw_6_39 dX12_readsAct_205 rfl ((congrFun (congrFun e203 _) _).trans (gset_eq _ _ _ _)) ?_
                    refine g_if_ne (n := 211) (tgt := 215) X dX12_readsAct_208 (by decide) (by omega) rfl (fun c204 => by exfalso; omega) (fun c204 => ?_)
                    refine g_iconst (n := 212) X dX12_readsAct_211 rfl ?_
                    refine g_goto (tgt := 216) X dX12_readsAct_212 (by decide) ?_
                    exact hq _ _ _ _ dX12_readsAct_216 (by omega) ⟨by omega, IM202, CM202, (gFr.s (gFr.c (gFr.c (gFr.s (gFr.s (gFr.s (gFr.s (gFr.s (gFr.s (gFr.s (gFr.c (gFr.s (gFr.s gFr.rf e4 (rs_AWEEK (k := a + 656) (by omega)).2.2 rfl) e6 (rs_ALONG (k := a + 668) (by omega)).2.2 rfl) FM8 rfl) e118 (rs_TAPED (k := 10) (by omega)).2.2 rfl) e120 (rs_LCOUNT (k := a + 24700) (by omega)).2.2 rfl) e122 rc_190_11.2.2 rfl) e124 rc_190_12.2.2 rfl) e126 rc_190_14.2.2 rfl) e128 rc_190_13.2.2 rfl) e130 rc_190_15.2.2 rfl) FM132 rfl) FM137 rfl) e203 rc_190_13.2.2 rfl), ⟨⟨(by have ze12 : M202 190 12 = v179 := ((congrFun (congrFun e203 _) _).trans ((gset_ne (by omega)).trans hv179)); have ze13 : M202 190 13 = 0 := ((congrFun (congrFun e203 _) _).trans (gset_eq _ _ _ _)); have h9 := hh; rw [hv2]; rcases hR with ⟨r1, r2, r4⟩ | ⟨r1, r2, r3⟩; (first | (exact Or.inr ⟨by omega, by rw [r2, ze12], by omega⟩) | (exfalso; omega)); (first | (exact Or.inl ⟨by omega, by rw [r3]; exact gAd_e (by omega)⟩) | (exact Or.inr ⟨by omega, by rw [r3, ze12]; exact gAd_n (by omega) (by first | (left; omega) | (right; omega)), by omega⟩) | (exfalso; omega))), (((congrFun (congrFun e203 _) _).trans ((gset_ne (by omega)).trans hz)))⟩, ((congrFun (congrFun e203 _) _).trans ((gset_ne (by omega)).trans hW9)), (fun k k0 k1 k2 => ((congrFun (congrFun e203 _) _).trans ((gset_ne (by omega)).trans (hK9 k k0 k1 k2)))), (fun k k0 k1 k2 => ((congrFun (congrFun e203 _) _).trans ((gset_ne (by omega)).trans (hC9 k k0 k1 k2)))), (fun i j i0 i1 i2 j0 j1 => ⟨((congrFun (congrFun e203 _) _).trans ((gset_ne (by omega)).trans (hO9 i j i0 i1 i2 j0 j1).1)), ((congrFun (congrFun e203 _) _).trans ((gset_ne (by omega)).trans (hO9 i j i0 i1 i2 j0 j1).2))⟩), (fun g => by have zq := ((congrFun (congrFun e203 _) _).trans ((gset_ne (by omega)).trans hv179)); first | (exfalso; omega) | (obtain ⟨L, L1, L2, L3, L4⟩ := hM9 (by omega); exact ⟨L, by omega, ⟨L1.1, L3, by rw [hv2]; omega⟩, ((congrFun (congrFun e203 _) _).trans ((gset_ne (by omega)).trans L1.2)), fun j hj => ⟨((congrFun (congrFun e203 _) _).trans ((gset_ne (by omega)).trans (L4 j hj).1)), ((congrFun (congrFun e203 _) _).trans ((gset_ne (by omega)).trans (L4 j hj).2.1)), (L4 j hj).2.2⟩⟩))⟩⟩
                  · refine g_iconst (n := 197) X dX12_readsAct_196 rfl ?_
                    refine g_goto (tgt := 201) X dX12_readsAct_197 (by decide) ?_
                    refine gp_12_13 (n := 204) X (by decide) (gsz hsz (by decide)) lay_190 kw_6_39 (by omega) dX12_readsAct_201 rfl ?_
                    refine G.nm (fun M205 e206 => ?_)
                    have IM205 : gI sz M205 := gI.set IM137 rc_190_13.1 (by omega) e206
                    have CM205 : gC sz M205 := gC.set CM137 rc_190_13.2.1 e206
                    refine g_aload_n (n := 205) X 0 dX12_readsAct_204 rfl rfl rfl ?_
                    refine gg_12_13 (n := 208) (z := 1) X (by decide) (gsz hsz (by decide)) lay_190 kw_6_39 dX12_readsAct_205 rfl ((congrFun (congrFun e206 _) _).trans (gset_eq _ _ _ _)) ?_
                    refine g_if_ne (n := 211) (tgt := 215) X dX12_readsAct_208 (by decide) (by omega) rfl (fun c207 => ?_) (fun c207 => by exfalso; omega)
                    refine g_iconst (n := 216) X dX12_readsAct_215 rfl ?_
                    exact hq _ _ _ _ dX12_readsAct_216 (by omega) ⟨by omega, IM205, CM205, (gFr.s (gFr.c (gFr.c (gFr.s (gFr.s (gFr.s (gFr.s (gFr.s (gFr.s (gFr.s (gFr.c (gFr.s (gFr.s gFr.rf e4 (rs_AWEEK (k := a + 656) (by omega)).2.2 rfl) e6 (rs_ALONG (k := a + 668) (by omega)).2.2 rfl) FM8 rfl) e118 (rs_TAPED (k := 10) (by omega)).2.2 rfl) e120 (rs_LCOUNT (k := a + 24700) (by omega)).2.2 rfl) e122 rc_190_11.2.2 rfl) e124 rc_190_12.2.2 rfl) e126 rc_190_14.2.2 rfl) e128 rc_190_13.2.2 rfl) e130 rc_190_15.2.2 rfl) FM132 rfl) FM137 rfl) e206 rc_190_13.2.2 rfl), ⟨⟨(by have ze12 : M205 190 12 = v179 := ((congrFun (congrFun e206 _) _).trans ((gset_ne (by omega)).trans hv179)); have ze13 : M205 190 13 = 1 := ((congrFun (congrFun e206 _) _).trans (gset_eq _ _ _ _)); have h9 := hh; rw [hv2]; rcases hR with ⟨r1, r2, r4⟩ | ⟨r1, r2, r3⟩; (first | (exact Or.inr ⟨by omega, by rw [r2, ze12], by omega⟩) | (exfalso; omega)); (first | (exact Or.inl ⟨by omega, by rw [r3]; exact gAd_e (by omega)⟩) | (exact Or.inr ⟨by omega, by rw [r3, ze12]; exact gAd_n (by omega) (by first | (left; omega) | (right; omega)), by omega⟩) | (exfalso; omega))), (((congrFun (congrFun e206 _) _).trans ((gset_ne (by omega)).trans hz)))⟩, ((congrFun (congrFun e206 _) _).trans ((gset_ne (by omega)).trans hW9)), (fun k k0 k1 k2 => ((congrFun (congrFun e206 _) _).trans ((gset_ne (by omega)).trans (hK9 k k0 k1 k2)))), (fun k k0 k1 k2 => ((congrFun (congrFun e206 _) _).trans ((gset_ne (by omega)).trans (hC9 k k0 k1 k2)))), (fun i j i0 i1 i2 j0 j1 => ⟨((congrFun (congrFun e206 _) _).trans ((gset_ne (by omega)).trans (hO9 i j i0 i1 i2 j0 j1).1)), ((congrFun (congrFun e206 _) _).trans ((gset_ne (by omega)).trans (hO9 i j i0 i1 i2 j0 j1).2))⟩), (fun g => by have zq := ((congrFun (congrFun e206 _) _).trans ((gset_ne (by omega)).trans hv179)); first | (exfalso; omega) | (obtain ⟨L, L1, L2, L3, L4⟩ := hM9 (by omega); exact ⟨L, by omega, ⟨L1.1, L3, by rw [hv2]; omega⟩, ((congrFun (congrFun e206 _) _).trans ((gset_ne (by omega)).trans L1.2)), fun j hj => ⟨((congrFun (congrFun e206 _) _).trans ((gset_ne (by omega)).trans (L4 j hj).1)), ((congrFun (congrFun e206 _) _).trans ((gset_ne (by omega)).trans (L4 j hj).2.1)), (L4 j hj).2.2⟩⟩))⟩⟩
                · have hh59 : gTm M v179 = 59 := by omega
                  have l149 : v179 ≤ 149 := by have q1 := xv196.2; have q2 := hv179; omega
                  refine g_aload_n (n := 154) X 0 dX12_readsAct_153 rfl rfl rfl ?_
                  refine g_dup (n := 155) X dX12_readsAct_154 rfl rfl ?_
                  refine gg_12_12 (n := 158) (z := v179) X (by decide) (gsz hsz (by decide)) lay_190 kw_6_38 dX12_readsAct_155 rfl hv179 ?_
                  refine g_iconst (n := 159) X dX12_readsAct_158 rfl ?_
                  refine g_iadd (n := 160) (z := v179 + 1) X dX12_readsAct_159 (by omega) rfl ?_
                  refine gp_12_12 (n := 163) X (by decide) (gsz hsz (by decide)) lay_190 kw_6_38 dX12_readsAct_160 rfl ?_
                  refine G.nm (fun M208 e209 => ?_)
                  have IM208 : gI sz M208 := gI.set IM137 rc_190_12.1 (by omega) e209
                  have CM208 : gC sz M208 := gC.set CM137 rc_190_12.2.1 e209
                  refine g_aload_n (n := 164) X 0 dX12_readsAct_163 rfl rfl rfl ?_
                  refine g_iload_n (n := 165) X 1 dX12_readsAct_164 rfl rfl rfl ?_
                  have tM208_12 : M208 190 12 = v179 + 1 := ((congrFun (congrFun e209 _) _).trans (gset_eq _ _ _ _))
                  have tM208_14 : M208 190 14 = 0 := ((congrFun (congrFun e209 _) _).trans ((gset_ne (by omega)).trans ho5))
                  refine g_callVv (n := 168) (As := [gJ a]) (rest := []) (cs1 := 0) (ss1 := 0) X (e_X12_reads a (by omega) hsz IM208 CM208 (gW.fr (S := 2475884173752466105132122112) W ⟨sz, hsz, I⟩ (gFr.s (gFr.c (gFr.c (gFr.s (gFr.s (gFr.s (gFr.s (gFr.s (gFr.s (gFr.s (gFr.c (gFr.s (gFr.s gFr.rf e4 (rs_AWEEK (k := a + 656) (by omega)).2.2 rfl) e6 (rs_ALONG (k := a + 668) (by omega)).2.2 rfl) FM8 rfl) e118 (rs_TAPED (k := 10) (by omega)).2.2 rfl) e120 (rs_LCOUNT (k := a + 24700) (by omega)).2.2 rfl) e122 rc_190_11.2.2 rfl) e124 rc_190_12.2.2 rfl) e126 rc_190_14.2.2 rfl) e128 rc_190_13.2.2 rfl) e130 rc_190_15.2.2 rfl) FM132 rfl) FM137 rfl) e209 rc_190_12.2.2 rfl) rfl) (by have q1 := ((congrFun (congrFun e209 _) _).trans ((gset_ne (by omega)).trans h15)); have q2 := ((congrFun (congrFun e209 _) _).trans ((gset_ne (by omega)).trans ((gFr.at FM137 (rs_PERS (k := 1) (by omega)).2.2 rfl).trans ((gFr.at FM132 (rs_PERS (k := 1) (by omega)).2.2 rfl).trans ((congrFun (congrFun e130 _) _).trans ((gset_ne (by omega)).trans ((congrFun (congrFun e128 _) _).trans ((gset_ne (by omega)).trans ((congrFun (congrFun e126 _) _).trans ((gset_ne (by omega)).trans ((congrFun (congrFun e124 _) _).trans ((gset_ne (by omega)).trans ((congrFun (congrFun e122 _) _).trans ((gset_ne (by omega)).trans ((congrFun (congrFun e120 _) _).trans ((gset_ne (by omega)).trans ((congrFun (congrFun e118 _) _).trans ((gset_ne (by omega)).trans ((gFr.at FM8 (rs_PERS (k := 1) (by omega)).2.2 rfl).trans ((congrFun (congrFun e6 _) _).trans ((gset_ne (by omega)).trans ((congrFun (congrFun e4 _) _).trans ((gset_ne (by omega)).trans hv1))))))))))))))))))))))); omega) (by have h1 := ((congrFun (congrFun e209 _) _).trans ((gset_ne (by omega)).trans ho5)); omega) (by have h1 := ((congrFun (congrFun e209 _) _).trans ((gset_ne (by omega)).trans hv180)); omega) (by have h1 := ((congrFun (congrFun e209 _) _).trans (gset_eq _ _ _ _)); omega) (((congrFun (congrFun e209 _) _).trans ((gset_ne (by omega)).trans h11))) (by have q1 := ((congrFun (congrFun e209 _) _).trans ((gset_ne (by omega)).trans hv181)); omega)) okX12_reads kw_7_3 ⟨kw_7_5, kw_0_56⟩ ⟨rfl, rfl⟩ ⟨Nat.le_of_ble_eq_true rfl, Nat.le_of_ble_eq_true rfl⟩ rfl (by decide) (gsz hsz (by decide)) lay_190 rfl rfl (Nat.le_of_ble_eq_true rfl) ⟨Nat.le_of_ble_eq_true rfl, Nat.le_of_ble_eq_true rfl⟩ rfl rfl dX12_readsAct_165 rfl (fun M211 P212 => ?_)
                  obtain ⟨IM211, CM211, FM211, xM211⟩ := P212
                  have yM211 := xM211.2.2.1
                  have uM211 := xM211.1.1
                  rw [show gTx M208 = gTm M from ((gTx.fr hsz IM137 ((gFr.s gFr.rf e209 rc_190_12.2.2 rfl) : gFr 147573952589676412928 M137 M208) rfl).trans hT)] at yM211
                  rw [show M208 190 12 = v179 + 1 from ((congrFun (congrFun e209 _) _).trans (gset_eq _ _ _ _))] at yM211 uM211
                  obtain ⟨v213, hv213, rv213⟩ := gRd IM211 (by decide) (gsz hsz (by decide)) rc_190_12.1
                  obtain ⟨v214, hv214, rv214⟩ := gRd IM211 (by decide) (gsz hsz (by decide)) rc_190_13.1
                  rw [hv213] at uM211; rw [hv213, hv214] at yM211
                  rw [show M208 191 (a + 24700) = v181 from ((congrFun (congrFun e209 _) _).trans ((gset_ne (by omega)).trans hv181))] at yM211
                  obtain ⟨v215, hv215, rv215⟩ := gRd IM211 (by decide) (gsz hsz (by decide)) (rs_LCOUNT (k := a + 24700) (by omega)).1
                  rw [hv215] at yM211
                  have wM211 := xM211.2.2.2
                  rw [show M208 191 (a + 24700) = v181 from ((congrFun (congrFun e209 _) _).trans ((gset_ne (by omega)).trans hv181))] at wM211
                  refine g_goto (tgt := 122) X dX12_readsAct_168 (by decide) ?_
                  exact ih177 M211 IM211 CM211 (gFr.c (gFr.s (gFr.c gFr.rf FM137 rfl) e209 rc_190_12.2.2 rfl) FM211 rfl) (((wM211.2.1 _ (by omega) (by omega)).trans (((congrFun (congrFun e209 _) _).trans (gset_ne (by omega))).trans rfl)).trans hW9) (fun k k0 k1 k2 => ((wM211.2.1 _ (by omega) (by omega)).trans (((congrFun (congrFun e209 _) _).trans (gset_ne (by omega))).trans rfl)).trans (hK9 k k0 k1 k2)) (fun k k0 k1 k2 => ((wM211.2.2 _ (by omega) (by omega) (by omega)).trans (((congrFun (congrFun e209 _) _).trans (gset_ne (by omega))).trans rfl)).trans (hC9 k k0 k1 k2)) (fun i j i0 i1 i2 j0 j1 => ⟨((wM211.1 _ (by omega) (by omega) (by omega) (by omega)).trans (((congrFun (congrFun e209 _) _).trans (gset_ne (by omega))).trans rfl)).trans (hO9 i j i0 i1 i2 j0 j1).1, ((wM211.1 _ (by omega) (by omega) (by omega) (by omega)).trans (((congrFun (congrFun e209 _) _).trans (gset_ne (by omega))).trans rfl)).trans (hO9 i j i0 i1 i2 j0 j1).2⟩) (fun h13 => by have ze12 : M211 190 12 = v213 := hv213; have ze13 : M211 190 13 = v214 := hv214; have zeL : M211 191 (a + 24700) = v215 := hv215; rcases yM211 with ⟨a1, _⟩ | ⟨a1, a2, a3, a4, a5, a6, a7⟩; (exfalso; omega); obtain ⟨L, L1, L2, L3, L4⟩ := hM9 (by omega); exact gM_next L1 L2 L3 L4 (by omega) hh59 a3 a5 a6 a7 (by omega) (by omega) ze12 (fun j hj => ⟨(wM211.1 _ (by omega) (by omega) (by omega) (by omega)).trans (((congrFun (congrFun e209 _) _).trans (gset_ne (by omega))).trans rfl), (wM211.1 _ (by omega) (by omega) (by omega) (by omega)).trans (((congrFun (congrFun e209 _) _).trans (gset_ne (by omega))).trans rfl)⟩)) (xM211.2.1.trans ((gTx.fr hsz IM137 ((gFr.s gFr.rf e209 rc_190_12.2.2 rfl) : gFr 147573952589676412928 M137 M208) rfl).trans hT)) (by have ze12 : M211 190 12 = v213 := hv213; have ze13 : M211 190 13 = v214 := hv214; have zeL : M211 191 (a + 24700) = v215 := hv215; have t59 := hh59; rcases hR with ⟨r1, _⟩ | ⟨r1, r2, r3⟩; (exfalso; omega); have g0 := r3; rw [gAd_s (by intro c; rw [c, gTm_o (by have := zN; omega)] at t59; omega) (by omega) t59, show (8 - v181).toNat = (8 - (v181 + 1)).toNat + 1 by omega, show v179 + 1 = v179 + 1 by omega] at g0; rcases yM211 with ⟨a1, a2⟩ | ⟨a1, a2, a3, a4⟩; (exact Or.inl ⟨by omega, by rw [g0, ze12]; exact gAct_bad a2 (by omega), by omega⟩); (refine Or.inr ⟨by omega, by omega, ?_⟩; rw [g0, gAct_d (q := v213) a3 (by omega), ze12, zeL]; first | rfl | (rw [show (8 - (v181 + 1)).toNat = (8 - v215).toNat by omega]))) (by have h1 := (xM211.1.2.1.trans ((congrFun (congrFun e209 _) _).trans ((gset_ne (by omega)).trans ho5))); omega) (((gFr.at FM211 (rs_TAPED (k := 10) (by omega)).2.2 rfl).trans ((congrFun (congrFun e209 _) _).trans ((gset_ne (by omega)).trans hz)))) (((gFr.at FM211 rc_190_11.2.2 rfl).trans ((congrFun (congrFun e209 _) _).trans ((gset_ne (by omega)).trans h11)))) ((xM211.1.2.2.trans ((congrFun (congrFun e209 _) _).trans ((gset_ne (by omega)).trans hA8)))) (((gFr.at FM211 rc_190_15.2.2 rfl).trans ((congrFun (congrFun e209 _) _).trans ((gset_ne (by omega)).trans h15)))) (by have q1 := hv213; have uu := uM211; omega)
        refine G.sub (L' := [(0, gA n0 190), (1, gJ a)]) [0, 1] rfl ?_
        exact j138 _ M132 IM132 CM132 gFr.rf (((wM132.2.1 _ (by omega) (by omega)).trans (((congrFun (congrFun e130 _) _).trans (gset_ne (by omega))).trans (((congrFun (congrFun e128 _) _).trans (gset_ne (by omega))).trans (((congrFun (congrFun e126 _) _).trans (gset_ne (by omega))).trans (((congrFun (congrFun e124 _) _).trans (gset_ne (by omega))).trans (((congrFun (congrFun e122 _) _).trans (gset_ne (by omega))).trans (((congrFun (congrFun e120 _) _).trans (gset_ne (by omega))).trans (((congrFun (congrFun e118 _) _).trans (gset_ne (by omega))).trans ((hcp2 _ (by omega)).trans (((congrFun (congrFun e6 _) _).trans (gset_ne (by omega))).trans ((congrFun (congrFun e4 _) _).trans (gset_eq _ _ _ _))))))))))))) (fun k k0 k1 k2 => ((wM132.2.1 _ (by omega) (by omega)).trans (((congrFun (congrFun e130 _) _).trans (gset_ne (by omega))).trans (((congrFun (congrFun e128 _) _).trans (gset_ne (by omega))).trans (((congrFun (congrFun e126 _) _).trans (gset_ne (by omega))).trans (((congrFun (congrFun e124 _) _).trans (gset_ne (by omega))).trans (((congrFun (congrFun e122 _) _).trans (gset_ne (by omega))).trans (((congrFun (congrFun e120 _) _).trans (gset_ne (by omega))).trans (((congrFun (congrFun e118 _) _).trans (gset_ne (by omega))).trans ((hcp2 _ (by omega)).trans (((congrFun (congrFun e6 _) _).trans (gset_ne (by omega))).trans (((congrFun (congrFun e4 _) _).trans (gset_ne (by omega))).trans rfl)))))))))))) (fun k k0 k1 k2 => ((wM132.2.2 _ (by omega) (by omega) (by omega)).trans (((congrFun (congrFun e130 _) _).trans (gset_ne (by omega))).trans (((congrFun (congrFun e128 _) _).trans (gset_ne (by omega))).trans (((congrFun (congrFun e126 _) _).trans (gset_ne (by omega))).trans (((congrFun (congrFun e124 _) _).trans (gset_ne (by omega))).trans (((congrFun (congrFun e122 _) _).trans (gset_ne (by omega))).trans (((congrFun (congrFun e120 _) _).trans (gset_ne (by omega))).trans (((congrFun (congrFun e118 _) _).trans (gset_ne (by omega))).trans ((hcp2 _ (by omega)).trans (((congrFun (congrFun e6 _) _).trans (gset_ne (by omega))).trans (((congrFun (congrFun e4 _) _).trans (gset_ne (by omega))).trans rfl)))))))))))) (fun i j i0 i1 i2 j0 j1 => ⟨((wM132.1 _ (by omega) (by omega) (by omega) (by omega)).trans (((congrFun (congrFun e130 _) _).trans (gset_ne (by omega))).trans (((congrFun (congrFun e128 _) _).trans (gset_ne (by omega))).trans (((congrFun (congrFun e126 _) _).trans (gset_ne (by omega))).trans (((congrFun (congrFun e124 _) _).trans (gset_ne (by omega))).trans (((congrFun (congrFun e122 _) _).trans (gset_ne (by omega))).trans (((congrFun (congrFun e120 _) _).trans (gset_ne (by omega))).trans (((congrFun (congrFun e118 _) _).trans (gset_ne (by omega))).trans ((hcp2 _ (by omega)).trans (((congrFun (congrFun e6 _) _).trans (gset_ne (by omega))).trans (((congrFun (congrFun e4 _) _).trans (gset_ne (by omega))).trans rfl))))))))))), ((wM132.1 _ (by omega) (by omega) (by omega) (by omega)).trans (((congrFun (congrFun e130 _) _).trans (gset_ne (by omega))).trans (((congrFun (congrFun e128 _) _).trans (gset_ne (by omega))).trans (((congrFun (congrFun e126 _) _).trans (gset_ne (by omega))).trans (((congrFun (congrFun e124 _) _).trans (gset_ne (by omega))).trans (((congrFun (congrFun e122 _) _).trans (gset_ne (by omega))).trans (((congrFun (congrFun e120 _) _).trans (gset_ne (by omega))).trans (((congrFun (congrFun e118 _) _).trans (gset_ne (by omega))).trans ((hcp2 _ (by omega)).trans (((congrFun (congrFun e6 _) _).trans (gset_ne (by omega))).trans (((congrFun (congrFun e4 _) _).trans (gset_ne (by omega))).trans rfl)))))))))))⟩) (fun h13 => by have ze12 : M132 190 12 = v134 := hv134; have ze13 : M132 190 13 = v135 := hv135; have zeL : M132 191 (a + 24700) = v136 := hv136; rcases yM132 with ⟨a1, _⟩ | ⟨a1, a2, a3, a4, a5, a6, a7⟩; (exfalso; omega); exact gM_first a2 a3 (by omega) (by omega) a5 a6 a7 (by omega) ze12) (xM132.2.1.trans hT0) (by have ze12 : M132 190 12 = v134 := hv134; have ze13 : M132 190 13 = v135 := hv135; have zeL : M132 191 (a + 24700) = v136 := hv136; have g0 : gAct (gTm M) v2 8 0 = gAct (gTm M) v2 (7 + 1) 0 := rfl; rcases yM132 with ⟨a1, a2⟩ | ⟨a1, a2, a3, a4⟩; (exact Or.inl ⟨by omega, by rw [g0, ze12]; exact gAct_bad a2 (by omega), by omega⟩); (refine Or.inr ⟨by omega, by omega, ?_⟩; rw [g0, gAct_d (q := v134) a3 (by omega), ze12, zeL]; first | rfl | (rw [show 7 = (8 - v136).toNat by omega]))) (by have h1 := (xM132.1.2.1.trans ((congrFun (congrFun e130 _) _).trans ((gset_ne (by omega)).trans ((congrFun (congrFun e128 _) _).trans ((gset_ne (by omega)).trans ((congrFun (congrFun e126 _) _).trans (gset_eq _ _ _ _))))))); omega) (((gFr.at FM132 (rs_TAPED (k := 10) (by omega)).2.2 rfl).trans ((congrFun (congrFun e130 _) _).trans ((gset_ne (by omega)).trans ((congrFun (congrFun e128 _) _).trans ((gset_ne (by omega)).trans ((congrFun (congrFun e126 _) _).trans ((gset_ne (by omega)).trans ((congrFun (congrFun e124 _) _).trans ((gset_ne (by omega)).trans ((congrFun (congrFun e122 _) _).trans ((gset_ne (by omega)).trans ((congrFun (congrFun e120 _) _).trans ((gset_ne (by omega)).trans ((congrFun (congrFun e118 _) _).trans (gset_eq _ _ _ _)))))))))))))))) (((gFr.at FM132 rc_190_11.2.2 rfl).trans ((congrFun (congrFun e130 _) _).trans ((gset_ne (by omega)).trans ((congrFun (congrFun e128 _) _).trans ((gset_ne (by omega)).trans ((congrFun (congrFun e126 _) _).trans ((gset_ne (by omega)).trans ((congrFun (congrFun e124 _) _).trans ((gset_ne (by omega)).trans ((congrFun (congrFun e122 _) _).trans (gset_eq _ _ _ _)))))))))))) ((xM132.1.2.2.trans ((congrFun (congrFun e130 _) _).trans ((gset_ne (by omega)).trans ((congrFun (congrFun e128 _) _).trans ((gset_ne (by omega)).trans ((congrFun (congrFun e126 _) _).trans ((gset_ne (by omega)).trans ((congrFun (congrFun e124 _) _).trans ((gset_ne (by omega)).trans ((congrFun (congrFun e122 _) _).trans ((gset_ne (by omega)).trans ((congrFun (congrFun e120 _) _).trans ((gset_ne (by omega)).trans ((congrFun (congrFun e118 _) _).trans ((gset_ne (by omega)).trans hA)))))))))))))))) (((gFr.at FM132 rc_190_15.2.2 rfl).trans ((congrFun (congrFun e130 _) _).trans (gset_eq _ _ _ _)))) (Nat.lt_succ_self _)
      · refine g_aload_n (n := 42) X 0 dX12_readsAct_41 rfl rfl rfl ?_
        refine gg_12_1 (n := 45) (z := 191) X (by decide) (gsz hsz (by decide)) lay_190 kw_6_27 dX12_readsAct_42 rfl (rf_190_1 IM8 (gsz hsz (by decide))) (by decide) ?_
        refine g_sipush (n := 48) X dX12_readsAct_45 (by decide +kernel) rfl ?_
        refine g_sipush (n := 51) X dX12_readsAct_48 (by decide +kernel) rfl ?_
        refine g_iload_n (n := 52) X 1 dX12_readsAct_51 rfl rfl rfl ?_
        refine g_imul (n := 53) (z := 150 * a) X dX12_readsAct_52 rfl rfl ?_
        refine g_iadd (n := 54) (z := 680 + (150 * a)) X dX12_readsAct_53 rfl rfl ?_
        refine g_iload_n (n := 55) X 2 dX12_readsAct_54 rfl rfl rfl ?_
        refine g_iadd (n := 56) (z := (680 + (150 * a)) + v7) X dX12_readsAct_55 rfl rfl ?_
        refine g_aload_n (n := 57) X 0 dX12_readsAct_56 rfl rfl rfl ?_
        refine gg_12_1 (n := 60) (z := 191) X (by decide) (gsz hsz (by decide)) lay_190 kw_6_27 dX12_readsAct_57 rfl (rf_190_1 IM8 (gsz hsz (by decide))) (by decide) ?_
        refine g_sipush (n := 63) X dX12_readsAct_60 (by decide +kernel) rfl ?_
        refine g_iload_n (n := 64) X 2 dX12_readsAct_63 rfl rfl rfl ?_
        refine g_iadd (n := 65) (z := v7 + 2620) X dX12_readsAct_64 (by omega) rfl ?_
        obtain ⟨v216, hv216, rv216⟩ := gRd IM8 (by decide) (gsz hsz (by decide)) (rs_TAPE (k := v7 + 2620) (by omega)).1
        refine g_iald2 (n := 66) (v := v216) X (by decide) (gsz hsz (by decide)) lay_191 (by omega) (by omega) (by decide) dX12_readsAct_65 rfl hv216 ?_
        refine g_iast (n := 67) X (by decide) (gsz hsz (by decide)) lay_191 (by omega) (by omega) (by decide) dX12_readsAct_66 rfl ?_
        refine G.nm (fun M217 e218 => ?_)
        have IM217 : gI sz M217 := gI.set IM8 (rs_ATEXT (k := (680 + (150 * a)) + v7) (by omega)).1 (by omega) e218
        have CM217 : gC sz M217 := gC.set CM8 (rs_ATEXT (k := (680 + (150 * a)) + v7) (by omega)).2.1 e218
        refine g_iinc (n := 70) (w := v7 + 1) (L' := [(3, gJ (v7 + 1)), (0, gA n0 190), (1, gJ a)]) X 2 dX12_readsAct_67 rfl rfl (by decide) rfl rfl ?_
        refine g_goto (tgt := 30) X dX12_readsAct_70 (by decide) ?_
        refine G.sub (L' := [(0, gA n0 190), (1, gJ a), (3, gJ (v7 + 1))]) [1, 2, 0] rfl ?_
        exact ih114 (v7 + 1) M217 (by omega) IM217 CM217 (gFr.s (gFr.c gFr.rf FM8 rfl) e218 (rs_ATEXT (k := (680 + (150 * a)) + v7) (by omega)).2.2 rfl) (fun k hk => (congrFun (congrFun e218 _) _).trans ((gset_ne (by omega)).trans (hcp2 k hk))) (fun i h0 h1 => by by_cases c : i = v7; (rw [c, e218, gset_eq]; exact hv216.symm.trans (gFr.at ((gFr.c (gFr.s (gFr.s gFr.rf e4 (rs_AWEEK (k := a + 656) (by omega)).2.2 rfl) e6 (rs_ALONG (k := a + 668) (by omega)).2.2 rfl) FM8 rfl) : gFr 4503599627370496 M M8) (rs_TAPE (k := v7 + 2620) (by omega)).2.2 rfl)); (rw [e218, gset_ne (by omega)]; exact hc i h0 (by omega))) (((congrFun (congrFun e218 _) _).trans ((gset_ne (by omega)).trans hA))) (by omega)
  refine G.sub (L' := [(0, gA n0 190), (1, gJ a), (3, gJ 0)]) [1, 2, 0] rfl ?_
  exact j9 _ 0 M5 (by omega) IM5 CM5 gFr.rf (fun k hk => rfl) (fun i h0 h1 => by exfalso; omega) (((congrFun (congrFun e6 _) _).trans (gset_eq _ _ _ _))) (Nat.lt_succ_self _)
abbrev R_e_X12_text : Room := { frames := 133, cells := 0, slots := 0, locals := 5629 }
set_option maxRecDepth 100000 in
set_option maxHeartbeats 4000000 in
theorem e_X12_text {l : Launch} {n0 : Nat} {D : va_G} {cA : Nat → ClassId} {M : gM} (a : Int) (r_a : -2147483648 ≤ a ∧ a ≤ 2147483647) {sz : Nat} (hsz : 206 ≤ sz) (I : gI sz M) (C : gC sz M) (W : gW 191 M) (q_191_4 : 0 ≤ M 191 4 ∧ M 191 4 ≤ 10)  : Met l yX12_text (gWsOf yX12_text cX12_text 2 (Option.some Jvm.ClassFile.FieldType.int)) R_e_X12_text (gPc n0 D cA [gA n0 190, gJ a] M sz) (gQi n0 D cA sz (fun z M1 => (-160 ≤ z ∧ z ≤ 9) ∧ gI sz M1 ∧ gC sz M1 ∧ gFr 2475884764048276738715680768 M M1 ∧ (M1 191 4 ≤ 10 ∧ ((¬ (0 ≤ a ∧ a ≤ 300) ∧ z = -2 ∧ M1 191 4 = M 191 4 ∧ M1 191 10 = M 191 10) ∨ ((0 ≤ a ∧ a ≤ 300) ∧ M 191 4 = 10 ∧ z = -4 ∧ M1 191 4 = M 191 4 ∧ M1 191 10 = M 191 10) ∨ (((0 ≤ a ∧ a ≤ 300) ∧ M 191 4 < 10) ∧ gAct (gTm M) (M 191 10) 8 0 = -1 ∧ z = M 191 4 ∧ M1 191 4 = M 191 4 + 1 ∧ M1 191 10 = 0) ∨ (((0 ≤ a ∧ a ≤ 300) ∧ M 191 4 < 10) ∧ ¬ gAct (gTm M) (M 191 10) 8 0 = -1 ∧ z = -10 - gAct (gTm M) (M 191 10) 8 0 ∧ M1 191 4 = M 191 4 ∧ M1 191 10 = 0)) ∧ (∀ i : Int, 0 ≤ i → i ≤ 10 → ¬ i = M 191 4 → M1 191 (i + 656) = M 191 (i + 656) ∧ M1 191 (i + 24700) = M 191 (i + 24700) ∧ (∀ j : Int, 0 ≤ j → j < 8 → M1 191 (8 * i + j + 24720) = M 191 (8 * i + j + 24720) ∧ M1 191 (8 * i + j + 24810) = M 191 (8 * i + j + 24810))) ∧ (0 ≤ z → M1 191 (M 191 4 + 656) = a ∧ (∃ m : Nat, m ≤ 8 ∧ gFin (gTm M) (M 191 10) m ∧ M1 191 (M 191 4 + 24700) = (m : Int) ∧ (∀ j : Nat, j < m → M1 191 (8 * M 191 4 + (j : Int) + 24720) = (gCl (gTm M) (gPl (gTm M) j)).1 ∧ M1 191 (8 * M 191 4 + (j : Int) + 24810) = (gCl (gTm M) (gPl (gTm M) j)).2.1 ∧ 0 ≤ (gCl (gTm M) (gPl (gTm M) j)).2.1)))))) 0 0 (fun q => n0 ≤ q) := by
  refine gMetI [gA n0 190, gJ a] (by decide) (Nat.le_of_ble_eq_true rfl) ⟨rfl, rfl⟩ ?_
  intro p e s m args below meth cd Q X hq
  have X : gCx p s m args meth cd n0 D cA "ParishUnionModel" cX12_text 2 := X
  show G p l e R_e_X12_text s m args below meth cd n0 D cA 2 Q 0 0 M sz 0 [(0, gA n0 190), (1, gJ a)] []
  obtain ⟨v1, hv1, rv1⟩ := gRd I (by decide) (gsz hsz (by decide)) (rs_PERS (k := 1) (by omega)).1
  obtain ⟨v2, hv2, rv2⟩ := gRd I (by decide) (gsz hsz (by decide)) (rs_NA (k := 4) (by omega)).1
  obtain ⟨v3, hv3, rv3⟩ := gRd I (by decide) (gsz hsz (by decide)) (rs_TAPED (k := 10) (by omega)).1
  refine g_iload_n (n := 1) X 1 dX12_text_0 rfl rfl rfl ?_
  refine g_callSi (n := 4) (As := [gJ a]) (rest := []) (cs1 := 0) (ss1 := 0) X (s_X12_isWeek a (by omega) hsz I C ) okX12_isWeek kw_6_236 kw_6_237 ⟨rfl, rfl⟩ ⟨Nat.le_of_ble_eq_true rfl, Nat.le_of_ble_eq_true rfl⟩ rfl rfl (Nat.le_of_ble_eq_true rfl) ⟨Nat.le_of_ble_eq_true rfl, Nat.le_of_ble_eq_true rfl⟩ rfl rfl dX12_text_1 rfl (fun v4 M5 P6 => ?_)
  obtain ⟨rfl, rv4, xv4⟩ := P6
  refine g_if_ne (n := 7) (tgt := 10) X dX12_text_4 (by decide) (by omega) rfl (fun c7 => ?_) (fun c7 => ?_)
  · refine g_aload_n (n := 11) X 0 dX12_text_10 rfl rfl rfl ?_
    refine gg_12_1 (n := 14) (z := 191) X (by decide) (gsz hsz (by decide)) lay_190 kw_6_27 dX12_text_11 rfl (rf_190_1 I (gsz hsz (by decide))) (by decide) ?_
    refine g_iconst (n := 15) X dX12_text_14 rfl ?_
    refine g_iald2 (n := 16) (v := v2) X (by decide) (gsz hsz (by decide)) lay_191 (by omega) (by omega) (by decide) dX12_text_15 rfl hv2 ?_
    refine g_bipush (n := 18) X dX12_text_16 (by decide +kernel) rfl ?_
    refine g_icmp_ne (n := 21) (tgt := 24) X dX12_text_18 (by decide) (by omega) (by omega) rfl (fun c8 => ?_) (fun c8 => ?_)
    · refine g_aload_n (n := 25) X 0 dX12_text_24 rfl rfl rfl ?_
      refine g_aload_n (n := 26) X 0 dX12_text_25 rfl rfl rfl ?_
      refine gg_12_1 (n := 29) (z := 191) X (by decide) (gsz hsz (by decide)) lay_190 kw_6_27 dX12_text_26 rfl (rf_190_1 I (gsz hsz (by decide))) (by decide) ?_
      refine g_iconst (n := 30) X dX12_text_29 rfl ?_
      refine g_iald2 (n := 31) (v := v2) X (by decide) (gsz hsz (by decide)) lay_191 (by omega) (by omega) (by decide) dX12_text_30 rfl hv2 ?_
      refine g_iload_n (n := 32) X 1 dX12_text_31 rfl rfl rfl ?_
      refine g_callVi (n := 35) (As := [gJ v2, gJ a]) (rest := []) (cs1 := 0) (ss1 := 0) X (e_X12_readsAct v2 (by omega) a (by omega) hsz I C W) okX12_readsAct kw_6_239 ⟨kw_7_1, kw_0_55⟩ ⟨rfl, rfl⟩ ⟨Nat.le_of_ble_eq_true rfl, Nat.le_of_ble_eq_true rfl⟩ rfl (by decide) (gsz hsz (by decide)) lay_190 rfl rfl (Nat.le_of_ble_eq_true rfl) ⟨Nat.le_of_ble_eq_true rfl, Nat.le_of_ble_eq_true rfl⟩ rfl rfl dX12_text_32 rfl (fun v9 M10 P11 => ?_)
      obtain ⟨rv9, IM10, CM10, FM10, xM10⟩ := P11
      refine g_if_ne (n := 38) (tgt := 46) X dX12_text_35 (by decide) (by omega) rfl (fun c12 => ?_) (fun c12 => ?_)
      · refine g_aload_n (n := 47) X 0 dX12_text_46 rfl rfl rfl ?_
        refine gg_12_1 (n := 50) (z := 191) X (by decide) (gsz hsz (by decide)) lay_190 kw_6_27 dX12_text_47 rfl (rf_190_1 IM10 (gsz hsz (by decide))) (by decide) ?_
        refine g_iconst (n := 51) X dX12_text_50 rfl ?_
        refine g_dup2 (n := 52) X dX12_text_51 rfl rfl rfl ?_
        refine g_iald2 (n := 53) (v := v2) X (by decide) (gsz hsz (by decide)) lay_191 (by omega) (by omega) (by decide) dX12_text_52 rfl ((gFr.at FM10 (rs_NA (k := 4) (by omega)).2.2 rfl).trans hv2) ?_
        refine g_iconst (n := 54) X dX12_text_53 rfl ?_
        refine g_iadd (n := 55) (z := v2 + 1) X dX12_text_54 (by omega) rfl ?_
        refine g_iast (n := 56) X (by decide) (gsz hsz (by decide)) lay_191 (by omega) (by omega) (by decide) dX12_text_55 rfl ?_
        refine G.nm (fun M13 e14 => ?_)
        have IM13 : gI sz M13 := gI.set IM10 (rs_NA (k := 4) (by omega)).1 (by omega) e14
        have CM13 : gC sz M13 := gC.set CM10 (rs_NA (k := 4) (by omega)).2.1 e14
        refine g_aload_n (n := 57) X 0 dX12_text_56 rfl rfl rfl ?_
        refine g_dup (n := 58) X dX12_text_57 rfl rfl ?_
        obtain ⟨v15, hv15, rv15⟩ := gRd IM13 (by decide) (gsz hsz (by decide)) rc_190_19.1
        refine gg_12_19 (n := 61) (z := v15) X (by decide) (gsz hsz (by decide)) lay_190 kw_6_45 dX12_text_58 rfl hv15 ?_
        refine g_iconst (n := 62) X dX12_text_61 rfl ?_
        refine g_iaddA (n := 63) X dX12_text_62 rfl (fun v16 rv16 xv16 => ?_)
        clear xv16
        refine gp_12_19 (n := 66) X (by decide) (gsz hsz (by decide)) lay_190 kw_6_45 dX12_text_63 rfl ?_
        refine G.nm (fun M17 e18 => ?_)
        have IM17 : gI sz M17 := gI.set IM13 rc_190_19.1 (by omega) e18
        have CM17 : gC sz M17 := gC.set CM13 rc_190_19.2.1 e18
        refine g_aload_n (n := 67) X 0 dX12_text_66 rfl rfl rfl ?_
        refine gg_12_1 (n := 70) (z := 191) X (by decide) (gsz hsz (by decide)) lay_190 kw_6_27 dX12_text_67 rfl (rf_190_1 IM17 (gsz hsz (by decide))) (by decide) ?_
        refine g_iconst (n := 71) X dX12_text_70 rfl ?_
        refine g_iald2 (n := 72) (v := v2 + 1) X (by decide) (gsz hsz (by decide)) lay_191 (by omega) (by omega) (by decide) dX12_text_71 rfl ((congrFun (congrFun e18 _) _).trans ((gset_ne (by omega)).trans ((congrFun (congrFun e14 _) _).trans (gset_eq _ _ _ _)))) ?_
        refine g_iconst (n := 73) X dX12_text_72 rfl ?_
        refine g_isub (n := 74) (z := v2) X dX12_text_73 (by omega) rfl ?_
        exact hq _ _ _ _ dX12_text_74 ⟨by omega, IM17, CM17, (gFr.s (gFr.s (gFr.c gFr.rf FM10 rfl) e14 (rs_NA (k := 4) (by omega)).2.2 rfl) e18 rc_190_19.2.2 rfl), ⟨(by have zb4 : M 191 4 = v2 := hv2; have ze4 : M17 191 4 = v2 + 1 := ((congrFun (congrFun e18 _) _).trans ((gset_ne (by omega)).trans ((congrFun (congrFun e14 _) _).trans (gset_eq _ _ _ _)))); have zb10 : M 191 10 = v3 := hv3; have ze10 : M17 191 10 = 0 := ((congrFun (congrFun e18 _) _).trans ((gset_ne (by omega)).trans ((congrFun (congrFun e14 _) _).trans ((gset_ne (by omega)).trans xM10.1.2)))); have y := xM10.1.1; clear xM10; omega), (by have zb4 : M 191 4 = v2 := hv2; have ze4 : M17 191 4 = v2 + 1 := ((congrFun (congrFun e18 _) _).trans ((gset_ne (by omega)).trans ((congrFun (congrFun e14 _) _).trans (gset_eq _ _ _ _)))); have zb10 : M 191 10 = v3 := hv3; have ze10 : M17 191 10 = 0 := ((congrFun (congrFun e18 _) _).trans ((gset_ne (by omega)).trans ((congrFun (congrFun e14 _) _).trans ((gset_ne (by omega)).trans xM10.1.2)))); have y := xM10.1.1; clear xM10; omega), (fun i i0 i1 i2 => by have z4 : M 191 4 = v2 := hv2; exact ⟨((congrFun (congrFun e18 _) _).trans ((gset_ne (by omega)).trans ((congrFun (congrFun e14 _) _).trans ((gset_ne (by omega)).trans (xM10.2.2.1 _ (by omega) (by omega) (by omega)))))), ((congrFun (congrFun e18 _) _).trans ((gset_ne (by omega)).trans ((congrFun (congrFun e14 _) _).trans ((gset_ne (by omega)).trans (xM10.2.2.2.1 _ (by omega) (by omega) (by omega)))))), fun j j0 j1 => ⟨((congrFun (congrFun e18 _) _).trans ((gset_ne (by omega)).trans ((congrFun (congrFun e14 _) _).trans ((gset_ne (by omega)).trans (xM10.2.2.2.2.1 i j i0 i1 (by omega) j0 j1).1)))), ((congrFun (congrFun e18 _) _).trans ((gset_ne (by omega)).trans ((congrFun (congrFun e14 _) _).trans ((gset_ne (by omega)).trans (xM10.2.2.2.2.1 i j i0 i1 (by omega) j0 j1).2))))⟩⟩), (fun g => by have z4 : M 191 4 = v2 := hv2; rw [z4]; obtain ⟨m, m1, m2, m3, m4⟩ := xM10.2.2.2.2.2 (by have zb4 : M 191 4 = v2 := hv2; have ze4 : M17 191 4 = v2 + 1 := ((congrFun (congrFun e18 _) _).trans ((gset_ne (by omega)).trans ((congrFun (congrFun e14 _) _).trans (gset_eq _ _ _ _)))); have zb10 : M 191 10 = v3 := hv3; have ze10 : M17 191 10 = 0 := ((congrFun (congrFun e18 _) _).trans ((gset_ne (by omega)).trans ((congrFun (congrFun e14 _) _).trans ((gset_ne (by omega)).trans xM10.1.2)))); have y := xM10.1.1; clear xM10; omega); exact ⟨((congrFun (congrFun e18 _) _).trans ((gset_ne (by omega)).trans ((congrFun (congrFun e14 _) _).trans ((gset_ne (by omega)).trans xM10.2.1)))), m, m1, m2, ((congrFun (congrFun e18 _) _).trans ((gset_ne (by omega)).trans ((congrFun (congrFun e14 _) _).trans ((gset_ne (by omega)).trans m3)))), fun j hj => ⟨((congrFun (congrFun e18 _) _).trans ((gset_ne (by omega)).trans ((congrFun (congrFun e14 _) _).trans ((gset_ne (by omega)).trans (m4 j hj).1)))), ((congrFun (congrFun e18 _) _).trans ((gset_ne (by omega)).trans ((congrFun (congrFun e14 _) _).trans ((gset_ne (by omega)).trans (m4 j hj).2.1)))), (m4 j hj).2.2⟩⟩)⟩⟩
      · refine g_bipush (n := 40) X dX12_text_38 (by decide +kernel) rfl ?_
        refine g_aload_n (n := 41) X 0 dX12_text_40 rfl rfl rfl ?_
        obtain ⟨v19, hv19, rv19⟩ := gRd IM10 (by decide) (gsz hsz (by decide)) rc_190_12.1
        refine gg_12_12 (n := 44) (z := v19) X (by decide) (gsz hsz (by decide)) lay_190 kw_6_38 dX12_text_41 rfl hv19 ?_
        refine g_isub (n := 45) (z := (-10) - v19) X dX12_text_44 rfl rfl ?_
        exact hq _ _ _ _ dX12_text_45 ⟨by omega, IM10, CM10, (gFr.c gFr.rf FM10 rfl), ⟨(by have zb4 : M 191 4 = v2 := hv2; have ze4 : M10 191 4 = v2 := ((gFr.at FM10 (rs_NA (k := 4) (by omega)).2.2 rfl).trans hv2); have zb10 : M 191 10 = v3 := hv3; have ze10 : M10 191 10 = 0 := xM10.1.2; have ze12 : M10 190 12 = v19 := hv19; have y := xM10.1.1; have y12 : M10 190 12 = v19 := hv19; clear xM10; omega), (by have zb4 : M 191 4 = v2 := hv2; have ze4 : M10 191 4 = v2 := ((gFr.at FM10 (rs_NA (k := 4) (by omega)).2.2 rfl).trans hv2); have zb10 : M 191 10 = v3 := hv3; have ze10 : M10 191 10 = 0 := xM10.1.2; have ze12 : M10 190 12 = v19 := hv19; have y := xM10.1.1; have y12 : M10 190 12 = v19 := hv19; clear xM10; omega), (fun i i0 i1 i2 => by have z4 : M 191 4 = v2 := hv2; exact ⟨(xM10.2.2.1 _ (by omega) (by omega) (by omega)), (xM10.2.2.2.1 _ (by omega) (by omega) (by omega)), fun j j0 j1 => ⟨(xM10.2.2.2.2.1 i j i0 i1 (by omega) j0 j1).1, (xM10.2.2.2.2.1 i j i0 i1 (by omega) j0 j1).2⟩⟩), (fun g => by have zb4 : M 191 4 = v2 := hv2; have ze4 : M10 191 4 = v2 := ((gFr.at FM10 (rs_NA (k := 4) (by omega)).2.2 rfl).trans hv2); have zb10 : M 191 10 = v3 := hv3; have ze10 : M10 191 10 = 0 := xM10.1.2; have ze12 : M10 190 12 = v19 := hv19; have y := xM10.1.1; have y12 : M10 190 12 = v19 := hv19; clear xM10; exfalso; omega)⟩⟩
    · refine g_bipush (n := 23) X dX12_text_21 (by decide +kernel) rfl ?_
      exact hq _ _ _ _ dX12_text_23 ⟨by omega, I, C, gFr.rf, ⟨(by have zb4 : M 191 4 = v2 := hv2; have ze4 : M 191 4 = v2 := hv2; have zb10 : M 191 10 = v3 := hv3; have ze10 : M 191 10 = v3 := hv3; omega), (by have zb4 : M 191 4 = v2 := hv2; have ze4 : M 191 4 = v2 := hv2; have zb10 : M 191 10 = v3 := hv3; have ze10 : M 191 10 = v3 := hv3; omega), (fun i i0 i1 i2 => ⟨rfl, rfl, fun j _ _ => ⟨rfl, rfl⟩⟩), (fun g => by exfalso; omega)⟩⟩
  · refine g_bipush (n := 9) X dX12_text_7 (by decide +kernel) rfl ?_
    exact hq _ _ _ _ dX12_text_9 ⟨by omega, I, C, gFr.rf, ⟨(by have zb4 : M 191 4 = v2 := hv2; have ze4 : M 191 4 = v2 := hv2; have zb10 : M 191 10 = v3 := hv3; have ze10 : M 191 10 = v3 := hv3; omega), (by have zb4 : M 191 4 = v2 := hv2; have ze4 : M 191 4 = v2 := hv2; have zb10 : M 191 10 = v3 := hv3; have ze10 : M 191 10 = v3 := hv3; omega), (fun i i0 i1 i2 => ⟨rfl, rfl, fun j _ _ => ⟨rfl, rfl⟩⟩), (fun g => by exfalso; omega)⟩⟩
