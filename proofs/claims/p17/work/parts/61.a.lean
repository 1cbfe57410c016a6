def rl_now (o0 A : Int) (M : gM) : Prop := M o0 15 = M A 0
theorem rl_now.mv {o0 q0 A B : Int} {M M1 : gM} (h : rl_now o0 A M) (c0 : M1 q0 15 = M o0 15) (r0 : M1 B 0 = M A 0) : rl_now q0 B M1 := (c0.trans ((show M o0 15 = M A 0 from h).trans r0.symm))
theorem rl_now.fr {T : Nat} {M M1 : gM} (h : rl_now 1 191 M) (hN : M 1 10 ≤ 16 ∧ M 1 11 ≤ 40) (F : gFr T M M1) (hT : T &&& 34376515584 = 0) : rl_now 1 191 M1 := by
  have hb : ∀ g : Nat, (34376515584 : Nat).testBit g = true → T.testBit g = false := by
    intro g hg
    have h1 : (T &&& 34376515584).testBit g = (T.testBit g && (34376515584 : Nat).testBit g) := Nat.testBit_and T _ g
    rw [hT, hg, Bool.and_true, Nat.zero_testBit] at h1
    exact h1.symm
  exact rl_now.mv h (gFr.at F rc_1_15.2.2 (hb _ rfl)) (gFr.at F (rs_NOW (k := 0) (by omega)).2.2 (hb _ rfl))
theorem rl_now.im {M M1 : gM} (h : rl_now 206 193 M) (eI : ∀ o b : Int, 206 ≤ o → M1 o b = M o b) (e3 : ∀ b : Int, M1 193 b = M 193 b) : rl_now 206 193 M1 := rl_now.mv h (eI 206 15 (by decide)) (e3 0)
def rl_nact (o0 A : Int) (M : gM) : Prop := M o0 13 = M A 4
theorem rl_nact.mv {o0 q0 A B : Int} {M M1 : gM} (h : rl_nact o0 A M) (c0 : M1 q0 13 = M o0 13) (r0 : M1 B 4 = M A 4) : rl_nact q0 B M1 := (c0.trans ((show M o0 13 = M A 4 from h).trans r0.symm))
theorem rl_nact.fr {T : Nat} {M M1 : gM} (h : rl_nact 1 191 M) (hN : M 1 10 ≤ 16 ∧ M 1 11 ≤ 40) (F : gFr T M M1) (hT : T &&& 274882101248 = 0) : rl_nact 1 191 M1 := by
  have hb : ∀ g : Nat, (274882101248 : Nat).testBit g = true → T.testBit g = false := by
    intro g hg
    have h1 : (T &&& 274882101248).testBit g = (T.testBit g && (274882101248 : Nat).testBit g) := Nat.testBit_and T _ g
    rw [hT, hg, Bool.and_true, Nat.zero_testBit] at h1
    exact h1.symm
  exact rl_nact.mv h (gFr.at F rc_1_13.2.2 (hb _ rfl)) (gFr.at F (rs_NA (k := 4) (by omega)).2.2 (hb _ rfl))
theorem rl_nact.im {M M1 : gM} (h : rl_nact 206 193 M) (eI : ∀ o b : Int, 206 ≤ o → M1 o b = M o b) (e3 : ∀ b : Int, M1 193 b = M 193 b) : rl_nact 206 193 M1 := rl_nact.mv h (eI 206 13 (by decide)) (e3 4)
def rl_ntape (o0 A : Int) (M : gM) : Prop := M o0 14 = M A 10
theorem rl_ntape.mv {o0 q0 A B : Int} {M M1 : gM} (h : rl_ntape o0 A M) (c0 : M1 q0 14 = M o0 14) (r0 : M1 B 10 = M A 10) : rl_ntape q0 B M1 := (c0.trans ((show M o0 14 = M A 10 from h).trans r0.symm))
theorem rl_ntape.fr {T : Nat} {M M1 : gM} (h : rl_ntape 1 191 M) (hN : M 1 10 ≤ 16 ∧ M 1 11 ≤ 40) (F : gFr T M M1) (hT : T &&& 17592194433024 = 0) : rl_ntape 1 191 M1 := by
  have hb : ∀ g : Nat, (17592194433024 : Nat).testBit g = true → T.testBit g = false := by
    intro g hg
    have h1 : (T &&& 17592194433024).testBit g = (T.testBit g && (17592194433024 : Nat).testBit g) := Nat.testBit_and T _ g
    rw [hT, hg, Bool.and_true, Nat.zero_testBit] at h1
    exact h1.symm
  exact rl_ntape.mv h (gFr.at F rc_1_14.2.2 (hb _ rfl)) (gFr.at F (rs_TAPED (k := 10) (by omega)).2.2 (hb _ rfl))
theorem rl_ntape.im {M M1 : gM} (h : rl_ntape 206 193 M) (eI : ∀ o b : Int, 206 ≤ o → M1 o b = M o b) (e3 : ∀ b : Int, M1 193 b = M 193 b) : rl_ntape 206 193 M1 := rl_ntape.mv h (eI 206 14 (by decide)) (e3 10)
def rl_tape (o0 A : Int) (M : gM) : Prop := ∀ b : Int, 0 ≤ b → b < 150 → M o0 b % 256 = M A (b + 2620)
theorem rl_tape.mv {o0 q0 A B : Int} {M M1 : gM} (h : rl_tape o0 A M) (c0 : ∀ b : Int, 0 ≤ b → b < 150 → M1 q0 b = M o0 b) (r0 : ∀ b : Int, 0 ≤ b → b < 150 → M1 B (b + 2620) = M A (b + 2620)) : rl_tape q0 B M1 := fun b h0 h1 => by rw [c0 b h0 h1, r0 b h0 h1]; exact h b h0 h1
theorem rl_tape.fr {T : Nat} {M M1 : gM} (h : rl_tape 8 191 M) (hN : M 1 10 ≤ 16 ∧ M 1 11 ≤ 40) (F : gFr T M M1) (hT : T &&& 144115188075856384 = 0) : rl_tape 8 191 M1 := by
  have hb : ∀ g : Nat, (144115188075856384 : Nat).testBit g = true → T.testBit g = false := by
    intro g hg
    have h1 : (T &&& 144115188075856384).testBit g = (T.testBit g && (144115188075856384 : Nat).testBit g) := Nat.testBit_and T _ g
    rw [hT, hg, Bool.and_true, Nat.zero_testBit] at h1
    exact h1.symm
  exact rl_tape.mv h (fun b _ _ => gFr.at F (ra_8 b).2.2 (hb _ rfl)) (fun b h0 h1 => gFr.at F (rs_TAPE (k := b + 2620) (by omega)).2.2 (hb _ rfl))
theorem rl_tape.im {M M1 : gM} (h : rl_tape 213 193 M) (eI : ∀ o b : Int, 206 ≤ o → M1 o b = M o b) (e3 : ∀ b : Int, M1 193 b = M 193 b) : rl_tape 213 193 M1 := rl_tape.mv h (fun b _ _ => eI 213 b (by decide)) (fun b _ _ => e3 (b + 2620))
def rl_rows (o0 A : Int) (M : gM) : Prop := ∀ b : Int, 0 ≤ b → b < 3 → M o0 b = M A (b + 2580)
theorem rl_rows.mv {o0 q0 A B : Int} {M M1 : gM} (h : rl_rows o0 A M) (c0 : ∀ b : Int, 0 ≤ b → b < 3 → M1 q0 b = M o0 b) (r0 : ∀ b : Int, 0 ≤ b → b < 3 → M1 B (b + 2580) = M A (b + 2580)) : rl_rows q0 B M1 := fun b h0 h1 => by rw [c0 b h0 h1, r0 b h0 h1]; exact h b h0 h1
theorem rl_rows.fr {T : Nat} {M M1 : gM} (h : rl_rows 18 191 M) (hN : M 1 10 ≤ 16 ∧ M 1 11 ≤ 40) (F : gFr T M M1) (hT : T &&& 72057594037936128 = 0) : rl_rows 18 191 M1 := by
  have hb : ∀ g : Nat, (72057594037936128 : Nat).testBit g = true → T.testBit g = false := by
    intro g hg
    have h1 : (T &&& 72057594037936128).testBit g = (T.testBit g && (72057594037936128 : Nat).testBit g) := Nat.testBit_and T _ g
    rw [hT, hg, Bool.and_true, Nat.zero_testBit] at h1
    exact h1.symm
  exact rl_rows.mv h (fun b _ _ => gFr.at F (ra_18 b).2.2 (hb _ rfl)) (fun b h0 h1 => gFr.at F (rs_FMANY (k := b + 2580) (by omega)).2.2 (hb _ rfl))
theorem rl_rows.im {M M1 : gM} (h : rl_rows 223 193 M) (eI : ∀ o b : Int, 206 ≤ o → M1 o b = M o b) (e3 : ∀ b : Int, M1 193 b = M 193 b) : rl_rows 223 193 M1 := rl_rows.mv h (fun b _ _ => eI 223 b (by decide)) (fun b _ _ => e3 (b + 2580))
def rl_acts (o0 o1 o2 A : Int) (M : gM) : Prop := M o0 13 ≤ 10 ∧ ∀ i : Int, 0 ≤ i → i < M o0 13 → M (o1 + 6 * i) 6 = M A (i + 656) ∧ (0 ≤ M A (i + 24700) ∧ M A (i + 24700) ≤ 8) ∧ (∀ j : Nat, (j : Int) < M A (i + 24700) → 0 ≤ M A (8 * i + (j : Int) + 24810)) ∧ (∀ k : Int, 0 ≤ k → k ≤ 9 → M (o2 + 6 * i + 2) k = gSa M A i k (M A (i + 24700)).toNat)
theorem rl_acts.mv {o0 o1 o2 q0 q1 q2 A B : Int} {M M1 : gM} (h : rl_acts o0 o1 o2 A M) (c0 : M1 q0 13 = M o0 13) (c1 : ∀ i : Int, 0 ≤ i → i < M o0 13 → M1 (q1 + 6 * i) 6 = M (o1 + 6 * i) 6) (c2 : ∀ i k : Int, 0 ≤ i → i < M o0 13 → 0 ≤ k → k < 10 → M1 (q2 + 6 * i + 2) k = M (o2 + 6 * i + 2) k) (r0 : ∀ b : Int, 0 ≤ b → b < 12 → M1 B (b + 656) = M A (b + 656)) (r1 : ∀ b : Int, 0 ≤ b → b < 20 → M1 B (b + 24700) = M A (b + 24700)) (r2 : ∀ b : Int, 0 ≤ b → b < 90 → M1 B (b + 24720) = M A (b + 24720)) (r3 : ∀ b : Int, 0 ≤ b → b < 90 → M1 B (b + 24810) = M A (b + 24810)) : rl_acts q0 q1 q2 B M1 := ⟨by rw [c0]; exact h.1, fun i h0 h1 => by
  rw [c0] at h1
  have hm := h.1
  obtain ⟨a1, a2, a3, a4⟩ := h.2 i h0 h1
  have rL := r1 i h0 (by omega)
  refine ⟨by rw [c1 i h0 h1, r0 i h0 (by omega)]; exact a1, by rw [rL]; exact a2, fun j hj => ?_, fun k k0 k1 => ?_⟩
  · rw [rL] at hj
    rw [r3 (8 * i + (j : Int)) (by omega) (by omega)]; exact a3 j hj
  · rw [c2 i k h0 h1 k0 (by omega), rL, a4 k k0 k1]
    exact (gSa_eq _ (fun j hj => ⟨r2 (8 * i + (j : Int)) (by omega) (by omega), r3 (8 * i + (j : Int)) (by omega) (by omega)⟩)).symm⟩
theorem rl_acts.fr {T : Nat} {M M1 : gM} (h : rl_acts 1 87 87 191 M) (hN : M 1 10 ≤ 16 ∧ M 1 11 ≤ 40) (F : gFr T M M1) (hT : T &&& 4503599631565056 = 0) : rl_acts 1 87 87 191 M1 := by
  have hb : ∀ g : Nat, (4503599631565056 : Nat).testBit g = true → T.testBit g = false := by
    intro g hg
    have h1 : (T &&& 4503599631565056).testBit g = (T.testBit g && (4503599631565056 : Nat).testBit g) := Nat.testBit_and T _ g
    rw [hT, hg, Bool.and_true, Nat.zero_testBit] at h1
    exact h1.symm
  exact rl_acts.mv h (gFr.at F rc_1_13.2.2 (hb _ rfl)) (fun i h0 h1 => gFr.at F (rA_6 (o := 87 + 6 * i) (by have := h.1; omega)).2.2 (hb _ rfl)) (fun i k h0 h1 k0 k1 => gFr.at F (rAA_2 (o := 87 + 6 * i) (by have := h.1; omega) k).2.2 (hb _ rfl)) (fun b h0 h1 => gFr.at F (rs_AWEEK (k := b + 656) (by omega)).2.2 (hb _ rfl)) (fun b h0 h1 => gFr.at F (rs_LCOUNT (k := b + 24700) (by omega)).2.2 (hb _ rfl)) (fun b h0 h1 => gFr.at F (rs_LWORD (k := b + 24720) (by omega)).2.2 (hb _ rfl)) (fun b h0 h1 => gFr.at F (rs_LVALUE (k := b + 24810) (by omega)).2.2 (hb _ rfl))
theorem rl_acts.im {M M1 : gM} (h : rl_acts 206 292 292 193 M) (eI : ∀ o b : Int, 206 ≤ o → M1 o b = M o b) (e3 : ∀ b : Int, M1 193 b = M 193 b) : rl_acts 206 292 292 193 M1 := rl_acts.mv h (eI 206 13 (by decide)) (fun i h0 _ => eI (292 + 6 * i) 6 (by omega)) (fun i k h0 _ _ _ => eI (292 + 6 * i + 2) k (by omega)) (fun b _ _ => e3 (b + 656)) (fun b _ _ => e3 (b + 24700)) (fun b _ _ => e3 (b + 24720)) (fun b _ _ => e3 (b + 24810))
def lwRel (M : gM) : Prop := rl_now 1 191 M ∧ rl_nact 1 191 M ∧ rl_ntape 1 191 M ∧ rl_tape 8 191 M ∧ rl_rows 18 191 M ∧ rl_acts 1 87 87 191 M
def lwRelI (M : gM) : Prop := rl_now 206 193 M ∧ rl_nact 206 193 M ∧ rl_ntape 206 193 M ∧ rl_tape 213 193 M ∧ rl_rows 223 193 M ∧ rl_acts 206 292 292 193 M
def lwK (sz cs ss : Nat) (M : gM) : Prop := (sz = 206 ∧ cs = 206 ∧ ss = 87467 ∧ M 0 9 = 0 ∧ M 190 4 = 0 ∧ gZ 206 M) ∨ (sz = 358 ∧ cs = 358 ∧ ss = 97974 ∧ M 0 9 = 207 ∧ M 190 4 = 1 ∧ M 206 13 ≤ 10 ∧ M 193 4 ≤ 10 ∧ gW 193 M ∧ lwRelI M)
def lwI (sz cs ss : Nat) (M : gM) : Prop := 206 ≤ sz ∧ gI sz M ∧ gC sz M ∧ gW 191 M ∧ M 1 13 ≤ 10 ∧ M 191 4 ≤ 10 ∧ lwK sz cs ss M ∧ lwRel M
theorem gG_im2 {o : Int} (h : 206 ≤ o) (b : Int) : (154714189158519407380529152 : Nat).testBit (gG o b) = true := by
  unfold gG
  rw [if_neg (by omega), if_neg (by omega), if_neg (by omega), if_neg (by omega), if_neg (by omega)]
  unfold gGi
  repeat' split
  all_goals rfl
theorem lwRelI.eq {M M1 : gM} (k : lwRelI M) (eI : ∀ o b : Int, 206 ≤ o → M1 o b = M o b) (e3 : ∀ b : Int, M1 193 b = M 193 b) : lwRelI M1 := ⟨rl_now.im k.1 eI e3, rl_nact.im k.2.1 eI e3, rl_ntape.im k.2.2.1 eI e3, rl_tape.im k.2.2.2.1 eI e3, rl_rows.im k.2.2.2.2.1 eI e3, rl_acts.im k.2.2.2.2.2 eI e3⟩
theorem lwK.bit {T : Nat} (h : T &&& 154714189158519407380529152 = 0) (g : Nat) (hg : (154714189158519407380529152 : Nat).testBit g = true) : T.testBit g = false := by
  have h1 : (T &&& 154714189158519407380529152).testBit g = (T.testBit g && (154714189158519407380529152 : Nat).testBit g) := Nat.testBit_and T _ g
  rw [h, hg, Bool.and_true, Nat.zero_testBit] at h1
  exact h1.symm
theorem lwK.fr {T sz cs ss : Nat} {M M1 : gM} (K : lwK sz cs ss M) (F : gFr T M M1) (h : T &&& 154714189158519407380529152 = 0) : lwK sz cs ss M1 := by
  have e0 : M1 0 9 = M 0 9 := gFr.at F rc_0_9.2.2 (lwK.bit h _ rfl)
  have e4 : M1 190 4 = M 190 4 := gFr.at F rc_190_4.2.2 (lwK.bit h _ rfl)
  have eI : ∀ o b : Int, 206 ≤ o → M1 o b = M o b := fun o b q => F o b (lwK.bit h _ (gG_im2 q b))
  have e3 : ∀ b : Int, M1 193 b = M 193 b := fun b => gFr.at F (show gG 193 b = 64 from rfl) (lwK.bit h _ rfl)
  unfold lwK at *
  rcases K with ⟨k1, k2, k3, k4, k5, k6⟩ | ⟨k1, k2, k3, k4, k5, k6, k7, k8, k9⟩
  · exact Or.inl ⟨k1, k2, k3, e0.trans k4, e4.trans k5, fun o k q => by rw [eI o k q]; exact k6 o k q⟩
  · refine Or.inr ⟨k1, k2, k3, e0.trans k4, e4.trans k5, by rw [eI 206 13 (by decide)]; exact k6, by rw [e3]; exact k7, gW.same k8 e3, ?_⟩
    exact lwRelI.eq k9 eI e3
theorem lwK.room {sz cs ss : Nat} {M : gM} (K : lwK sz cs ss M) : cs ≤ 358 ∧ ss ≤ 97974 := by
  unfold lwK at K
  rcases K with ⟨k1, k2, k3, _⟩ | ⟨k1, k2, k3, _⟩ <;> omega
theorem gN_of {sz : Nat} {M : gM} (hsz : 206 ≤ sz) (I : gI sz M) : M 1 10 ≤ 16 ∧ M 1 11 ≤ 40 := by
  have h1 := I 1 10 (by decide) (gsz hsz (by decide))
  have h2 := I 1 11 (by decide) (gsz hsz (by decide))
  rw [rc_1_10.1] at h1
  rw [rc_1_11.1] at h2
  exact ⟨h1.2, h2.2⟩
def gLs (a : Int) : Int := (Int64.ofInt a <<< ((Int32.ofInt 32).toInt64 &&& 63)).toInt
def gLa (a : Int) : Int := (Int64.ofInt a &&& Int64.ofInt 4294967295).toInt
def gLo (a b : Int) : Int := (Int64.ofInt a ||| Int64.ofInt b).toInt
theorem gLo_r (a b : Int) : -9223372036854775808 ≤ gLo a b ∧ gLo a b ≤ 9223372036854775807 := gl_rg _
theorem gA_of {sz : Nat} {M : gM} (hsz : 206 ≤ sz) (I : gI sz M) : M 1 13 ≤ 11 := by
  have h2 := I 1 13 (by decide) (gsz hsz (by decide))
  rw [rc_1_13.1] at h2
  exact h2.2
theorem gTt_eq {M M1 : gM} (rt : rl_tape 8 191 M) (rn : M 1 14 = M 191 10) (hn : M 1 14 ≤ 150) (e1 : ∀ k : Int, M1 191 k = M 191 k) : gTm M1 = gTt M := by
  funext p
  unfold gTm gTt
  rw [e1 10, e1 (p + 2620), ← rn]
  by_cases h : 0 ≤ p ∧ p < M 1 14
  · rw [if_pos h, if_pos h]; exact (rt p h.1 (by omega)).symm
  · rw [if_neg h, if_neg h]
theorem rel_text {M M1 M2 : gM} {a z1 z2 : Int} (rt : rl_tape 8 191 M) (rn : M 1 14 = M 191 10) (ra : M 1 13 = M 191 4) (hn : M 1 14 ≤ 150) (hA : M 1 13 ≤ 10) (x1 : M1 1 13 ≤ 10 ∧ ((¬ (0 ≤ a ∧ a ≤ 300) ∧ z1 = -2 ∧ M1 1 13 = M 1 13 ∧ M1 1 14 = M 1 14) ∨ ((0 ≤ a ∧ a ≤ 300) ∧ 10 ≤ M 1 13 ∧ z1 = -4 ∧ M1 1 13 = M 1 13 ∧ M1 1 14 = M 1 14) ∨ (((0 ≤ a ∧ a ≤ 300) ∧ M 1 13 < 10) ∧ gAct (gTt M) (M 1 14) 8 0 = -1 ∧ z1 = M 1 13 ∧ M1 1 13 = M 1 13 + 1 ∧ M1 1 14 = 0) ∨ (((0 ≤ a ∧ a ≤ 300) ∧ M 1 13 < 10) ∧ ¬ gAct (gTt M) (M 1 14) 8 0 = -1 ∧ z1 = -10 - gAct (gTt M) (M 1 14) 8 0 ∧ M1 1 13 = M 1 13 ∧ M1 1 14 = 0)) ∧ (∀ i : Int, 0 ≤ i → i ≤ 10 → ¬ i = M 1 13 → M1 (87 + 6 * i) 6 = M (87 + 6 * i) 6 ∧ (∀ k : Int, M1 (87 + 6 * i + 2) k = M (87 + 6 * i + 2) k)) ∧ (0 ≤ z1 → M1 (87 + 6 * M 1 13) 6 = a ∧ (∃ m : Nat, m ≤ 8 ∧ gFin (gTt M) (M 1 14) m ∧ (∀ k : Int, 0 ≤ k → k ≤ 9 → M1 (87 + 6 * M 1 13 + 2) k = gSy (gTt M) k m)))) (e1 : ∀ k : Int, M1 191 k = M 191 k) (x2 : M2 191 4 ≤ 10 ∧ ((¬ (0 ≤ a ∧ a ≤ 300) ∧ z2 = -2 ∧ M2 191 4 = M1 191 4 ∧ M2 191 10 = M1 191 10) ∨ ((0 ≤ a ∧ a ≤ 300) ∧ M1 191 4 = 10 ∧ z2 = -4 ∧ M2 191 4 = M1 191 4 ∧ M2 191 10 = M1 191 10) ∨ (((0 ≤ a ∧ a ≤ 300) ∧ M1 191 4 < 10) ∧ gAct (gTm M1) (M1 191 10) 8 0 = -1 ∧ z2 = M1 191 4 ∧ M2 191 4 = M1 191 4 + 1 ∧ M2 191 10 = 0) ∨ (((0 ≤ a ∧ a ≤ 300) ∧ M1 191 4 < 10) ∧ ¬ gAct (gTm M1) (M1 191 10) 8 0 = -1 ∧ z2 = -10 - gAct (gTm M1) (M1 191 10) 8 0 ∧ M2 191 4 = M1 191 4 ∧ M2 191 10 = 0)) ∧ (∀ i : Int, 0 ≤ i → i ≤ 10 → ¬ i = M1 191 4 → M2 191 (i + 656) = M1 191 (i + 656) ∧ M2 191 (i + 24700) = M1 191 (i + 24700) ∧ (∀ j : Int, 0 ≤ j → j < 8 → M2 191 (8 * i + j + 24720) = M1 191 (8 * i + j + 24720) ∧ M2 191 (8 * i + j + 24810) = M1 191 (8 * i + j + 24810))) ∧ (0 ≤ z2 → M2 191 (M1 191 4 + 656) = a ∧ (∃ m : Nat, m ≤ 8 ∧ gFin (gTm M1) (M1 191 10) m ∧ M2 191 (M1 191 4 + 24700) = (m : Int) ∧ (∀ j : Nat, j < m → M2 191 (8 * M1 191 4 + (j : Int) + 24720) = (gCl (gTm M1) (gPl (gTm M1) j)).1 ∧ M2 191 (8 * M1 191 4 + (j : Int) + 24810) = (gCl (gTm M1) (gPl (gTm M1) j)).2.1 ∧ 0 ≤ (gCl (gTm M1) (gPl (gTm M1) j)).2.1)))) (n13 : M2 1 13 = M1 1 13) (n14 : M2 1 14 = M1 1 14) : z1 = z2 ∧ M2 1 13 = M2 191 4 ∧ M2 1 14 = M2 191 10 := by
  have eT := gTt_eq rt rn hn e1
  obtain ⟨_, x1, -⟩ := x1
  obtain ⟨_, x2, -⟩ := x2
  rw [eT, e1 10, e1 4, ← rn, ← ra] at x2
  refine ⟨by omega, by omega, by omega⟩
theorem rel_feed {M M1 M2 : gM} {a b z1 z2 : Int} (rt : rl_tape 8 191 M) (rn : M 1 14 = M 191 10) (x1 : (¬ (1 ≤ b ∧ b ≤ 8) ∧ z1 = -2 ∧ M1 1 14 = M 1 14 ∧ (∀ k : Int, M1 8 k = M 8 k)) ∨ ((1 ≤ b ∧ b ≤ 8) ∧ 150 < M 1 14 + b ∧ z1 = -4 ∧ M1 1 14 = M 1 14 ∧ (∀ k : Int, M1 8 k = M 8 k)) ∨ (((1 ≤ b ∧ b ≤ 8) ∧ M 1 14 + b ≤ 150) ∧ z1 = M 1 14 + b ∧ M1 1 14 = M 1 14 + b ∧ (∀ k : Int, k < M 1 14 ∨ M 1 14 + b ≤ k → M1 8 k = M 8 k) ∧ (∀ j : Int, 0 ≤ j → j < b → M1 8 (M 1 14 + j) % 256 = gBy a (b - 1 - j)))) (e1 : ∀ k : Int, M1 191 k = M 191 k) (x2 : (¬ (1 ≤ b ∧ b ≤ 8) ∧ z2 = -2 ∧ M2 191 10 = M1 191 10 ∧ (∀ k : Int, 2620 ≤ k → k < 2770 → M2 191 k = M1 191 k)) ∨ ((1 ≤ b ∧ b ≤ 8) ∧ 150 < M1 191 10 + b ∧ z2 = -4 ∧ M2 191 10 = M1 191 10 ∧ (∀ k : Int, 2620 ≤ k → k < 2770 → M2 191 k = M1 191 k)) ∨ (((1 ≤ b ∧ b ≤ 8) ∧ M1 191 10 + b ≤ 150) ∧ z2 = M1 191 10 + b ∧ M2 191 10 = M1 191 10 + b ∧ (∀ k : Int, 2620 ≤ k → k < 2770 → (k < M1 191 10 + 2620 ∨ M1 191 10 + b + 2620 ≤ k) → M2 191 k = M1 191 k) ∧ (∀ j : Int, 0 ≤ j → j < b → M2 191 (M1 191 10 + j + 2620) = gBy a (b - 1 - j)))) (n14 : M2 1 14 = M1 1 14) (n8 : ∀ k : Int, M2 8 k = M1 8 k) (h0 : 0 ≤ M 1 14) : z1 = z2 ∧ M2 1 14 = M2 191 10 ∧ rl_tape 8 191 M2 := by
  have f10 := e1 10
  rcases x1 with ⟨c1, y1, s1, t1⟩ | ⟨c1, c2, y1, s1, t1⟩ | ⟨c1, y1, s1, t1, u1⟩
  · rcases x2 with ⟨d1, y2, s2, t2⟩ | ⟨d1, d2, y2, s2, t2⟩ | ⟨d1, y2, s2, t2, u2⟩
    · refine ⟨by omega, by omega, fun k k0 k1 => ?_⟩
      rw [n8, t1, t2 (k + 2620) (by omega) (by omega), e1]; exact rt k k0 k1
    · exfalso; omega
    · exfalso; omega
  · rcases x2 with ⟨d1, y2, s2, t2⟩ | ⟨d1, d2, y2, s2, t2⟩ | ⟨d1, y2, s2, t2, u2⟩
    · exfalso; omega
    · refine ⟨by omega, by omega, fun k k0 k1 => ?_⟩
      rw [n8, t1, t2 (k + 2620) (by omega) (by omega), e1]; exact rt k k0 k1
    · exfalso; omega
  · rcases x2 with ⟨d1, y2, s2, t2⟩ | ⟨d1, d2, y2, s2, t2⟩ | ⟨d1, y2, s2, t2, u2⟩
    · exfalso; omega
    · exfalso; omega
    · refine ⟨by omega, by omega, fun k k0 k1 => ?_⟩
      by_cases g : k < M 1 14 ∨ M 1 14 + b ≤ k
      · rw [n8, t1 k g, t2 (k + 2620) (by omega) (by omega) (by omega), e1]; exact rt k k0 k1
      · have p1 := u1 (k - M 1 14) (by omega) (by omega)
        have p2 := u2 (k - M 1 14) (by omega) (by omega)
        rw [show M 1 14 + (k - M 1 14) = k by omega] at p1
        rw [show M1 191 10 + (k - M 1 14) + 2620 = k + 2620 by omega] at p2
        rw [n8, p1, p2]
theorem rel_frosts {M M1 M2 : gM} {a b c z1 z2 : Int} (rr : rl_rows 18 191 M) (x1 : ((¬ (0 ≤ a ∧ a ≤ 2) ∧ z1 = -1) ∨ ((0 ≤ a ∧ a ≤ 2) ∧ ¬ ((1 ≤ c ∧ c ≤ 10) ∧ 0 ≤ b ∧ b < gTen c) ∧ z1 = -2) ∨ ((0 ≤ a ∧ a ≤ 2) ∧ ((1 ≤ c ∧ c ≤ 10) ∧ 0 ≤ b ∧ b < gTen c) ∧ z1 = c)) ∧ ((z1 < 0 ∧ (∀ k : Int, M1 18 k = M 18 k)) ∨ (0 ≤ z1 ∧ M1 18 a = z1 ∧ (∀ k : Int, ¬ k = a → M1 18 k = M 18 k)))) (e1 : ∀ k : Int, M1 191 k = M 191 k) (x2 : ((¬ (0 ≤ a ∧ a ≤ 2) ∧ z2 = -1) ∨ ((0 ≤ a ∧ a ≤ 2) ∧ ¬ ((1 ≤ c ∧ c ≤ 10) ∧ 0 ≤ b ∧ b < gTen c) ∧ z2 = -2) ∨ ((0 ≤ a ∧ a ≤ 2) ∧ ((1 ≤ c ∧ c ≤ 10) ∧ 0 ≤ b ∧ b < gTen c) ∧ z2 = c)) ∧ ((z2 < 0 ∧ (∀ k : Int, 2580 ≤ k → k < 2583 → M2 191 k = M1 191 k)) ∨ (0 ≤ z2 ∧ M2 191 (a + 2580) = z2 ∧ (∀ k : Int, 2580 ≤ k → k < 2583 → ¬ k = a + 2580 → M2 191 k = M1 191 k)))) (n18 : ∀ k : Int, M2 18 k = M1 18 k) : rl_rows 18 191 M2 := by
  obtain ⟨p1, q1⟩ := x1
  obtain ⟨p2, q2⟩ := x2
  have hz : z1 = z2 := by omega
  intro k k0 k1
  rcases q1 with ⟨c1, t1⟩ | ⟨c1, s1, t1⟩
  · rcases q2 with ⟨c2, t2⟩ | ⟨c2, s2, t2⟩
    · rw [n18, t1, t2 (k + 2580) (by omega) (by omega), e1]; exact rr k k0 k1
    · exfalso; omega
  · rcases q2 with ⟨c2, t2⟩ | ⟨c2, s2, t2⟩
    · exfalso; omega
    · by_cases g : k = a
      · rw [n18, g, s1, s2, hz]
      · rw [n18, t1 k g, t2 (k + 2580) (by omega) (by omega) (by omega), e1]; exact rr k k0 k1
theorem gV_of {M : gM} (R : rl_acts 1 87 87 191 M) (ra : M 1 13 = M 191 4) : gVn M := fun i h0 h1 j hj => (R.2 i h0 (by omega)).2.2.1 j hj
theorem rel_acts {M M1 M2 : gM} {a z1 z2 : Int} (R : rl_acts 1 87 87 191 M) (rt : rl_tape 8 191 M) (rn : M 1 14 = M 191 10) (ra : M 1 13 = M 191 4) (hn : M 1 14 ≤ 150) (hA : 0 ≤ M 1 13) (hB : ∀ i : Int, 0 ≤ i → i ≤ 10 → 0 ≤ M2 191 (i + 24700) ∧ M2 191 (i + 24700) ≤ 8) (x1 : M1 1 13 ≤ 10 ∧ ((¬ (0 ≤ a ∧ a ≤ 300) ∧ z1 = -2 ∧ M1 1 13 = M 1 13 ∧ M1 1 14 = M 1 14) ∨ ((0 ≤ a ∧ a ≤ 300) ∧ 10 ≤ M 1 13 ∧ z1 = -4 ∧ M1 1 13 = M 1 13 ∧ M1 1 14 = M 1 14) ∨ (((0 ≤ a ∧ a ≤ 300) ∧ M 1 13 < 10) ∧ gAct (gTt M) (M 1 14) 8 0 = -1 ∧ z1 = M 1 13 ∧ M1 1 13 = M 1 13 + 1 ∧ M1 1 14 = 0) ∨ (((0 ≤ a ∧ a ≤ 300) ∧ M 1 13 < 10) ∧ ¬ gAct (gTt M) (M 1 14) 8 0 = -1 ∧ z1 = -10 - gAct (gTt M) (M 1 14) 8 0 ∧ M1 1 13 = M 1 13 ∧ M1 1 14 = 0)) ∧ (∀ i : Int, 0 ≤ i → i ≤ 10 → ¬ i = M 1 13 → M1 (87 + 6 * i) 6 = M (87 + 6 * i) 6 ∧ (∀ k : Int, M1 (87 + 6 * i + 2) k = M (87 + 6 * i + 2) k)) ∧ (0 ≤ z1 → M1 (87 + 6 * M 1 13) 6 = a ∧ (∃ m : Nat, m ≤ 8 ∧ gFin (gTt M) (M 1 14) m ∧ (∀ k : Int, 0 ≤ k → k ≤ 9 → M1 (87 + 6 * M 1 13 + 2) k = gSy (gTt M) k m)))) (e1 : ∀ k : Int, M1 191 k = M 191 k) (x2 : M2 191 4 ≤ 10 ∧ ((¬ (0 ≤ a ∧ a ≤ 300) ∧ z2 = -2 ∧ M2 191 4 = M1 191 4 ∧ M2 191 10 = M1 191 10) ∨ ((0 ≤ a ∧ a ≤ 300) ∧ M1 191 4 = 10 ∧ z2 = -4 ∧ M2 191 4 = M1 191 4 ∧ M2 191 10 = M1 191 10) ∨ (((0 ≤ a ∧ a ≤ 300) ∧ M1 191 4 < 10) ∧ gAct (gTm M1) (M1 191 10) 8 0 = -1 ∧ z2 = M1 191 4 ∧ M2 191 4 = M1 191 4 + 1 ∧ M2 191 10 = 0) ∨ (((0 ≤ a ∧ a ≤ 300) ∧ M1 191 4 < 10) ∧ ¬ gAct (gTm M1) (M1 191 10) 8 0 = -1 ∧ z2 = -10 - gAct (gTm M1) (M1 191 10) 8 0 ∧ M2 191 4 = M1 191 4 ∧ M2 191 10 = 0)) ∧ (∀ i : Int, 0 ≤ i → i ≤ 10 → ¬ i = M1 191 4 → M2 191 (i + 656) = M1 191 (i + 656) ∧ M2 191 (i + 24700) = M1 191 (i + 24700) ∧ (∀ j : Int, 0 ≤ j → j < 8 → M2 191 (8 * i + j + 24720) = M1 191 (8 * i + j + 24720) ∧ M2 191 (8 * i + j + 24810) = M1 191 (8 * i + j + 24810))) ∧ (0 ≤ z2 → M2 191 (M1 191 4 + 656) = a ∧ (∃ m : Nat, m ≤ 8 ∧ gFin (gTm M1) (M1 191 10) m ∧ M2 191 (M1 191 4 + 24700) = (m : Int) ∧ (∀ j : Nat, j < m → M2 191 (8 * M1 191 4 + (j : Int) + 24720) = (gCl (gTm M1) (gPl (gTm M1) j)).1 ∧ M2 191 (8 * M1 191 4 + (j : Int) + 24810) = (gCl (gTm M1) (gPl (gTm M1) j)).2.1 ∧ 0 ≤ (gCl (gTm M1) (gPl (gTm M1) j)).2.1)))) (n13 : M2 1 13 = M1 1 13) (c6 : ∀ i : Int, 0 ≤ i → i ≤ 10 → M2 (87 + 6 * i) 6 = M1 (87 + 6 * i) 6) (c2 : ∀ i k : Int, 0 ≤ i → i ≤ 10 → M2 (87 + 6 * i + 2) k = M1 (87 + 6 * i + 2) k) : rl_acts 1 87 87 191 M2 := by
  have eT := gTt_eq rt rn hn e1
  have f4 := e1 4
  have f10 := e1 10
  obtain ⟨x0, x1, o1, s1⟩ := x1
  obtain ⟨y0, x2, o2, s2⟩ := x2
  rw [eT, f10, f4, ← rn, ← ra] at x2 s2
  rw [f4, ← ra] at o2
  have hz : z1 = z2 := by clear s1 s2 o1 o2; omega
  have old : ∀ i : Int, 0 ≤ i → i < M 1 13 → M2 (87 + 6 * i) 6 = M2 191 (i + 656) ∧ (0 ≤ M2 191 (i + 24700) ∧ M2 191 (i + 24700) ≤ 8) ∧ (∀ j : Nat, (j : Int) < M2 191 (i + 24700) → 0 ≤ M2 191 (8 * i + (j : Int) + 24810)) ∧ (∀ k : Int, 0 ≤ k → k ≤ 9 → M2 (87 + 6 * i + 2) k = gSa M2 191 i k (M2 191 (i + 24700)).toNat) := by
    intro i h0 h1
    have hm := R.1
    obtain ⟨a1, a2, a3, a4⟩ := R.2 i h0 h1
    obtain ⟨b1, b2, b3⟩ := o2 i h0 (by omega) (by omega)
    obtain ⟨d1, d2⟩ := o1 i h0 (by omega) (by omega)
    rw [e1] at b1 b2
    have b3' : ∀ j : Nat, (j : Int) < 8 → M2 191 (8 * i + (j : Int) + 24720) = M 191 (8 * i + (j : Int) + 24720) ∧ M2 191 (8 * i + (j : Int) + 24810) = M 191 (8 * i + (j : Int) + 24810) := fun j hj => by
      have q := b3 (j : Int) (by omega) hj
      rw [e1, e1] at q
      exact q
    refine ⟨by rw [c6 i h0 (by omega), d1, b1]; exact a1, by rw [b2]; exact a2, fun j hj => ?_, fun k k0 k1 => ?_⟩
    · rw [b2] at hj
      rw [(b3' j (by omega)).2]; exact a3 j hj
    · rw [c2 i k h0 (by omega), d2 k, b2, a4 k k0 k1]
      exact (gSa_eq _ (fun j hj => b3' j (by omega))).symm
  by_cases c : 0 ≤ z1
  · obtain ⟨u1, m1, u2, u3, u4⟩ := s1 c
    obtain ⟨v1, m2, v2, v3, v4, v5⟩ := s2 (by omega)
    clear s1 s2
    have hT : ¬ gTt M (M 1 14) = 59 := by
      unfold gTt
      rw [if_neg (by omega)]; decide
    obtain rfl := gFin.uniq hT u3 v3
    refine ⟨by omega, fun i h0 h1 => ?_⟩
    by_cases g : i = M 1 13
    · rw [g]
      refine ⟨by rw [c6 _ (by omega) (by omega), u1]; exact v1.symm, hB _ (by omega) (by omega), fun j hj => ?_, fun k k0 k1 => ?_⟩
      · rw [v4] at hj
        rw [(v5 j (by omega)).2.1]; exact (v5 j (by omega)).2.2
      · rw [c2 _ k (by omega) (by omega), u4 k k0 k1, v4, Int.toNat_natCast]
        exact (gSa_of _ (fun j hj => ⟨(v5 j hj).1, (v5 j hj).2.1⟩)).symm
    · exact old i h0 (by omega)
  · clear s1 s2
    refine ⟨by omega, fun i h0 h1 => old i h0 (by omega)⟩
theorem rel_law {M : gM} {t k : Int} (R : rl_acts 1 87 87 191 M) (ra : M 1 13 = M 191 4) (hA : 0 ≤ M 1 13) (hk : 0 ≤ k ∧ k ≤ 9) : gAm M k t = gAf (gWx M) (gHx M k) t (M 1 13).toNat := by
  unfold gAm
  rw [← ra]
  refine gAf_eq _ (fun i h0 h1 => ?_)
  obtain ⟨a1, a2, a3, a4⟩ := R.2 i h0 (by omega)
  refine ⟨a1.symm, ?_⟩
  unfold gHm gHx
  rw [a4 k hk.1 hk.2]
theorem rel_force {M : gM} {a b z1 z2 : Int} (R : rl_acts 1 87 87 191 M) (ra : M 1 13 = M 191 4) (hA : 0 ≤ M 1 13) (x1 : (¬ (0 ≤ b ∧ b ≤ 19) ∧ z1 = -1) ∨ ((0 ≤ b ∧ b ≤ 19) ∧ ¬ (0 ≤ a ∧ a ≤ 300) ∧ z1 = -2) ∨ ((0 ≤ b ∧ b ≤ 9) ∧ (0 ≤ a ∧ a ≤ 300) ∧ z1 = gFx M a b) ∨ ((10 ≤ b ∧ b ≤ 19) ∧ (0 ≤ a ∧ a ≤ 300) ∧ z1 = gAf (gWx M) (gHx M (b - 10)) a (M 1 13).toNat)) (x2 : (¬ (0 ≤ b ∧ b ≤ 19) ∧ z2 = -1) ∨ ((0 ≤ b ∧ b ≤ 19) ∧ ¬ (0 ≤ a ∧ a ≤ 300) ∧ z2 = -2) ∨ ((0 ≤ b ∧ b ≤ 7) ∧ (0 ≤ a ∧ a ≤ 300) ∧ z2 = (if gAm M b a = -1 then gWo b else gLa2 M 191 (gAm M b a) b (gWo b) (M 191 (gAm M b a + 24700)).toNat)) ∨ ((8 ≤ b ∧ b ≤ 9) ∧ (0 ≤ a ∧ a ≤ 300) ∧ z2 = (if gAm M b a = -1 then 0 else gMa2 M 191 (gAm M b a) b (M 191 (gAm M b a + 24700)).toNat)) ∨ ((10 ≤ b ∧ b ≤ 19) ∧ (0 ≤ a ∧ a ≤ 300) ∧ z2 = gAm M (b - 10) a)) : z1 = z2 := by
  have say : ∀ k t : Int, 0 ≤ k → k ≤ 9 → ¬ gAm M k t = -1 → (0 ≤ gAm M k t ∧ gAm M k t < M 1 13) ∧ gHx M k (gAm M k t) = gSa M 191 (gAm M k t) k (M 191 (gAm M k t + 24700)).toNat ∧ ¬ gHx M k (gAm M k t) = -1 ∧ (∀ j : Nat, j < (M 191 (gAm M k t + 24700)).toNat → 0 ≤ M 191 (8 * gAm M k t + (j : Int) + 24810)) := by
    intro k t k0 k1 hn
    have e := rel_law (t := t) R ra hA ⟨k0, k1⟩
    have r := gAf_r (W := gWx M) (H := gHx M k) (t := t) (M 1 13).toNat
    have h := gAf_h (W := gWx M) (H := gHx M k) (t := t) (M 1 13).toNat
    rw [← e] at r h
    have r2 : 0 ≤ gAm M k t ∧ gAm M k t < M 1 13 := by omega
    obtain ⟨a1, a2, a3, a4⟩ := R.2 _ r2.1 r2.2
    exact ⟨r2, a4 k k0 k1, h.resolve_left hn, fun j hj => a3 j (by omega)⟩
  rcases x1 with ⟨p1, q1⟩ | ⟨p1, p2, q1⟩ | ⟨p1, p2, q1⟩ | ⟨p1, p2, q1⟩
  · rcases x2 with ⟨p3, q3⟩ | ⟨p3, p4, q3⟩ | ⟨p3, p4, q3⟩ | ⟨p3, p4, q3⟩ | ⟨p3, p4, q3⟩ <;> omega
  · rcases x2 with ⟨p3, q3⟩ | ⟨p3, p4, q3⟩ | ⟨p3, p4, q3⟩ | ⟨p3, p4, q3⟩ | ⟨p3, p4, q3⟩ <;> omega
  · rcases x2 with ⟨p3, q3⟩ | ⟨p3, p4, q3⟩ | ⟨p3, p4, q3⟩ | ⟨p3, p4, q3⟩ | ⟨p3, p4, q3⟩
    · exfalso; omega
    · exfalso; omega
    · rw [q1, q3]
      unfold gFx
      rw [← rel_law (t := a) R ra hA (k := b) ⟨by omega, by omega⟩]
      by_cases c : gAm M b a = -1
      · rw [if_pos c, if_pos c]
      · obtain ⟨r1, r2, r3, r4⟩ := say b a (by omega) (by omega) c
        rw [if_neg c, if_neg c, gLa2_s (by omega) _ r4, ← r2, if_neg r3]
    · rw [q1, q3]
      unfold gFx
      rw [← rel_law (t := a) R ra hA (k := b) ⟨by omega, by omega⟩]
      by_cases c : gAm M b a = -1
      · rw [if_pos c, if_pos c]; exact gWo_z (by omega)
      · obtain ⟨r1, r2, r3, r4⟩ := say b a (by omega) (by omega) c
        rw [if_neg c, if_neg c, gMa2_s (by omega) _ r4, ← r2]
        rcases gSa_has (k := b) _ r4 with ⟨g1, _⟩ | ⟨g1, _⟩
        · rw [← r2] at g1; exact absurd g1 r3
        · rw [← r2] at g1; rw [if_neg (by omega)]
    · exfalso; omega
  · rcases x2 with ⟨p3, q3⟩ | ⟨p3, p4, q3⟩ | ⟨p3, p4, q3⟩ | ⟨p3, p4, q3⟩ | ⟨p3, p4, q3⟩
    · exfalso; omega
    · exfalso; omega
    · exfalso; omega
    · exfalso; omega
    · rw [q1, q3, rel_law (t := a) R ra hA (k := b - 10) ⟨by omega, by omega⟩]
