def rl_now (o0 A : Int) (M : gM) : Prop := M o0 15 = M A 0
theorem rl_now.mv {o0 q0 A B : Int} {M M1 : gM} (h : rl_now o0 A M) (c0 : M1 q0 15 = M o0 15) (r0 : M1 B 0 = M A 0) : rl_now q0 B M1 := (c0.trans ((show M o0 15 = M A 0 from h).trans r0.symm))
theorem rl_now.fr {T : Nat} {M M1 : gM} (h : rl_now 1 191 M) (hN : M 1 10 ≤ 16 ∧ M 1 11 ≤ 40) (F : gFr T M M1) (hT : T &&& 34376515584 = 0) : rl_now 1 191 M1 := by
  have hb : ∀ g : Nat, (34376515584 : Nat).testBit g = true → T.testBit g = false := by
    intro g hg
    have h1 : (T &&& 34376515584).testBit g = (T.testBit g && (34376515584 : Nat).testBit g) := Nat.testBit_and T _ g
    rw [hT, hg, Bool.and_true, Nat.zero_testBit] at h1
    exact h1.symm
  exact rl_now.mv h (gFr.at F rc_1_15.2.2 (hb _ rfl)) (gFr.at F (rs_NOW (k := 0) (by omega)).2.2 (hb _ rfl))
theorem rl_now.im {M M1 : gM} (h : rl_now 206 193 M) (eI : ∀ o b : Int, 206 ≤ o → M1 o b = M o b) (e3 : ∀ b : Int, M1 193 b = M 193 b) : rl_now 206 193 M1 := rl_now.mv h (eI 206 15 (by decide)) (e3 0)
def rl_nact (o0 A : Int) (M : gM) : Prop := M o0 13 = M A 4
theorem rl_nact.mv {o0 q0 A B : Int} {M M1 : gM} (h : rl_nact o0 A M) (c0 : M1 q0 13 = M o0 13) (r0 : M1 B 4 = M A 4) : rl_nact q0 B M1 := (c0.trans ((show M o0 13 = M A 4 from h).trans r0.symm))
theorem rl_nact.fr {T : Nat} {M M1 : gM} (h : rl_nact 1 191 M) (hN : M 1 10 ≤ 16 ∧ M 1 11 ≤ 40) (F : gFr T M M1) (hT : T &&& 274882101248 = 0) : rl_nact 1 191 M1 := by
  have hb : ∀ g : Nat, (274882101248 : Nat).testBit g = true → T.testBit g = false := by
    intro g hg
    have h1 : (T &&& 274882101248).testBit g = (T.testBit g && (274882101248 : Nat).testBit g) := Nat.testBit_and T _ g
    rw [hT, hg, Bool.and_true, Nat.zero_testBit] at h1
    exact h1.symm
  exact rl_nact.mv h (gFr.at F rc_1_13.2.2 (hb _ rfl)) (gFr.at F (rs_NA (k := 4) (by omega)).2.2 (hb _ rfl))
theorem rl_nact.im {M M1 : gM} (h : rl_nact 206 193 M) (eI : ∀ o b : Int, 206 ≤ o → M1 o b = M o b) (e3 : ∀ b : Int, M1 193 b = M 193 b) : rl_nact 206 193 M1 := rl_nact.mv h (eI 206 13 (by decide)) (e3 4)
def rl_ntape (o0 A : Int) (M : gM) : Prop := M o0 14 = M A 10
theorem rl_ntape.mv {o0 q0 A B : Int} {M M1 : gM} (h : rl_ntape o0 A M) (c0 : M1 q0 14 = M o0 14) (r0 : M1 B 10 = M A 10) : rl_ntape q0 B M1 := (c0.trans ((show M o0 14 = M A 10 from h).trans r0.symm))
theorem rl_ntape.fr {T : Nat} {M M1 : gM} (h : rl_ntape 1 191 M) (hN : M 1 10 ≤ 16 ∧ M 1 11 ≤ 40) (F : gFr T M M1) (hT : T &&& 17592194433024 = 0) : rl_ntape 1 191 M1 := by
  have hb : ∀ g : Nat, (17592194433024 : Nat).testBit g = true → T.testBit g = false := by
    intro g hg
    have h1 : (T &&& 17592194433024).testBit g = (T.testBit g && (17592194433024 : Nat).testBit g) := Nat.testBit_and T _ g
    rw [hT, hg, Bool.and_true, Nat.zero_testBit] at h1
    exact h1.symm
  exact rl_ntape.mv h (gFr.at F rc_1_14.2.2 (hb _ rfl)) (gFr.at F (rs_TAPED (k := 10) (by omega)).2.2 (hb _ rfl))
theorem rl_ntape.im {M M1 : gM} (h : rl_ntape 206 193 M) (eI : ∀ o b : Int, 206 ≤ o → M1 o b = M o b) (e3 : ∀ b : Int, M1 193 b = M 193 b) : rl_ntape 206 193 M1 := rl_ntape.mv h (eI 206 14 (by decide)) (e3 10)
def rl_tape (o0 A : Int) (M : gM) : Prop := ∀ b : Int, 0 ≤ b → b < 150 → M o0 b % 256 = M A (b + 2620)
theorem rl_tape.mv {o0 q0 A B : Int} {M M1 : gM} (h : rl_tape o0 A M) (c0 : ∀ b : Int, 0 ≤ b → b < 150 → M1 q0 b = M o0 b) (r0 : ∀ b : Int, 0 ≤ b → b < 150 → M1 B (b + 2620) = M A (b + 2620)) : rl_tape q0 B M1 := fun b h0 h1 => by rw [c0 b h0 h1, r0 b h0 h1]; exact h b h0 h1
theorem rl_tape.fr {T : Nat} {M M1 : gM} (h : rl_tape 8 191 M) (hN : M 1 10 ≤ 16 ∧ M 1 11 ≤ 40) (F : gFr T M M1) (hT : T &&& 144115188075856384 = 0) : rl_tape 8 191 M1 := by
  have hb : ∀ g : Nat, (144115188075856384 : Nat).testBit g = true → T.testBit g = false := by
    intro g hg
    have h1 : (T &&& 144115188075856384).testBit g = (T.testBit g && (144115188075856384 : Nat).testBit g) := Nat.testBit_and T _ g
    rw [hT, hg, Bool.and_true, Nat.zero_testBit] at h1
    exact h1.symm
  exact rl_tape.mv h (fun b _ _ => gFr.at F (ra_8 b).2.2 (hb _ rfl)) (fun b h0 h1 => gFr.at F (rs_TAPE (k := b + 2620) (by omega)).2.2 (hb _ rfl))
theorem rl_tape.im {M M1 : gM} (h : rl_tape 213 193 M) (eI : ∀ o b : Int, 206 ≤ o → M1 o b = M o b) (e3 : ∀ b : Int, M1 193 b = M 193 b) : rl_tape 213 193 M1 := rl_tape.mv h (fun b _ _ => eI 213 b (by decide)) (fun b _ _ => e3 (b + 2620))
def rl_rows (o0 A : Int) (M : gM) : Prop := ∀ b : Int, 0 ≤ b → b < 3 → M o0 b = M A (b + 2580)
theorem rl_rows.mv {o0 q0 A B : Int} {M M1 : gM} (h : rl_rows o0 A M) (c0 : ∀ b : Int, 0 ≤ b → b < 3 → M1 q0 b = M o0 b) (r0 : ∀ b : Int, 0 ≤ b → b < 3 → M1 B (b + 2580) = M A (b + 2580)) : rl_rows q0 B M1 := fun b h0 h1 => by rw [c0 b h0 h1, r0 b h0 h1]; exact h b h0 h1
theorem rl_rows.fr {T : Nat} {M M1 : gM} (h : rl_rows 18 191 M) (hN : M 1 10 ≤ 16 ∧ M 1 11 ≤ 40) (F : gFr T M M1) (hT : T &&& 72057594037936128 = 0) : rl_rows 18 191 M1 := by
  have hb : ∀ g : Nat, (72057594037936128 : Nat).testBit g = true → T.testBit g = false := by
    intro g hg
    have h1 : (T &&& 72057594037936128).testBit g = (T.testBit g && (72057594037936128 : Nat).testBit g) := Nat.testBit_and T _ g
    rw [hT, hg, Bool.and_true, Nat.zero_testBit] at h1
    exact h1.symm
  exact rl_rows.mv h (fun b _ _ => gFr.at F (ra_18 b).2.2 (hb _ rfl)) (fun b h0 h1 => gFr.at F (rs_FMANY (k := b + 2580) (by omega)).2.2 (hb _ rfl))
theorem rl_rows.im {M M1 : gM} (h : rl_rows 223 193 M) (eI : ∀ o b : Int, 206 ≤ o → M1 o b = M o b) (e3 : ∀ b : Int, M1 193 b = M 193 b) : rl_rows 223 193 M1 := rl_rows.mv h (fun b _ _ => eI 223 b (by decide)) (fun b _ _ => e3 (b + 2580))
def lwRel (M : gM) : Prop := rl_now 1 191 M ∧ rl_nact 1 191 M ∧ rl_ntape 1 191 M ∧ rl_tape 8 191 M ∧ rl_rows 18 191 M
def lwRelI (M : gM) : Prop := rl_now 206 193 M ∧ rl_nact 206 193 M ∧ rl_ntape 206 193 M ∧ rl_tape 213 193 M ∧ rl_rows 223 193 M
def lwK (sz cs ss : Nat) (M : gM) : Prop := (sz = 206 ∧ cs = 206 ∧ ss = 87467 ∧ M 0 9 = 0 ∧ M 190 4 = 0 ∧ gZ 206 M) ∨ (sz = 358 ∧ cs = 358 ∧ ss = 97974 ∧ M 0 9 = 207 ∧ M 190 4 = 1 ∧ M 206 13 ≤ 10 ∧ M 193 4 ≤ 10 ∧ gW 193 M ∧ lwRelI M)
def lwI (sz cs ss : Nat) (M : gM) : Prop := 206 ≤ sz ∧ gI sz M ∧ gC sz M ∧ gW 191 M ∧ M 1 13 ≤ 10 ∧ M 191 4 ≤ 10 ∧ lwK sz cs ss M ∧ lwRel M
theorem gG_im2 {o : Int} (h : 206 ≤ o) (b : Int) : (154714189158519407380529152 : Nat).testBit (gG o b) = true := by
  unfold gG
  rw [if_neg (by omega), if_neg (by omega), if_neg (by omega), if_neg (by omega), if_neg (by omega)]
  unfold gGi
  repeat' split
  all_goals rfl
theorem lwRelI.eq {M M1 : gM} (k : lwRelI M) (eI : ∀ o b : Int, 206 ≤ o → M1 o b = M o b) (e3 : ∀ b : Int, M1 193 b = M 193 b) : lwRelI M1 := ⟨rl_now.im k.1 eI e3, rl_nact.im k.2.1 eI e3, rl_ntape.im k.2.2.1 eI e3, rl_tape.im k.2.2.2.1 eI e3, rl_rows.im k.2.2.2.2 eI e3⟩
theorem lwK.bit {T : Nat} (h : T &&& 154714189158519407380529152 = 0) (g : Nat) (hg : (154714189158519407380529152 : Nat).testBit g = true) : T.testBit g = false := by
  have h1 : (T &&& 154714189158519407380529152).testBit g = (T.testBit g && (154714189158519407380529152 : Nat).testBit g) := Nat.testBit_and T _ g
  rw [h, hg, Bool.and_true, Nat.zero_testBit] at h1
  exact h1.symm
theorem lwK.fr {T sz cs ss : Nat} {M M1 : gM} (K : lwK sz cs ss M) (F : gFr T M M1) (h : T &&& 154714189158519407380529152 = 0) : lwK sz cs ss M1 := by
  have e0 : M1 0 9 = M 0 9 := gFr.at F rc_0_9.2.2 (lwK.bit h _ rfl)
  have e4 : M1 190 4 = M 190 4 := gFr.at F rc_190_4.2.2 (lwK.bit h _ rfl)
  have eI : ∀ o b : Int, 206 ≤ o → M1 o b = M o b := fun o b q => F o b (lwK.bit h _ (gG_im2 q b))
  have e3 : ∀ b : Int, M1 193 b = M 193 b := fun b => gFr.at F (show gG 193 b = 64 from rfl) (lwK.bit h _ rfl)
  unfold lwK at *
  rcases K with ⟨k1, k2, k3, k4, k5, k6⟩ | ⟨k1, k2, k3, k4, k5, k6, k7, k8, k9⟩
  · exact Or.inl ⟨k1, k2, k3, e0.trans k4, e4.trans k5, fun o k q => by rw [eI o k q]; exact k6 o k q⟩
  · refine Or.inr ⟨k1, k2, k3, e0.trans k4, e4.trans k5, by rw [eI 206 13 (by decide)]; exact k6, by rw [e3]; exact k7, gW.same k8 e3, ?_⟩
    exact lwRelI.eq k9 eI e3
theorem lwK.room {sz cs ss : Nat} {M : gM} (K : lwK sz cs ss M) : cs ≤ 358 ∧ ss ≤ 97974 := by
  unfold lwK at K
  rcases K with ⟨k1, k2, k3, _⟩ | ⟨k1, k2, k3, _⟩ <;> omega
theorem gN_of {sz : Nat} {M : gM} (hsz : 206 ≤ sz) (I : gI sz M) : M 1 10 ≤ 16 ∧ M 1 11 ≤ 40 := by
  have h1 := I 1 10 (by decide) (gsz hsz (by decide))
  have h2 := I 1 11 (by decide) (gsz hsz (by decide))
  rw [rc_1_10.1] at h1
  rw [rc_1_11.1] at h2
  exact ⟨h1.2, h2.2⟩
def gLs (a : Int) : Int := (Int64.ofInt a <<< ((Int32.ofInt 32).toInt64 &&& 63)).toInt
def gLa (a : Int) : Int := (Int64.ofInt a &&& Int64.ofInt 4294967295).toInt
def gLo (a b : Int) : Int := (Int64.ofInt a ||| Int64.ofInt b).toInt
theorem gLo_r (a b : Int) : -9223372036854775808 ≤ gLo a b ∧ gLo a b ≤ 9223372036854775807 := gl_rg _
theorem gTt_eq {M M1 : gM} (rt : rl_tape 8 191 M) (rn : M 1 14 = M 191 10) (hn : M 1 14 ≤ 150) (e1 : ∀ k : Int, M1 191 k = M 191 k) : gTm M1 = gTt M := by
  funext p
  unfold gTm gTt
  rw [e1 10, e1 (p + 2620), ← rn]
  by_cases h : 0 ≤ p ∧ p < M 1 14
  · rw [if_pos h, if_pos h]; exact (rt p h.1 (by omega)).symm
  · rw [if_neg h, if_neg h]
theorem rel_text {M M1 M2 : gM} {a z1 z2 : Int} (rt : rl_tape 8 191 M) (rn : M 1 14 = M 191 10) (ra : M 1 13 = M 191 4) (hn : M 1 14 ≤ 150) (hA : M 1 13 ≤ 10) (x1 : M1 1 13 ≤ 10 ∧ ((¬ (0 ≤ a ∧ a ≤ 300) ∧ z1 = -2 ∧ M1 1 13 = M 1 13 ∧ M1 1 14 = M 1 14) ∨ ((0 ≤ a ∧ a ≤ 300) ∧ 10 ≤ M 1 13 ∧ z1 = -4 ∧ M1 1 13 = M 1 13 ∧ M1 1 14 = M 1 14) ∨ (((0 ≤ a ∧ a ≤ 300) ∧ M 1 13 < 10) ∧ gAct (gTt M) (M 1 14) 8 0 = -1 ∧ z1 = M 1 13 ∧ M1 1 13 = M 1 13 + 1 ∧ M1 1 14 = 0) ∨ (((0 ≤ a ∧ a ≤ 300) ∧ M 1 13 < 10) ∧ ¬ gAct (gTt M) (M 1 14) 8 0 = -1 ∧ z1 = -10 - gAct (gTt M) (M 1 14) 8 0 ∧ M1 1 13 = M 1 13 ∧ M1 1 14 = 0))) (e1 : ∀ k : Int, M1 191 k = M 191 k) (x2 : M2 191 4 ≤ 10 ∧ ((¬ (0 ≤ a ∧ a ≤ 300) ∧ z2 = -2 ∧ M2 191 4 = M1 191 4 ∧ M2 191 10 = M1 191 10) ∨ ((0 ≤ a ∧ a ≤ 300) ∧ M1 191 4 = 10 ∧ z2 = -4 ∧ M2 191 4 = M1 191 4 ∧ M2 191 10 = M1 191 10) ∨ (((0 ≤ a ∧ a ≤ 300) ∧ M1 191 4 < 10) ∧ gAct (gTm M1) (M1 191 10) 8 0 = -1 ∧ z2 = M1 191 4 ∧ M2 191 4 = M1 191 4 + 1 ∧ M2 191 10 = 0) ∨ (((0 ≤ a ∧ a ≤ 300) ∧ M1 191 4 < 10) ∧ ¬ gAct (gTm M1) (M1 191 10) 8 0 = -1 ∧ z2 = -10 - gAct (gTm M1) (M1 191 10) 8 0 ∧ M2 191 4 = M1 191 4 ∧ M2 191 10 = 0))) (n13 : M2 1 13 = M1 1 13) (n14 : M2 1 14 = M1 1 14) : z1 = z2 ∧ M2 1 13 = M2 191 4 ∧ M2 1 14 = M2 191 10 := by
  have eT := gTt_eq rt rn hn e1
  rw [eT, e1 10, e1 4, ← rn, ← ra] at x2
  obtain ⟨_, x1⟩ := x1
  obtain ⟨_, x2⟩ := x2
  refine ⟨by omega, by omega, by omega⟩
theorem rel_feed {M M1 M2 : gM} {a b z1 z2 : Int} (rt : rl_tape 8 191 M) (rn : M 1 14 = M 191 10) (x1 : (¬ (1 ≤ b ∧ b ≤ 8) ∧ z1 = -2 ∧ M1 1 14 = M 1 14 ∧ (∀ k : Int, M1 8 k = M 8 k)) ∨ ((1 ≤ b ∧ b ≤ 8) ∧ 150 < M 1 14 + b ∧ z1 = -4 ∧ M1 1 14 = M 1 14 ∧ (∀ k : Int, M1 8 k = M 8 k)) ∨ (((1 ≤ b ∧ b ≤ 8) ∧ M 1 14 + b ≤ 150) ∧ z1 = M 1 14 + b ∧ M1 1 14 = M 1 14 + b ∧ (∀ k : Int, k < M 1 14 ∨ M 1 14 + b ≤ k → M1 8 k = M 8 k) ∧ (∀ j : Int, 0 ≤ j → j < b → M1 8 (M 1 14 + j) % 256 = gBy a (b - 1 - j)))) (e1 : ∀ k : Int, M1 191 k = M 191 k) (x2 : (¬ (1 ≤ b ∧ b ≤ 8) ∧ z2 = -2 ∧ M2 191 10 = M1 191 10 ∧ (∀ k : Int, 2620 ≤ k → k < 2770 → M2 191 k = M1 191 k)) ∨ ((1 ≤ b ∧ b ≤ 8) ∧ 150 < M1 191 10 + b ∧ z2 = -4 ∧ M2 191 10 = M1 191 10 ∧ (∀ k : Int, 2620 ≤ k → k < 2770 → M2 191 k = M1 191 k)) ∨ (((1 ≤ b ∧ b ≤ 8) ∧ M1 191 10 + b ≤ 150) ∧ z2 = M1 191 10 + b ∧ M2 191 10 = M1 191 10 + b ∧ (∀ k : Int, 2620 ≤ k → k < 2770 → (k < M1 191 10 + 2620 ∨ M1 191 10 + b + 2620 ≤ k) → M2 191 k = M1 191 k) ∧ (∀ j : Int, 0 ≤ j → j < b → M2 191 (M1 191 10 + j + 2620) = gBy a (b - 1 - j)))) (n14 : M2 1 14 = M1 1 14) (n8 : ∀ k : Int, M2 8 k = M1 8 k) (h0 : 0 ≤ M 1 14) : z1 = z2 ∧ M2 1 14 = M2 191 10 ∧ rl_tape 8 191 M2 := by
  have f10 := e1 10
  rcases x1 with ⟨c1, y1, s1, t1⟩ | ⟨c1, c2, y1, s1, t1⟩ | ⟨c1, y1, s1, t1, u1⟩
  · rcases x2 with ⟨d1, y2, s2, t2⟩ | ⟨d1, d2, y2, s2, t2⟩ | ⟨d1, y2, s2, t2, u2⟩
    · refine ⟨by omega, by omega, fun k k0 k1 => ?_⟩
      rw [n8, t1, t2 (k + 2620) (by omega) (by omega), e1]; exact rt k k0 k1
    · exfalso; omega
    · exfalso; omega
  · rcases x2 with ⟨d1, y2, s2, t2⟩ | ⟨d1, d2, y2, s2, t2⟩ | ⟨d1, y2, s2, t2, u2⟩
    · exfalso; omega
    · refine ⟨by omega, by omega, fun k k0 k1 => ?_⟩
      rw [n8, t1, t2 (k + 2620) (by omega) (by omega), e1]; exact rt k k0 k1
    · exfalso; omega
  · rcases x2 with ⟨d1, y2, s2, t2⟩ | ⟨d1, d2, y2, s2, t2⟩ | ⟨d1, y2, s2, t2, u2⟩
    · exfalso; omega
    · exfalso; omega
    · refine ⟨by omega, by omega, fun k k0 k1 => ?_⟩
      by_cases g : k < M 1 14 ∨ M 1 14 + b ≤ k
      · rw [n8, t1 k g, t2 (k + 2620) (by omega) (by omega) (by omega), e1]; exact rt k k0 k1
      · have p1 := u1 (k - M 1 14) (by omega) (by omega)
        have p2 := u2 (k - M 1 14) (by omega) (by omega)
        rw [show M 1 14 + (k - M 1 14) = k by omega] at p1
        rw [show M1 191 10 + (k - M 1 14) + 2620 = k + 2620 by omega] at p2
        rw [n8, p1, p2]
theorem rel_frosts {M M1 M2 : gM} {a b c z1 z2 : Int} (rr : rl_rows 18 191 M) (x1 : ((¬ (0 ≤ a ∧ a ≤ 2) ∧ z1 = -1) ∨ ((0 ≤ a ∧ a ≤ 2) ∧ ¬ ((1 ≤ c ∧ c ≤ 10) ∧ 0 ≤ b ∧ b < gTen c) ∧ z1 = -2) ∨ ((0 ≤ a ∧ a ≤ 2) ∧ ((1 ≤ c ∧ c ≤ 10) ∧ 0 ≤ b ∧ b < gTen c) ∧ z1 = c)) ∧ ((z1 < 0 ∧ (∀ k : Int, M1 18 k = M 18 k)) ∨ (0 ≤ z1 ∧ M1 18 a = z1 ∧ (∀ k : Int, ¬ k = a → M1 18 k = M 18 k)))) (e1 : ∀ k : Int, M1 191 k = M 191 k) (x2 : ((¬ (0 ≤ a ∧ a ≤ 2) ∧ z2 = -1) ∨ ((0 ≤ a ∧ a ≤ 2) ∧ ¬ ((1 ≤ c ∧ c ≤ 10) ∧ 0 ≤ b ∧ b < gTen c) ∧ z2 = -2) ∨ ((0 ≤ a ∧ a ≤ 2) ∧ ((1 ≤ c ∧ c ≤ 10) ∧ 0 ≤ b ∧ b < gTen c) ∧ z2 = c)) ∧ ((z2 < 0 ∧ (∀ k : Int, 2580 ≤ k → k < 2583 → M2 191 k = M1 191 k)) ∨ (0 ≤ z2 ∧ M2 191 (a + 2580) = z2 ∧ (∀ k : Int, 2580 ≤ k → k < 2583 → ¬ k = a + 2580 → M2 191 k = M1 191 k)))) (n18 : ∀ k : Int, M2 18 k = M1 18 k) : rl_rows 18 191 M2 := by
  obtain ⟨p1, q1⟩ := x1
  obtain ⟨p2, q2⟩ := x2
  have hz : z1 = z2 := by omega
  intro k k0 k1
  rcases q1 with ⟨c1, t1⟩ | ⟨c1, s1, t1⟩
  · rcases q2 with ⟨c2, t2⟩ | ⟨c2, s2, t2⟩
    · rw [n18, t1, t2 (k + 2580) (by omega) (by omega), e1]; exact rr k k0 k1
    · exfalso; omega
  · rcases q2 with ⟨c2, t2⟩ | ⟨c2, s2, t2⟩
    · exfalso; omega
    · by_cases g : k = a
      · rw [n18, g, s1, s2, hz]
      · rw [n18, t1 k g, t2 (k + 2580) (by omega) (by omega) (by omega), e1]; exact rr k k0 k1
