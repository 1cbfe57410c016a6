def rl_now (o0 A : Int) (M : gM) : Prop := M o0 15 = M A 0
theorem rl_now.mv {o0 q0 A B : Int} {M M1 : gM} (h : rl_now o0 A M) (c0 : M1 q0 15 = M o0 15) (r0 : M1 B 0 = M A 0) : rl_now q0 B M1 := (c0.trans ((show M o0 15 = M A 0 from h).trans r0.symm))
theorem rl_now.fr {T : Nat} {M M1 : gM} (h : rl_now 1 191 M) (hN : M 1 10 ≤ 16 ∧ M 1 11 ≤ 40) (F : gFr T M M1) (hT : T &&& 34376515584 = 0) : rl_now 1 191 M1 := by
  have hb : ∀ g : Nat, (34376515584 : Nat).testBit g = true → T.testBit g = false := by
    intro g hg
    have h1 : (T &&& 34376515584).testBit g = (T.testBit g && (34376515584 : Nat).testBit g) := Nat.testBit_and T _ g
    rw [hT, hg, Bool.and_true, Nat.zero_testBit] at h1
    exact h1.symm
  exact rl_now.mv h (gFr.at F rc_1_15.2.2 (hb _ rfl)) (gFr.at F (rs_NOW (k := 0) (by omega)).2.2 (hb _ rfl))
theorem rl_now.im {M M1 : gM} (h : rl_now 206 193 M) (eI : ∀ o b : Int, 206 ≤ o → M1 o b = M o b) (e3 : ∀ b : Int, M1 193 b = M 193 b) : rl_now 206 193 M1 := rl_now.mv h (eI 206 15 (by decide)) (e3 0)
def rl_frost (o0 A : Int) (M : gM) : Prop := ∀ b : Int, 0 ≤ b → b < 301 → M o0 b = M A (b + 2800)
theorem rl_frost.mv {o0 q0 A B : Int} {M M1 : gM} (h : rl_frost o0 A M) (c0 : ∀ b : Int, 0 ≤ b → b < 301 → M1 q0 b = M o0 b) (r0 : ∀ b : Int, 0 ≤ b → b < 301 → M1 B (b + 2800) = M A (b + 2800)) : rl_frost q0 B M1 := fun b h0 h1 => by rw [c0 b h0 h1, r0 b h0 h1]; exact h b h0 h1
theorem rl_frost.fr {T : Nat} {M M1 : gM} (h : rl_frost 17 191 M) (hN : M 1 10 ≤ 16 ∧ M 1 11 ≤ 40) (F : gFr T M M1) (hT : T &&& 576460752303427584 = 0) : rl_frost 17 191 M1 := by
  have hb : ∀ g : Nat, (576460752303427584 : Nat).testBit g = true → T.testBit g = false := by
    intro g hg
    have h1 : (T &&& 576460752303427584).testBit g = (T.testBit g && (576460752303427584 : Nat).testBit g) := Nat.testBit_and T _ g
    rw [hT, hg, Bool.and_true, Nat.zero_testBit] at h1
    exact h1.symm
  exact rl_frost.mv h (fun b _ _ => gFr.at F (ra_17 b).2.2 (hb _ rfl)) (fun b h0 h1 => gFr.at F (rs_FROST (k := b + 2800) (by omega)).2.2 (hb _ rfl))
theorem rl_frost.im {M M1 : gM} (h : rl_frost 222 193 M) (eI : ∀ o b : Int, 206 ≤ o → M1 o b = M o b) (e3 : ∀ b : Int, M1 193 b = M 193 b) : rl_frost 222 193 M1 := rl_frost.mv h (fun b _ _ => eI 222 b (by decide)) (fun b _ _ => e3 (b + 2800))
def lwRel (M : gM) : Prop := rl_now 1 191 M ∧ rl_frost 17 191 M
def lwRelI (M : gM) : Prop := rl_now 206 193 M ∧ rl_frost 222 193 M
def lwK (sz cs ss : Nat) (M : gM) : Prop := (sz = 206 ∧ cs = 206 ∧ ss = 87467 ∧ M 0 9 = 0 ∧ M 190 4 = 0 ∧ gZ 206 M) ∨ (sz = 358 ∧ cs = 358 ∧ ss = 97974 ∧ M 0 9 = 207 ∧ M 190 4 = 1 ∧ M 206 13 ≤ 10 ∧ M 193 4 ≤ 10 ∧ gW 193 M ∧ lwRelI M)
def lwI (sz cs ss : Nat) (M : gM) : Prop := 206 ≤ sz ∧ gI sz M ∧ gC sz M ∧ gW 191 M ∧ M 1 13 ≤ 10 ∧ M 191 4 ≤ 10 ∧ lwK sz cs ss M ∧ lwRel M
theorem gG_im2 {o : Int} (h : 206 ≤ o) (b : Int) : (154714189158519407380529152 : Nat).testBit (gG o b) = true := by
  unfold gG
  rw [if_neg (by omega), if_neg (by omega), if_neg (by omega), if_neg (by omega), if_neg (by omega)]
  unfold gGi
  repeat' split
  all_goals rfl
theorem lwRelI.eq {M M1 : gM} (k : lwRelI M) (eI : ∀ o b : Int, 206 ≤ o → M1 o b = M o b) (e3 : ∀ b : Int, M1 193 b = M 193 b) : lwRelI M1 := ⟨rl_now.im k.1 eI e3, rl_frost.im k.2 eI e3⟩
theorem lwK.bit {T : Nat} (h : T &&& 154714189158519407380529152 = 0) (g : Nat) (hg : (154714189158519407380529152 : Nat).testBit g = true) : T.testBit g = false := by
  have h1 : (T &&& 154714189158519407380529152).testBit g = (T.testBit g && (154714189158519407380529152 : Nat).testBit g) := Nat.testBit_and T _ g
  rw [h, hg, Bool.and_true, Nat.zero_testBit] at h1
  exact h1.symm
theorem lwK.fr {T sz cs ss : Nat} {M M1 : gM} (K : lwK sz cs ss M) (F : gFr T M M1) (h : T &&& 154714189158519407380529152 = 0) : lwK sz cs ss M1 := by
  have e0 : M1 0 9 = M 0 9 := gFr.at F rc_0_9.2.2 (lwK.bit h _ rfl)
  have e4 : M1 190 4 = M 190 4 := gFr.at F rc_190_4.2.2 (lwK.bit h _ rfl)
  have eI : ∀ o b : Int, 206 ≤ o → M1 o b = M o b := fun o b q => F o b (lwK.bit h _ (gG_im2 q b))
  have e3 : ∀ b : Int, M1 193 b = M 193 b := fun b => gFr.at F (show gG 193 b = 64 from rfl) (lwK.bit h _ rfl)
  unfold lwK at *
  rcases K with ⟨k1, k2, k3, k4, k5, k6⟩ | ⟨k1, k2, k3, k4, k5, k6, k7, k8, k9⟩
  · exact Or.inl ⟨k1, k2, k3, e0.trans k4, e4.trans k5, fun o k q => by rw [eI o k q]; exact k6 o k q⟩
  · refine Or.inr ⟨k1, k2, k3, e0.trans k4, e4.trans k5, by rw [eI 206 13 (by decide)]; exact k6, by rw [e3]; exact k7, gW.same k8 e3, ?_⟩
    exact lwRelI.eq k9 eI e3
theorem lwK.room {sz cs ss : Nat} {M : gM} (K : lwK sz cs ss M) : cs ≤ 358 ∧ ss ≤ 97974 := by
  unfold lwK at K
  rcases K with ⟨k1, k2, k3, _⟩ | ⟨k1, k2, k3, _⟩ <;> omega
theorem gN_of {sz : Nat} {M : gM} (hsz : 206 ≤ sz) (I : gI sz M) : M 1 10 ≤ 16 ∧ M 1 11 ≤ 40 := by
  have h1 := I 1 10 (by decide) (gsz hsz (by decide))
  have h2 := I 1 11 (by decide) (gsz hsz (by decide))
  rw [rc_1_10.1] at h1
  rw [rc_1_11.1] at h2
  exact ⟨h1.2, h2.2⟩
theorem rel_frost {M M1 M2 : gM} {a b z1 z2 : Int} (R : rl_frost 17 191 M) (RN : M 1 15 = M 191 0) (x1 : (((¬ ((0 ≤ a ∧ a ≤ 300) ∧ (0 ≤ b ∧ b ≤ 9)) ∧ z1 = -2) ∨ (((0 ≤ a ∧ a ≤ 300) ∧ (0 ≤ b ∧ b ≤ 9)) ∧ a < M 1 15 ∧ z1 = -3)) ∧ (∀ k : Int, 0 ≤ k → k < 301 → M1 17 k = M 17 k)) ∨ (((0 ≤ a ∧ a ≤ 300) ∧ (0 ≤ b ∧ b ≤ 9)) ∧ ¬ a < M 1 15 ∧ z1 = M 17 a ∧ (∀ k : Int, 0 ≤ k → k < 301 → ¬ k = a → M1 17 k = M 17 k) ∧ M1 17 a = b)) (e1 : ∀ k : Int, M1 191 k = M 191 k) (x2 : (((¬ ((0 ≤ a ∧ a ≤ 300) ∧ (0 ≤ b ∧ b ≤ 9)) ∧ z2 = -2) ∨ (((0 ≤ a ∧ a ≤ 300) ∧ (0 ≤ b ∧ b ≤ 9)) ∧ a < M1 191 0 ∧ z2 = -3)) ∧ (∀ k : Int, 0 ≤ k → k < 301 → M2 191 (k + 2800) = M1 191 (k + 2800))) ∨ (((0 ≤ a ∧ a ≤ 300) ∧ (0 ≤ b ∧ b ≤ 9)) ∧ ¬ a < M1 191 0 ∧ z2 = M1 191 (a + 2800) ∧ (∀ k : Int, 0 ≤ k → k < 301 → ¬ k = a → M2 191 (k + 2800) = M1 191 (k + 2800)) ∧ M2 191 (a + 2800) = b)) (e2 : ∀ k : Int, M2 17 k = M1 17 k) : z1 = z2 ∧ rl_frost 17 191 M2 := by
  have f1 := e1 0
  rcases x1 with ⟨h1, k1⟩ | ⟨ha, hb, h1, k1, k2⟩
  · rcases x2 with ⟨h2, k3⟩ | ⟨ha, hb, _, _, _⟩
    · refine ⟨by omega, fun p h0 h => ?_⟩
      rw [e2 p, k1 p h0 h, k3 p h0 h, e1]; exact R p h0 h
    · exfalso; omega
  · rcases x2 with ⟨h2, k3⟩ | ⟨ha', hb', h2, k3, k4⟩
    · exfalso; omega
    · refine ⟨by rw [h1, h2, e1]; exact R a ha.1.1 (by omega), fun p h0 h => ?_⟩
      by_cases g : p = a
      · rw [g, e2, k2, k4]
      · rw [e2 p, k1 p h0 h g, k3 p h0 h g, e1]; exact R p h0 h
