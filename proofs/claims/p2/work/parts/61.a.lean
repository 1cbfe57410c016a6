def lwRel (M : gM) : Prop := ∀ b : Int, 0 ≤ b → b < 6 → M 3 b = M 191 (b + 16)
def lwRelI (M : gM) : Prop := ∀ b : Int, 0 ≤ b → b < 6 → M 208 b = M 193 (b + 16)
def lwK (sz cs ss : Nat) (M : gM) : Prop := (sz = 206 ∧ cs = 206 ∧ ss = 87467 ∧ M 0 9 = 0 ∧ M 190 4 = 0 ∧ gZ 206 M) ∨ (sz = 358 ∧ cs = 358 ∧ ss = 97974 ∧ M 0 9 = 207 ∧ M 190 4 = 1 ∧ M 206 13 ≤ 10 ∧ M 193 4 ≤ 10 ∧ gW 193 M ∧ lwRelI M)
def lwI (sz cs ss : Nat) (M : gM) : Prop := 206 ≤ sz ∧ gI sz M ∧ gC sz M ∧ gW 191 M ∧ M 1 13 ≤ 10 ∧ M 191 4 ≤ 10 ∧ lwK sz cs ss M ∧ lwRel M
theorem gG_im2 {o : Int} (h : 206 ≤ o) (b : Int) : (154714189158519407380529152 : Nat).testBit (gG o b) = true := by
  unfold gG
  rw [if_neg (by omega), if_neg (by omega), if_neg (by omega), if_neg (by omega), if_neg (by omega)]
  unfold gGi
  repeat' split
  all_goals rfl
theorem lwRelI.eq {M M1 : gM} (k : lwRelI M) (eI : ∀ o b : Int, 206 ≤ o → M1 o b = M o b) (e3 : ∀ b : Int, M1 193 b = M 193 b) : lwRelI M1 := fun b h0 h1 => by rw [eI 208 b (by decide), e3 (b + 16)]; exact k b h0 h1
theorem lwK.bit {T : Nat} (h : T &&& 154714189158519407380529152 = 0) (g : Nat) (hg : (154714189158519407380529152 : Nat).testBit g = true) : T.testBit g = false := by
  have h1 : (T &&& 154714189158519407380529152).testBit g = (T.testBit g && (154714189158519407380529152 : Nat).testBit g) := Nat.testBit_and T _ g
  rw [h, hg, Bool.and_true, Nat.zero_testBit] at h1
  exact h1.symm
theorem lwK.fr {T sz cs ss : Nat} {M M1 : gM} (K : lwK sz cs ss M) (F : gFr T M M1) (h : T &&& 154714189158519407380529152 = 0) : lwK sz cs ss M1 := by
  have e0 : M1 0 9 = M 0 9 := gFr.at F rc_0_9.2.2 (lwK.bit h _ rfl)
  have e4 : M1 190 4 = M 190 4 := gFr.at F rc_190_4.2.2 (lwK.bit h _ rfl)
  have eI : ∀ o b : Int, 206 ≤ o → M1 o b = M o b := fun o b q => F o b (lwK.bit h _ (gG_im2 q b))
  have e3 : ∀ b : Int, M1 193 b = M 193 b := fun b => gFr.at F (show gG 193 b = 64 from rfl) (lwK.bit h _ rfl)
  unfold lwK at *
  rcases K with ⟨k1, k2, k3, k4, k5, k6⟩ | ⟨k1, k2, k3, k4, k5, k6, k7, k8, k9⟩
  · exact Or.inl ⟨k1, k2, k3, e0.trans k4, e4.trans k5, fun o k q => by rw [eI o k q]; exact k6 o k q⟩
  · refine Or.inr ⟨k1, k2, k3, e0.trans k4, e4.trans k5, by rw [eI 206 13 (by decide)]; exact k6, by rw [e3]; exact k7, gW.same k8 e3, ?_⟩
    exact lwRelI.eq k9 eI e3
theorem lwK.room {sz cs ss : Nat} {M : gM} (K : lwK sz cs ss M) : cs ≤ 358 ∧ ss ≤ 97974 := by
  unfold lwK at K
  rcases K with ⟨k1, k2, k3, _⟩ | ⟨k1, k2, k3, _⟩ <;> omega
theorem rel_0 {M M1 M2 : gM} {a b z1 z2 : Int} (R : lwRel M) (x1 : ((((¬ (0 ≤ a ∧ a ≤ 5) ∧ z1 = -1) ∨ ((0 ≤ a ∧ a ≤ 5) ∧ ¬ (0 ≤ b ∧ b ≤ 9999) ∧ z1 = -2)) ∧ (∀ k : Int, M1 3 k = M 3 k)) ∨ ((0 ≤ a ∧ a ≤ 5) ∧ (0 ≤ b ∧ b ≤ 9999) ∧ z1 = M 3 a ∧ (∀ k : Int, ¬ k = a → M1 3 k = M 3 k) ∧ M1 3 a = b))) (e1 : ∀ k : Int, M1 191 k = M 191 k) (x2 : ((((¬ (0 ≤ a ∧ a ≤ 5) ∧ z2 = -1) ∨ ((0 ≤ a ∧ a ≤ 5) ∧ ¬ (0 ≤ b ∧ b ≤ 9999) ∧ z2 = -2)) ∧ (∀ k : Int, M2 191 k = M1 191 k)) ∨ ((0 ≤ a ∧ a ≤ 5) ∧ (0 ≤ b ∧ b ≤ 9999) ∧ z2 = M1 191 (a + 16) ∧ (∀ k : Int, ¬ k = a + 16 → M2 191 k = M1 191 k) ∧ M2 191 (a + 16) = b))) (e2 : ∀ k : Int, M2 3 k = M1 3 k) : z1 = z2 ∧ lwRel M2 := by
  rcases x1 with ⟨h1, k1⟩ | ⟨ha, hb, h1, k1, k2⟩
  · rcases x2 with ⟨h2, k3⟩ | ⟨ha, hb, _, _, _⟩
    · refine ⟨by omega, fun c h0 h1 => ?_⟩
      rw [e2, k1, k3, e1]; exact R c h0 h1
    · exfalso; omega
  · rcases x2 with ⟨h2, k3⟩ | ⟨ha', hb', h2, k3, k4⟩
    · exfalso; omega
    · refine ⟨by rw [h1, h2, e1]; exact R a ha.1 (by omega), fun c h0 h1 => ?_⟩
      by_cases g : c = a
      · rw [g, e2, k2, k4]
      · rw [e2, k1 c g, k3 (c + 16) (by omega), e1]; exact R c h0 h1
