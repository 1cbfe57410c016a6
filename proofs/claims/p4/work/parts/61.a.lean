def rl_way (o0 A : Int) (M : gM) : Prop := ∀ b : Int, 0 ≤ b → b < 36 → M o0 b = M A (b + 24)
theorem rl_way.mv {o0 q0 A B : Int} {M M1 : gM} (h : rl_way o0 A M) (c0 : ∀ b : Int, 0 ≤ b → b < 36 → M1 q0 b = M o0 b) (r0 : ∀ b : Int, 0 ≤ b → b < 36 → M1 B (b + 24) = M A (b + 24)) : rl_way q0 B M1 := fun b h0 h1 => by rw [c0 b h0 h1, r0 b h0 h1]; exact h b h0 h1
theorem rl_way.fr {T : Nat} {M M1 : gM} (h : rl_way 4 191 M) (hN : M 1 10 ≤ 16 ∧ M 1 11 ≤ 40) (F : gFr T M M1) (hT : T &&& 70368744177668 = 0) : rl_way 4 191 M1 := by
  have hb : ∀ g : Nat, (70368744177668 : Nat).testBit g = true → T.testBit g = false := by
    intro g hg
    have h1 : (T &&& 70368744177668).testBit g = (T.testBit g && (70368744177668 : Nat).testBit g) := Nat.testBit_and T _ g
    rw [hT, hg, Bool.and_true, Nat.zero_testBit] at h1
    exact h1.symm
  exact rl_way.mv h (fun b _ _ => gFr.at F (ra_4 b).2.2 (hb _ rfl)) (fun b h0 h1 => gFr.at F (rs_ROAD (k := b + 24) (by omega)).2.2 (hb _ rfl))
theorem rl_way.im {M M1 : gM} (h : rl_way 209 193 M) (eI : ∀ o b : Int, 206 ≤ o → M1 o b = M o b) (e3 : ∀ b : Int, M1 193 b = M 193 b) : rl_way 209 193 M1 := rl_way.mv h (fun b _ _ => eI 209 b (by decide)) (fun b _ _ => e3 (b + 24))
def rl_metric (o0 A : Int) (M : gM) : Prop := gMet (M o0)
theorem rl_metric.mv {o0 q0 A B : Int} {M M1 : gM} (h : rl_metric o0 A M) (c0 : ∀ b : Int, 0 ≤ b → b < 36 → M1 q0 b = M o0 b) : rl_metric q0 B M1 := gMet.of h c0
theorem rl_metric.fr {T : Nat} {M M1 : gM} (h : rl_metric 4 191 M) (hN : M 1 10 ≤ 16 ∧ M 1 11 ≤ 40) (F : gFr T M M1) (hT : T &&& 4 = 0) : rl_metric 4 191 M1 := by
  have hb : ∀ g : Nat, (4 : Nat).testBit g = true → T.testBit g = false := by
    intro g hg
    have h1 : (T &&& 4).testBit g = (T.testBit g && (4 : Nat).testBit g) := Nat.testBit_and T _ g
    rw [hT, hg, Bool.and_true, Nat.zero_testBit] at h1
    exact h1.symm
  exact rl_metric.mv h (fun b _ _ => gFr.at F (ra_4 b).2.2 (hb _ rfl))
theorem rl_metric.im {M M1 : gM} (h : rl_metric 209 193 M) (eI : ∀ o b : Int, 206 ≤ o → M1 o b = M o b) (e3 : ∀ b : Int, M1 193 b = M 193 b) : rl_metric 209 193 M1 := rl_metric.mv h (fun b _ _ => eI 209 b (by decide))
def lwRel (M : gM) : Prop := rl_way 4 191 M ∧ rl_metric 4 191 M
def lwRelI (M : gM) : Prop := rl_way 209 193 M ∧ rl_metric 209 193 M
def lwK (sz cs ss : Nat) (M : gM) : Prop := (sz = 206 ∧ cs = 206 ∧ ss = 87467 ∧ M 0 9 = 0 ∧ M 190 4 = 0 ∧ gZ 206 M) ∨ (sz = 358 ∧ cs = 358 ∧ ss = 97974 ∧ M 0 9 = 207 ∧ M 190 4 = 1 ∧ M 206 13 ≤ 10 ∧ M 193 4 ≤ 10 ∧ gW 193 M ∧ lwRelI M)
def lwI (sz cs ss : Nat) (M : gM) : Prop := 206 ≤ sz ∧ gI sz M ∧ gC sz M ∧ gW 191 M ∧ M 1 13 ≤ 10 ∧ M 191 4 ≤ 10 ∧ lwK sz cs ss M ∧ lwRel M
theorem gG_im2 {o : Int} (h : 206 ≤ o) (b : Int) : (154714189158519407380529152 : Nat).testBit (gG o b) = true := by
  unfold gG
  rw [if_neg (by omega), if_neg (by omega), if_neg (by omega), if_neg (by omega), if_neg (by omega)]
  unfold gGi
  repeat' split
  all_goals rfl
theorem lwRelI.eq {M M1 : gM} (k : lwRelI M) (eI : ∀ o b : Int, 206 ≤ o → M1 o b = M o b) (e3 : ∀ b : Int, M1 193 b = M 193 b) : lwRelI M1 := ⟨rl_way.im k.1 eI e3, rl_metric.im k.2 eI e3⟩
theorem lwK.bit {T : Nat} (h : T &&& 154714189158519407380529152 = 0) (g : Nat) (hg : (154714189158519407380529152 : Nat).testBit g = true) : T.testBit g = false := by
  have h1 : (T &&& 154714189158519407380529152).testBit g = (T.testBit g && (154714189158519407380529152 : Nat).testBit g) := Nat.testBit_and T _ g
  rw [h, hg, Bool.and_true, Nat.zero_testBit] at h1
  exact h1.symm
theorem lwK.fr {T sz cs ss : Nat} {M M1 : gM} (K : lwK sz cs ss M) (F : gFr T M M1) (h : T &&& 154714189158519407380529152 = 0) : lwK sz cs ss M1 := by
  have e0 : M1 0 9 = M 0 9 := gFr.at F rc_0_9.2.2 (lwK.bit h _ rfl)
  have e4 : M1 190 4 = M 190 4 := gFr.at F rc_190_4.2.2 (lwK.bit h _ rfl)
  have eI : ∀ o b : Int, 206 ≤ o → M1 o b = M o b := fun o b q => F o b (lwK.bit h _ (gG_im2 q b))
  have e3 : ∀ b : Int, M1 193 b = M 193 b := fun b => gFr.at F (show gG 193 b = 64 from rfl) (lwK.bit h _ rfl)
  unfold lwK at *
  rcases K with ⟨k1, k2, k3, k4, k5, k6⟩ | ⟨k1, k2, k3, k4, k5, k6, k7, k8, k9⟩
  · exact Or.inl ⟨k1, k2, k3, e0.trans k4, e4.trans k5, fun o k q => by rw [eI o k q]; exact k6 o k q⟩
  · refine Or.inr ⟨k1, k2, k3, e0.trans k4, e4.trans k5, by rw [eI 206 13 (by decide)]; exact k6, by rw [e3]; exact k7, gW.same k8 e3, ?_⟩
    exact lwRelI.eq k9 eI e3
theorem lwK.room {sz cs ss : Nat} {M : gM} (K : lwK sz cs ss M) : cs ≤ 358 ∧ ss ≤ 97974 := by
  unfold lwK at K
  rcases K with ⟨k1, k2, k3, _⟩ | ⟨k1, k2, k3, _⟩ <;> omega
theorem gN_of {sz : Nat} {M : gM} (hsz : 206 ≤ sz) (I : gI sz M) : M 1 10 ≤ 16 ∧ M 1 11 ≤ 40 := by
  have h1 := I 1 10 (by decide) (gsz hsz (by decide))
  have h2 := I 1 11 (by decide) (gsz hsz (by decide))
  rw [rc_1_10.1] at h1
  rw [rc_1_11.1] at h2
  exact ⟨h1.2, h2.2⟩
theorem rel_road {M M1 M2 : gM} {a b c z1 z2 : Int} (RW : rl_way 4 191 M) (RT : rl_metric 4 191 M) (x1 : ((((¬ (0 ≤ a ∧ a ≤ 5) ∨ ¬ (0 ≤ b ∧ b ≤ 5)) ∧ z1 = -1) ∨ (¬ (¬ (0 ≤ a ∧ a ≤ 5) ∨ ¬ (0 ≤ b ∧ b ≤ 5)) ∧ (a = b ∨ ¬ (1 ≤ c ∧ c ≤ 9)) ∧ z1 = -2)) ∧ (∀ k : Int, M1 4 k = M 4 k)) ∨ ((¬ (¬ (0 ≤ a ∧ a ≤ 5) ∨ ¬ (0 ≤ b ∧ b ≤ 5)) ∧ ¬ (a = b ∨ ¬ (1 ≤ c ∧ c ≤ 9))) ∧ (∀ x y : Int, 0 ≤ x → x < 6 → 0 ≤ y → y < 6 → M1 4 (x * 6 + y) = gN (M 4) a b c x y) ∧ gCh (M 4) a b c 36 z1)) (e1 : ∀ k : Int, M1 191 k = M 191 k) (x2 : ((((¬ (0 ≤ a ∧ a ≤ 5) ∨ ¬ (0 ≤ b ∧ b ≤ 5)) ∧ z2 = -1) ∨ (¬ (¬ (0 ≤ a ∧ a ≤ 5) ∨ ¬ (0 ≤ b ∧ b ≤ 5)) ∧ (a = b ∨ ¬ (1 ≤ c ∧ c ≤ 9)) ∧ z2 = -2)) ∧ (∀ k : Int, M2 191 k = M1 191 k)) ∨ ((¬ (¬ (0 ≤ a ∧ a ≤ 5) ∨ ¬ (0 ≤ b ∧ b ≤ 5)) ∧ ¬ (a = b ∨ ¬ (1 ≤ c ∧ c ≤ 9))) ∧ (∀ x y : Int, 0 ≤ x → x < 6 → 0 ≤ y → y < 6 → M2 191 (x * 6 + y + 24) = gN (gWRf M1) a b c x y) ∧ gCh (gWRf M1) a b c 36 z2)) (e2 : ∀ k : Int, M2 4 k = M1 4 k) : z1 = z2 ∧ rl_way 4 191 M2 ∧ rl_metric 4 191 M2 := by
  have eW : ∀ k : Int, 0 ≤ k → k < 36 → gWRf M1 k = M 4 k := fun k h0 h1 => (e1 (k + 24)).trans (RW k h0 h1).symm
  rcases x1 with ⟨h1, t1⟩ | ⟨h1, n1, g1⟩
  · rcases x2 with ⟨h2, t2⟩ | ⟨h2, n2, g2⟩
    · refine ⟨by omega, fun k h0 h => ?_, gMet.of RT (fun k _ _ => (e2 k).trans (t1 k))⟩
      rw [e2, t1, t2, e1]; exact RW k h0 h
    · exfalso; omega
  · rcases x2 with ⟨h2, t2⟩ | ⟨h2, n2, g2⟩
    · exfalso; omega
    · refine ⟨gCh.eq eW (by omega) (by omega) (by omega) (by omega) g1 g2, fun k h0 h => ?_, gMet.of (gMet_N RT (by omega) (by omega) (by omega) (by omega) (by omega) n1) (fun k _ _ => e2 k)⟩
      have q1 := n1 (k / 6) (k % 6) (by omega) (by omega) (by omega) (by omega)
      have q2 := n2 (k / 6) (k % 6) (by omega) (by omega) (by omega) (by omega)
      rw [gN_congr eW (by omega) (by omega) (by omega) (by omega) (by omega) (by omega) (by omega) (by omega), ← q1] at q2
      rw [show k / 6 * 6 + k % 6 = k by omega] at q2
      rw [e2]; exact q2.symm
