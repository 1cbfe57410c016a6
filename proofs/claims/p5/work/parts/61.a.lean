def rl_now (o0 A : Int) (M : gM) : Prop := M o0 15 = M A 0
theorem rl_now.mv {o0 q0 A B : Int} {M M1 : gM} (h : rl_now o0 A M) (c0 : M1 q0 15 = M o0 15) (r0 : M1 B 0 = M A 0) : rl_now q0 B M1 := (c0.trans ((show M o0 15 = M A 0 from h).trans r0.symm))
theorem rl_now.fr {T : Nat} {M M1 : gM} (h : rl_now 1 191 M) (hN : M 1 10 ≤ 16 ∧ M 1 11 ≤ 40) (F : gFr T M M1) (hT : T &&& 34376515584 = 0) : rl_now 1 191 M1 := by
  have hb : ∀ g : Nat, (34376515584 : Nat).testBit g = true → T.testBit g = false := by
    intro g hg
    have h1 : (T &&& 34376515584).testBit g = (T.testBit g && (34376515584 : Nat).testBit g) := Nat.testBit_and T _ g
    rw [hT, hg, Bool.and_true, Nat.zero_testBit] at h1
    exact h1.symm
  exact rl_now.mv h (gFr.at F rc_1_15.2.2 (hb _ rfl)) (gFr.at F (rs_NOW (k := 0) (by omega)).2.2 (hb _ rfl))
theorem rl_now.im {M M1 : gM} (h : rl_now 206 193 M) (eI : ∀ o b : Int, 206 ≤ o → M1 o b = M o b) (e3 : ∀ b : Int, M1 193 b = M 193 b) : rl_now 206 193 M1 := rl_now.mv h (eI 206 15 (by decide)) (e3 0)
def rl_npers (o0 A : Int) (M : gM) : Prop := M o0 10 = M A 1
theorem rl_npers.mv {o0 q0 A B : Int} {M M1 : gM} (h : rl_npers o0 A M) (c0 : M1 q0 10 = M o0 10) (r0 : M1 B 1 = M A 1) : rl_npers q0 B M1 := (c0.trans ((show M o0 10 = M A 1 from h).trans r0.symm))
theorem rl_npers.fr {T : Nat} {M M1 : gM} (h : rl_npers 1 191 M) (hN : M 1 10 ≤ 16 ∧ M 1 11 ≤ 40) (F : gFr T M M1) (hT : T &&& 68720525312 = 0) : rl_npers 1 191 M1 := by
  have hb : ∀ g : Nat, (68720525312 : Nat).testBit g = true → T.testBit g = false := by
    intro g hg
    have h1 : (T &&& 68720525312).testBit g = (T.testBit g && (68720525312 : Nat).testBit g) := Nat.testBit_and T _ g
    rw [hT, hg, Bool.and_true, Nat.zero_testBit] at h1
    exact h1.symm
  exact rl_npers.mv h (gFr.at F rc_1_10.2.2 (hb _ rfl)) (gFr.at F (rs_PERS (k := 1) (by omega)).2.2 (hb _ rfl))
theorem rl_npers.im {M M1 : gM} (h : rl_npers 206 193 M) (eI : ∀ o b : Int, 206 ≤ o → M1 o b = M o b) (e3 : ∀ b : Int, M1 193 b = M 193 b) : rl_npers 206 193 M1 := rl_npers.mv h (eI 206 10 (by decide)) (e3 1)
def rl_sex (o0 o1 A : Int) (M : gM) : Prop := M o0 10 ≤ 16 ∧ ∀ p : Int, 0 ≤ p → p < M o0 10 → M (o1 + p) 0 = M A (p + 80)
theorem rl_sex.mv {o0 o1 q0 q1 A B : Int} {M M1 : gM} (h : rl_sex o0 o1 A M) (c0 : M1 q0 10 = M o0 10) (c1 : ∀ p : Int, 0 ≤ p → p < M o0 10 → M1 (q1 + p) 0 = M (o1 + p) 0) (r0 : ∀ b : Int, 0 ≤ b → b < 16 → M1 B (b + 80) = M A (b + 80)) : rl_sex q0 q1 B M1 := ⟨by rw [c0]; exact h.1, fun p h0 h1 => by rw [c0] at h1; have := h.1; rw [c1 p h0 h1, r0 p h0 (by omega)]; exact h.2 p h0 h1⟩
theorem rl_sex.fr {T : Nat} {M M1 : gM} (h : rl_sex 1 31 191 M) (hN : M 1 10 ≤ 16 ∧ M 1 11 ≤ 40) (F : gFr T M M1) (hT : T &&& 562949954469896 = 0) : rl_sex 1 31 191 M1 := by
  have hb : ∀ g : Nat, (562949954469896 : Nat).testBit g = true → T.testBit g = false := by
    intro g hg
    have h1 : (T &&& 562949954469896).testBit g = (T.testBit g && (562949954469896 : Nat).testBit g) := Nat.testBit_and T _ g
    rw [hT, hg, Bool.and_true, Nat.zero_testBit] at h1
    exact h1.symm
  exact rl_sex.mv h (gFr.at F rc_1_10.2.2 (hb _ rfl)) (fun p h0 h1 => gFr.at F (rP_0 (o := 31 + p) (by omega)).2.2 (hb _ rfl)) (fun b h0 h1 => gFr.at F (rs_SEX (k := b + 80) (by omega)).2.2 (hb _ rfl))
theorem rl_sex.im {M M1 : gM} (h : rl_sex 206 236 193 M) (eI : ∀ o b : Int, 206 ≤ o → M1 o b = M o b) (e3 : ∀ b : Int, M1 193 b = M 193 b) : rl_sex 206 236 193 M1 := rl_sex.mv h (eI 206 10 (by decide)) (fun p h0 _ => eI (236 + p) 0 (by omega)) (fun b _ _ => e3 (b + 80))
def rl_born (o0 o1 A : Int) (M : gM) : Prop := M o0 10 ≤ 16 ∧ ∀ p : Int, 0 ≤ p → p < M o0 10 → M (o1 + p) 1 = M A (p + 96)
theorem rl_born.mv {o0 o1 q0 q1 A B : Int} {M M1 : gM} (h : rl_born o0 o1 A M) (c0 : M1 q0 10 = M o0 10) (c1 : ∀ p : Int, 0 ≤ p → p < M o0 10 → M1 (q1 + p) 1 = M (o1 + p) 1) (r0 : ∀ b : Int, 0 ≤ b → b < 16 → M1 B (b + 96) = M A (b + 96)) : rl_born q0 q1 B M1 := ⟨by rw [c0]; exact h.1, fun p h0 h1 => by rw [c0] at h1; have := h.1; rw [c1 p h0 h1, r0 p h0 (by omega)]; exact h.2 p h0 h1⟩
theorem rl_born.fr {T : Nat} {M M1 : gM} (h : rl_born 1 31 191 M) (hN : M 1 10 ≤ 16 ∧ M 1 11 ≤ 40) (F : gFr T M M1) (hT : T &&& 562949954469896 = 0) : rl_born 1 31 191 M1 := by
  have hb : ∀ g : Nat, (562949954469896 : Nat).testBit g = true → T.testBit g = false := by
    intro g hg
    have h1 : (T &&& 562949954469896).testBit g = (T.testBit g && (562949954469896 : Nat).testBit g) := Nat.testBit_and T _ g
    rw [hT, hg, Bool.and_true, Nat.zero_testBit] at h1
    exact h1.symm
  exact rl_born.mv h (gFr.at F rc_1_10.2.2 (hb _ rfl)) (fun p h0 h1 => gFr.at F (rP_1 (o := 31 + p) (by omega)).2.2 (hb _ rfl)) (fun b h0 h1 => gFr.at F (rs_BORN (k := b + 96) (by omega)).2.2 (hb _ rfl))
theorem rl_born.im {M M1 : gM} (h : rl_born 206 236 193 M) (eI : ∀ o b : Int, 206 ≤ o → M1 o b = M o b) (e3 : ∀ b : Int, M1 193 b = M 193 b) : rl_born 206 236 193 M1 := rl_born.mv h (eI 206 10 (by decide)) (fun p h0 _ => eI (236 + p) 1 (by omega)) (fun b _ _ => e3 (b + 96))
def lwRel (M : gM) : Prop := rl_now 1 191 M ∧ rl_npers 1 191 M ∧ rl_sex 1 31 191 M ∧ rl_born 1 31 191 M
def lwRelI (M : gM) : Prop := rl_now 206 193 M ∧ rl_npers 206 193 M ∧ rl_sex 206 236 193 M ∧ rl_born 206 236 193 M
def lwK (sz cs ss : Nat) (M : gM) : Prop := (sz = 206 ∧ cs = 206 ∧ ss = 87467 ∧ M 0 9 = 0 ∧ M 190 4 = 0 ∧ gZ 206 M) ∨ (sz = 358 ∧ cs = 358 ∧ ss = 97974 ∧ M 0 9 = 207 ∧ M 190 4 = 1 ∧ M 206 13 ≤ 10 ∧ M 193 4 ≤ 10 ∧ gW 193 M ∧ lwRelI M)
def lwI (sz cs ss : Nat) (M : gM) : Prop := 206 ≤ sz ∧ gI sz M ∧ gC sz M ∧ gW 191 M ∧ M 1 13 ≤ 10 ∧ M 191 4 ≤ 10 ∧ lwK sz cs ss M ∧ lwRel M
theorem gG_im2 {o : Int} (h : 206 ≤ o) (b : Int) : (154714189158519407380529152 : Nat).testBit (gG o b) = true := by
  unfold gG
  rw [if_neg (by omega), if_neg (by omega), if_neg (by omega), if_neg (by omega), if_neg (by omega)]
  unfold gGi
  repeat' split
  all_goals rfl
theorem lwRelI.eq {M M1 : gM} (k : lwRelI M) (eI : ∀ o b : Int, 206 ≤ o → M1 o b = M o b) (e3 : ∀ b : Int, M1 193 b = M 193 b) : lwRelI M1 := ⟨rl_now.im k.1 eI e3, rl_npers.im k.2.1 eI e3, rl_sex.im k.2.2.1 eI e3, rl_born.im k.2.2.2 eI e3⟩
theorem lwK.bit {T : Nat} (h : T &&& 154714189158519407380529152 = 0) (g : Nat) (hg : (154714189158519407380529152 : Nat).testBit g = true) : T.testBit g = false := by
  have h1 : (T &&& 154714189158519407380529152).testBit g = (T.testBit g && (154714189158519407380529152 : Nat).testBit g) := Nat.testBit_and T _ g
  rw [h, hg, Bool.and_true, Nat.zero_testBit] at h1
  exact h1.symm
theorem lwK.fr {T sz cs ss : Nat} {M M1 : gM} (K : lwK sz cs ss M) (F : gFr T M M1) (h : T &&& 154714189158519407380529152 = 0) : lwK sz cs ss M1 := by
  have e0 : M1 0 9 = M 0 9 := gFr.at F rc_0_9.2.2 (lwK.bit h _ rfl)
  have e4 : M1 190 4 = M 190 4 := gFr.at F rc_190_4.2.2 (lwK.bit h _ rfl)
  have eI : ∀ o b : Int, 206 ≤ o → M1 o b = M o b := fun o b q => F o b (lwK.bit h _ (gG_im2 q b))
  have e3 : ∀ b : Int, M1 193 b = M 193 b := fun b => gFr.at F (show gG 193 b = 64 from rfl) (lwK.bit h _ rfl)
  unfold lwK at *
  rcases K with ⟨k1, k2, k3, k4, k5, k6⟩ | ⟨k1, k2, k3, k4, k5, k6, k7, k8, k9⟩
  · exact Or.inl ⟨k1, k2, k3, e0.trans k4, e4.trans k5, fun o k q => by rw [eI o k q]; exact k6 o k q⟩
  · refine Or.inr ⟨k1, k2, k3, e0.trans k4, e4.trans k5, by rw [eI 206 13 (by decide)]; exact k6, by rw [e3]; exact k7, gW.same k8 e3, ?_⟩
    exact lwRelI.eq k9 eI e3
theorem lwK.room {sz cs ss : Nat} {M : gM} (K : lwK sz cs ss M) : cs ≤ 358 ∧ ss ≤ 97974 := by
  unfold lwK at K
  rcases K with ⟨k1, k2, k3, _⟩ | ⟨k1, k2, k3, _⟩ <;> omega
theorem gN_of {sz : Nat} {M : gM} (hsz : 206 ≤ sz) (I : gI sz M) : M 1 10 ≤ 16 ∧ M 1 11 ≤ 40 := by
  have h1 := I 1 10 (by decide) (gsz hsz (by decide))
  have h2 := I 1 11 (by decide) (gsz hsz (by decide))
  rw [rc_1_10.1] at h1
  rw [rc_1_11.1] at h2
  exact ⟨h1.2, h2.2⟩
theorem rel_person {M M1 M2 : gM} {a b c d f z1 z2 : Int} (hn : M 1 10 = M 191 1) (hw : M 1 15 = M 191 0) (R0 : rl_sex 1 31 191 M) (R1 : rl_born 1 31 191 M) (x1 : ((((¬ (0 ≤ c ∧ c ≤ 5) ∨ (¬ d = -1 ∧ ¬ (0 ≤ d ∧ d < M 1 10))) ∧ z1 = -1) ∨ (¬ (¬ (0 ≤ c ∧ c ≤ 5) ∨ (¬ d = -1 ∧ ¬ (0 ≤ d ∧ d < M 1 10))) ∧ (¬ (0 ≤ a ∧ a ≤ 1) ∨ ¬ (-3000 ≤ b ∧ b ≤ M 1 15) ∨ ¬ (0 ≤ f ∧ f ≤ 9) ∨ (¬ d = -1 ∧ (¬ M (31 + d) 0 = 0 ∨ b ≤ M (31 + d) 1))) ∧ z1 = -2) ∨ (¬ (¬ (0 ≤ c ∧ c ≤ 5) ∨ (¬ d = -1 ∧ ¬ (0 ≤ d ∧ d < M 1 10))) ∧ ¬ (¬ (0 ≤ a ∧ a ≤ 1) ∨ ¬ (-3000 ≤ b ∧ b ≤ M 1 15) ∨ ¬ (0 ≤ f ∧ f ≤ 9) ∨ (¬ d = -1 ∧ (¬ M (31 + d) 0 = 0 ∨ b ≤ M (31 + d) 1))) ∧ M 1 10 = 16 ∧ z1 = -4)) ∧ M1 1 10 = M 1 10 ∧ (∀ p : Int, 0 ≤ p → p < 16 → M1 (31 + p) 0 = M (31 + p) 0) ∧ (∀ p : Int, 0 ≤ p → p < 16 → M1 (31 + p) 1 = M (31 + p) 1) ∧ (∀ p : Int, 0 ≤ p → p < 16 → M1 (31 + p) 11 = M (31 + p) 11)) ∨ ((¬ (¬ (0 ≤ c ∧ c ≤ 5) ∨ (¬ d = -1 ∧ ¬ (0 ≤ d ∧ d < M 1 10))) ∧ ¬ (¬ (0 ≤ a ∧ a ≤ 1) ∨ ¬ (-3000 ≤ b ∧ b ≤ M 1 15) ∨ ¬ (0 ≤ f ∧ f ≤ 9) ∨ (¬ d = -1 ∧ (¬ M (31 + d) 0 = 0 ∨ b ≤ M (31 + d) 1))) ∧ M 1 10 < 16 ∧ z1 = M 1 10) ∧ M1 1 10 = M 1 10 + 1 ∧ (∀ p : Int, 0 ≤ p → p < 16 → ¬ p = M 1 10 → M1 (31 + p) 0 = M (31 + p) 0) ∧ (∀ p : Int, 0 ≤ p → p < 16 → ¬ p = M 1 10 → M1 (31 + p) 1 = M (31 + p) 1) ∧ (∀ p : Int, 0 ≤ p → p < 16 → ¬ p = M 1 10 → M1 (31 + p) 11 = M (31 + p) 11) ∧ M1 (31 + M 1 10) 0 = a ∧ M1 (31 + M 1 10) 1 = b ∧ M1 (31 + M 1 10) 11 = 0)) (e1 : ∀ k : Int, M1 191 k = M 191 k) (x2 : ((((¬ (0 ≤ c ∧ c ≤ 5) ∨ (¬ d = -1 ∧ ¬ (0 ≤ d ∧ d < M1 191 1))) ∧ z2 = -1) ∨ (¬ (¬ (0 ≤ c ∧ c ≤ 5) ∨ (¬ d = -1 ∧ ¬ (0 ≤ d ∧ d < M1 191 1))) ∧ (¬ (0 ≤ a ∧ a ≤ 1) ∨ ¬ (-3000 ≤ b ∧ b ≤ M1 191 0) ∨ ¬ (0 ≤ f ∧ f ≤ 9) ∨ (¬ d = -1 ∧ (¬ M1 191 (d + 80) = 0 ∨ b ≤ M1 191 (d + 96)))) ∧ z2 = -2) ∨ (¬ (¬ (0 ≤ c ∧ c ≤ 5) ∨ (¬ d = -1 ∧ ¬ (0 ≤ d ∧ d < M1 191 1))) ∧ ¬ (¬ (0 ≤ a ∧ a ≤ 1) ∨ ¬ (-3000 ≤ b ∧ b ≤ M1 191 0) ∨ ¬ (0 ≤ f ∧ f ≤ 9) ∨ (¬ d = -1 ∧ (¬ M1 191 (d + 80) = 0 ∨ b ≤ M1 191 (d + 96)))) ∧ M1 191 1 = 16 ∧ z2 = -4)) ∧ M2 191 1 = M1 191 1 ∧ (∀ p : Int, 0 ≤ p → p < 16 → M2 191 (p + 80) = M1 191 (p + 80)) ∧ (∀ p : Int, 0 ≤ p → p < 16 → M2 191 (p + 96) = M1 191 (p + 96)) ∧ (∀ p : Int, 0 ≤ p → p < 16 → M2 191 (p + 2770) = M1 191 (p + 2770))) ∨ ((¬ (¬ (0 ≤ c ∧ c ≤ 5) ∨ (¬ d = -1 ∧ ¬ (0 ≤ d ∧ d < M1 191 1))) ∧ ¬ (¬ (0 ≤ a ∧ a ≤ 1) ∨ ¬ (-3000 ≤ b ∧ b ≤ M1 191 0) ∨ ¬ (0 ≤ f ∧ f ≤ 9) ∨ (¬ d = -1 ∧ (¬ M1 191 (d + 80) = 0 ∨ b ≤ M1 191 (d + 96)))) ∧ M1 191 1 < 16 ∧ z2 = M1 191 1) ∧ M2 191 1 = M1 191 1 + 1 ∧ (∀ p : Int, 0 ≤ p → p < 16 → ¬ p = M1 191 1 → M2 191 (p + 80) = M1 191 (p + 80)) ∧ (∀ p : Int, 0 ≤ p → p < 16 → ¬ p = M1 191 1 → M2 191 (p + 96) = M1 191 (p + 96)) ∧ (∀ p : Int, 0 ≤ p → p < 16 → ¬ p = M1 191 1 → M2 191 (p + 2770) = M1 191 (p + 2770)) ∧ M2 191 (M1 191 1 + 80) = a ∧ M2 191 (M1 191 1 + 96) = b)) (e0 : ∀ p : Int, 0 ≤ p → p < 16 → M2 (31 + p) 0 = M1 (31 + p) 0) (eb : ∀ p : Int, 0 ≤ p → p < 16 → M2 (31 + p) 1 = M1 (31 + p) 1) (n2 : M2 1 10 = M1 1 10) : z1 = z2 ∧ M2 1 10 = M2 191 1 ∧ rl_sex 1 31 191 M2 ∧ rl_born 1 31 191 M2 := by
  obtain ⟨Ra, Rs⟩ := R0
  obtain ⟨Rb, Rt⟩ := R1
  have f0 := e1 0
  have f1 := e1 1
  have fs := e1 (d + 80)
  have fb := e1 (d + 96)
  have gs : (0 ≤ d ∧ d < M 1 10) → M (31 + d) 0 = M 191 (d + 80) := fun h => Rs d h.1 h.2
  have gb : (0 ≤ d ∧ d < M 1 10) → M (31 + d) 1 = M 191 (d + 96) := fun h => Rt d h.1 h.2
  rcases x1 with ⟨h1, m1, k0, k1, _⟩ | ⟨h1, m1, k0, k1, _, v0, v1, _⟩
  · rcases x2 with ⟨h2, m2, q0, q1, _⟩ | ⟨h2, m2, _⟩
    · refine ⟨by omega, by omega, ⟨by omega, fun p h0 h => ?_⟩, ⟨by omega, fun p h0 h => ?_⟩⟩
      · rw [e0 p h0 (by omega), k0 p h0 (by omega), q0 p h0 (by omega), e1]; exact Rs p h0 (by omega)
      · rw [eb p h0 (by omega), k1 p h0 (by omega), q1 p h0 (by omega), e1]; exact Rt p h0 (by omega)
    · exfalso; omega
  · rcases x2 with ⟨h2, m2, q0, q1, _⟩ | ⟨h2, m2, q0, q1, _, w0, w1⟩
    · exfalso; omega
    · have hn1 : M1 191 1 = M 1 10 := by omega
      refine ⟨by omega, by omega, ⟨by omega, fun p h0 h => ?_⟩, ⟨by omega, fun p h0 h => ?_⟩⟩
      · by_cases g : p = M 1 10
        · rw [e0 p h0 (by omega), g, v0, ← hn1, w0]
        · rw [e0 p h0 (by omega), k0 p h0 (by omega) g, q0 p h0 (by omega) (by omega), e1]; exact Rs p h0 (by omega)
      · by_cases g : p = M 1 10
        · rw [eb p h0 (by omega), g, v1, ← hn1, w1]
        · rw [eb p h0 (by omega), k1 p h0 (by omega) g, q1 p h0 (by omega) (by omega), e1]; exact Rt p h0 (by omega)
