def rl_now (o0 A : Int) (M : gM) : Prop := M o0 15 = M A 0
theorem rl_now.mv {o0 q0 A B : Int} {M M1 : gM} (h : rl_now o0 A M) (c0 : M1 q0 15 = M o0 15) (r0 : M1 B 0 = M A 0) : rl_now q0 B M1 := (c0.trans ((show M o0 15 = M A 0 from h).trans r0.symm))
theorem rl_now.fr {T : Nat} {M M1 : gM} (h : rl_now 1 191 M) (hN : M 1 10 ≤ 16 ∧ M 1 11 ≤ 40) (F : gFr T M M1) (hT : T &&& 34376515584 = 0) : rl_now 1 191 M1 := by
  have hb : ∀ g : Nat, (34376515584 : Nat).testBit g = true → T.testBit g = false := by
    intro g hg
    have h1 : (T &&& 34376515584).testBit g = (T.testBit g && (34376515584 : Nat).testBit g) := Nat.testBit_and T _ g
    rw [hT, hg, Bool.and_true, Nat.zero_testBit] at h1
    exact h1.symm
  exact rl_now.mv h (gFr.at F rc_1_15.2.2 (hb _ rfl)) (gFr.at F (rs_NOW (k := 0) (by omega)).2.2 (hb _ rfl))
theorem rl_now.im {M M1 : gM} (h : rl_now 206 193 M) (eI : ∀ o b : Int, 206 ≤ o → M1 o b = M o b) (e3 : ∀ b : Int, M1 193 b = M 193 b) : rl_now 206 193 M1 := rl_now.mv h (eI 206 15 (by decide)) (e3 0)
def rl_npers (o0 A : Int) (M : gM) : Prop := M o0 10 = M A 1
theorem rl_npers.mv {o0 q0 A B : Int} {M M1 : gM} (h : rl_npers o0 A M) (c0 : M1 q0 10 = M o0 10) (r0 : M1 B 1 = M A 1) : rl_npers q0 B M1 := (c0.trans ((show M o0 10 = M A 1 from h).trans r0.symm))
theorem rl_npers.fr {T : Nat} {M M1 : gM} (h : rl_npers 1 191 M) (hN : M 1 10 ≤ 16 ∧ M 1 11 ≤ 40) (F : gFr T M M1) (hT : T &&& 68720525312 = 0) : rl_npers 1 191 M1 := by
  have hb : ∀ g : Nat, (68720525312 : Nat).testBit g = true → T.testBit g = false := by
    intro g hg
    have h1 : (T &&& 68720525312).testBit g = (T.testBit g && (68720525312 : Nat).testBit g) := Nat.testBit_and T _ g
    rw [hT, hg, Bool.and_true, Nat.zero_testBit] at h1
    exact h1.symm
  exact rl_npers.mv h (gFr.at F rc_1_10.2.2 (hb _ rfl)) (gFr.at F (rs_PERS (k := 1) (by omega)).2.2 (hb _ rfl))
theorem rl_npers.im {M M1 : gM} (h : rl_npers 206 193 M) (eI : ∀ o b : Int, 206 ≤ o → M1 o b = M o b) (e3 : ∀ b : Int, M1 193 b = M 193 b) : rl_npers 206 193 M1 := rl_npers.mv h (eI 206 10 (by decide)) (e3 1)
def rl_sex (o0 o1 A : Int) (M : gM) : Prop := M o0 10 ≤ 16 ∧ ∀ p : Int, 0 ≤ p → p < M o0 10 → M (o1 + p) 0 = M A (p + 80)
theorem rl_sex.mv {o0 o1 q0 q1 A B : Int} {M M1 : gM} (h : rl_sex o0 o1 A M) (c0 : M1 q0 10 = M o0 10) (c1 : ∀ p : Int, 0 ≤ p → p < M o0 10 → M1 (q1 + p) 0 = M (o1 + p) 0) (r0 : ∀ b : Int, 0 ≤ b → b < 16 → M1 B (b + 80) = M A (b + 80)) : rl_sex q0 q1 B M1 := ⟨by rw [c0]; exact h.1, fun p h0 h1 => by rw [c0] at h1; have := h.1; rw [c1 p h0 h1, r0 p h0 (by omega)]; exact h.2 p h0 h1⟩
theorem rl_sex.fr {T : Nat} {M M1 : gM} (h : rl_sex 1 31 191 M) (hN : M 1 10 ≤ 16 ∧ M 1 11 ≤ 40) (F : gFr T M M1) (hT : T &&& 562949954469896 = 0) : rl_sex 1 31 191 M1 := by
  have hb : ∀ g : Nat, (562949954469896 : Nat).testBit g = true → T.testBit g = false := by
    intro g hg
    have h1 : (T &&& 562949954469896).testBit g = (T.testBit g && (562949954469896 : Nat).testBit g) := Nat.testBit_and T _ g
    rw [hT, hg, Bool.and_true, Nat.zero_testBit] at h1
    exact h1.symm
  exact rl_sex.mv h (gFr.at F rc_1_10.2.2 (hb _ rfl)) (fun p h0 h1 => gFr.at F (rP_0 (o := 31 + p) (by omega)).2.2 (hb _ rfl)) (fun b h0 h1 => gFr.at F (rs_SEX (k := b + 80) (by omega)).2.2 (hb _ rfl))
theorem rl_sex.im {M M1 : gM} (h : rl_sex 206 236 193 M) (eI : ∀ o b : Int, 206 ≤ o → M1 o b = M o b) (e3 : ∀ b : Int, M1 193 b = M 193 b) : rl_sex 206 236 193 M1 := rl_sex.mv h (eI 206 10 (by decide)) (fun p h0 _ => eI (236 + p) 0 (by omega)) (fun b _ _ => e3 (b + 80))
def rl_born (o0 o1 A : Int) (M : gM) : Prop := M o0 10 ≤ 16 ∧ ∀ p : Int, 0 ≤ p → p < M o0 10 → M (o1 + p) 1 = M A (p + 96)
theorem rl_born.mv {o0 o1 q0 q1 A B : Int} {M M1 : gM} (h : rl_born o0 o1 A M) (c0 : M1 q0 10 = M o0 10) (c1 : ∀ p : Int, 0 ≤ p → p < M o0 10 → M1 (q1 + p) 1 = M (o1 + p) 1) (r0 : ∀ b : Int, 0 ≤ b → b < 16 → M1 B (b + 96) = M A (b + 96)) : rl_born q0 q1 B M1 := ⟨by rw [c0]; exact h.1, fun p h0 h1 => by rw [c0] at h1; have := h.1; rw [c1 p h0 h1, r0 p h0 (by omega)]; exact h.2 p h0 h1⟩
theorem rl_born.fr {T : Nat} {M M1 : gM} (h : rl_born 1 31 191 M) (hN : M 1 10 ≤ 16 ∧ M 1 11 ≤ 40) (F : gFr T M M1) (hT : T &&& 562949954469896 = 0) : rl_born 1 31 191 M1 := by
  have hb : ∀ g : Nat, (562949954469896 : Nat).testBit g = true → T.testBit g = false := by
    intro g hg
    have h1 : (T &&& 562949954469896).testBit g = (T.testBit g && (562949954469896 : Nat).testBit g) := Nat.testBit_and T _ g
    rw [hT, hg, Bool.and_true, Nat.zero_testBit] at h1
    exact h1.symm
  exact rl_born.mv h (gFr.at F rc_1_10.2.2 (hb _ rfl)) (fun p h0 h1 => gFr.at F (rP_1 (o := 31 + p) (by omega)).2.2 (hb _ rfl)) (fun b h0 h1 => gFr.at F (rs_BORN (k := b + 96) (by omega)).2.2 (hb _ rfl))
theorem rl_born.im {M M1 : gM} (h : rl_born 206 236 193 M) (eI : ∀ o b : Int, 206 ≤ o → M1 o b = M o b) (e3 : ∀ b : Int, M1 193 b = M 193 b) : rl_born 206 236 193 M1 := rl_born.mv h (eI 206 10 (by decide)) (fun p h0 _ => eI (236 + p) 1 (by omega)) (fun b _ _ => e3 (b + 96))
def rl_nright (o0 A : Int) (M : gM) : Prop := M o0 11 = M A 2
theorem rl_nright.mv {o0 q0 A B : Int} {M M1 : gM} (h : rl_nright o0 A M) (c0 : M1 q0 11 = M o0 11) (r0 : M1 B 2 = M A 2) : rl_nright q0 B M1 := (c0.trans ((show M o0 11 = M A 2 from h).trans r0.symm))
theorem rl_nright.fr {T : Nat} {M M1 : gM} (h : rl_nright 1 191 M) (hN : M 1 10 ≤ 16 ∧ M 1 11 ≤ 40) (F : gFr T M M1) (hT : T &&& 137441050624 = 0) : rl_nright 1 191 M1 := by
  have hb : ∀ g : Nat, (137441050624 : Nat).testBit g = true → T.testBit g = false := by
    intro g hg
    have h1 : (T &&& 137441050624).testBit g = (T.testBit g && (137441050624 : Nat).testBit g) := Nat.testBit_and T _ g
    rw [hT, hg, Bool.and_true, Nat.zero_testBit] at h1
    exact h1.symm
  exact rl_nright.mv h (gFr.at F rc_1_11.2.2 (hb _ rfl)) (gFr.at F (rs_NR (k := 2) (by omega)).2.2 (hb _ rfl))
theorem rl_nright.im {M M1 : gM} (h : rl_nright 206 193 M) (eI : ∀ o b : Int, 206 ≤ o → M1 o b = M o b) (e3 : ∀ b : Int, M1 193 b = M 193 b) : rl_nright 206 193 M1 := rl_nright.mv h (eI 206 11 (by decide)) (e3 2)
def rl_nent (o0 A : Int) (M : gM) : Prop := M o0 12 = M A 3
theorem rl_nent.mv {o0 q0 A B : Int} {M M1 : gM} (h : rl_nent o0 A M) (c0 : M1 q0 12 = M o0 12) (r0 : M1 B 3 = M A 3) : rl_nent q0 B M1 := (c0.trans ((show M o0 12 = M A 3 from h).trans r0.symm))
theorem rl_nent.fr {T : Nat} {M M1 : gM} (h : rl_nent 1 191 M) (hN : M 1 10 ≤ 16 ∧ M 1 11 ≤ 40) (F : gFr T M M1) (hT : T &&& 1547425049106725343623905280 = 0) : rl_nent 1 191 M1 := by
  have hb : ∀ g : Nat, (1547425049106725343623905280 : Nat).testBit g = true → T.testBit g = false := by
    intro g hg
    have h1 : (T &&& 1547425049106725343623905280).testBit g = (T.testBit g && (1547425049106725343623905280 : Nat).testBit g) := Nat.testBit_and T _ g
    rw [hT, hg, Bool.and_true, Nat.zero_testBit] at h1
    exact h1.symm
  exact rl_nent.mv h (gFr.at F rc_1_12.2.2 (hb _ rfl)) (gFr.at F (rs_NE (k := 3) (by omega)).2.2 (hb _ rfl))
theorem rl_nent.im {M M1 : gM} (h : rl_nent 206 193 M) (eI : ∀ o b : Int, 206 ≤ o → M1 o b = M o b) (e3 : ∀ b : Int, M1 193 b = M 193 b) : rl_nent 206 193 M1 := rl_nent.mv h (eI 206 12 (by decide)) (e3 3)
def rl_rkind (o0 o1 A : Int) (M : gM) : Prop := M o0 11 ≤ 40 ∧ ∀ p : Int, 0 ≤ p → p < M o0 11 → M (o1 + p) 0 = M A (p + 256)
theorem rl_rkind.mv {o0 o1 q0 q1 A B : Int} {M M1 : gM} (h : rl_rkind o0 o1 A M) (c0 : M1 q0 11 = M o0 11) (c1 : ∀ p : Int, 0 ≤ p → p < M o0 11 → M1 (q1 + p) 0 = M (o1 + p) 0) (r0 : ∀ b : Int, 0 ≤ b → b < 40 → M1 B (b + 256) = M A (b + 256)) : rl_rkind q0 q1 B M1 := ⟨by rw [c0]; exact h.1, fun p h0 h1 => by rw [c0] at h1; have := h.1; rw [c1 p h0 h1, r0 p h0 (by omega)]; exact h.2 p h0 h1⟩
theorem rl_rkind.fr {T : Nat} {M M1 : gM} (h : rl_rkind 1 47 191 M) (hN : M 1 10 ≤ 16 ∧ M 1 11 ≤ 40) (F : gFr T M M1) (hT : T &&& 2251799815782528 = 0) : rl_rkind 1 47 191 M1 := by
  have hb : ∀ g : Nat, (2251799815782528 : Nat).testBit g = true → T.testBit g = false := by
    intro g hg
    have h1 : (T &&& 2251799815782528).testBit g = (T.testBit g && (2251799815782528 : Nat).testBit g) := Nat.testBit_and T _ g
    rw [hT, hg, Bool.and_true, Nat.zero_testBit] at h1
    exact h1.symm
  exact rl_rkind.mv h (gFr.at F rc_1_11.2.2 (hb _ rfl)) (fun p h0 h1 => gFr.at F (rR_0 (o := 47 + p) (by omega)).2.2 (hb _ rfl)) (fun b h0 h1 => gFr.at F (rs_RKIND (k := b + 256) (by omega)).2.2 (hb _ rfl))
theorem rl_rkind.im {M M1 : gM} (h : rl_rkind 206 252 193 M) (eI : ∀ o b : Int, 206 ≤ o → M1 o b = M o b) (e3 : ∀ b : Int, M1 193 b = M 193 b) : rl_rkind 206 252 193 M1 := rl_rkind.mv h (eI 206 11 (by decide)) (fun p h0 _ => eI (252 + p) 0 (by omega)) (fun b _ _ => e3 (b + 256))
def rl_rwho (o0 o1 A : Int) (M : gM) : Prop := M o0 11 ≤ 40 ∧ ∀ p : Int, 0 ≤ p → p < M o0 11 → M (o1 + p) 1 = M A (p + 296)
theorem rl_rwho.mv {o0 o1 q0 q1 A B : Int} {M M1 : gM} (h : rl_rwho o0 o1 A M) (c0 : M1 q0 11 = M o0 11) (c1 : ∀ p : Int, 0 ≤ p → p < M o0 11 → M1 (q1 + p) 1 = M (o1 + p) 1) (r0 : ∀ b : Int, 0 ≤ b → b < 40 → M1 B (b + 296) = M A (b + 296)) : rl_rwho q0 q1 B M1 := ⟨by rw [c0]; exact h.1, fun p h0 h1 => by rw [c0] at h1; have := h.1; rw [c1 p h0 h1, r0 p h0 (by omega)]; exact h.2 p h0 h1⟩
theorem rl_rwho.fr {T : Nat} {M M1 : gM} (h : rl_rwho 1 47 191 M) (hN : M 1 10 ≤ 16 ∧ M 1 11 ≤ 40) (F : gFr T M M1) (hT : T &&& 2251799815782528 = 0) : rl_rwho 1 47 191 M1 := by
  have hb : ∀ g : Nat, (2251799815782528 : Nat).testBit g = true → T.testBit g = false := by
    intro g hg
    have h1 : (T &&& 2251799815782528).testBit g = (T.testBit g && (2251799815782528 : Nat).testBit g) := Nat.testBit_and T _ g
    rw [hT, hg, Bool.and_true, Nat.zero_testBit] at h1
    exact h1.symm
  exact rl_rwho.mv h (gFr.at F rc_1_11.2.2 (hb _ rfl)) (fun p h0 h1 => gFr.at F (rR_1 (o := 47 + p) (by omega)).2.2 (hb _ rfl)) (fun b h0 h1 => gFr.at F (rs_RWHO (k := b + 296) (by omega)).2.2 (hb _ rfl))
theorem rl_rwho.im {M M1 : gM} (h : rl_rwho 206 252 193 M) (eI : ∀ o b : Int, 206 ≤ o → M1 o b = M o b) (e3 : ∀ b : Int, M1 193 b = M 193 b) : rl_rwho 206 252 193 M1 := rl_rwho.mv h (eI 206 11 (by decide)) (fun p h0 _ => eI (252 + p) 1 (by omega)) (fun b _ _ => e3 (b + 296))
def rl_rto (o0 o1 A : Int) (M : gM) : Prop := M o0 11 ≤ 40 ∧ ∀ p : Int, 0 ≤ p → p < M o0 11 → M (o1 + p) 2 = M A (p + 336)
theorem rl_rto.mv {o0 o1 q0 q1 A B : Int} {M M1 : gM} (h : rl_rto o0 o1 A M) (c0 : M1 q0 11 = M o0 11) (c1 : ∀ p : Int, 0 ≤ p → p < M o0 11 → M1 (q1 + p) 2 = M (o1 + p) 2) (r0 : ∀ b : Int, 0 ≤ b → b < 40 → M1 B (b + 336) = M A (b + 336)) : rl_rto q0 q1 B M1 := ⟨by rw [c0]; exact h.1, fun p h0 h1 => by rw [c0] at h1; have := h.1; rw [c1 p h0 h1, r0 p h0 (by omega)]; exact h.2 p h0 h1⟩
theorem rl_rto.fr {T : Nat} {M M1 : gM} (h : rl_rto 1 47 191 M) (hN : M 1 10 ≤ 16 ∧ M 1 11 ≤ 40) (F : gFr T M M1) (hT : T &&& 2251799815782528 = 0) : rl_rto 1 47 191 M1 := by
  have hb : ∀ g : Nat, (2251799815782528 : Nat).testBit g = true → T.testBit g = false := by
    intro g hg
    have h1 : (T &&& 2251799815782528).testBit g = (T.testBit g && (2251799815782528 : Nat).testBit g) := Nat.testBit_and T _ g
    rw [hT, hg, Bool.and_true, Nat.zero_testBit] at h1
    exact h1.symm
  exact rl_rto.mv h (gFr.at F rc_1_11.2.2 (hb _ rfl)) (fun p h0 h1 => gFr.at F (rR_2 (o := 47 + p) (by omega)).2.2 (hb _ rfl)) (fun b h0 h1 => gFr.at F (rs_RTO (k := b + 336) (by omega)).2.2 (hb _ rfl))
theorem rl_rto.im {M M1 : gM} (h : rl_rto 206 252 193 M) (eI : ∀ o b : Int, 206 ≤ o → M1 o b = M o b) (e3 : ∀ b : Int, M1 193 b = M 193 b) : rl_rto 206 252 193 M1 := rl_rto.mv h (eI 206 11 (by decide)) (fun p h0 _ => eI (252 + p) 2 (by omega)) (fun b _ _ => e3 (b + 336))
def rl_rn (o0 o1 A : Int) (M : gM) : Prop := M o0 11 ≤ 40 ∧ ∀ p : Int, 0 ≤ p → p < M o0 11 → M (o1 + p) 3 = M A (p + 376)
theorem rl_rn.mv {o0 o1 q0 q1 A B : Int} {M M1 : gM} (h : rl_rn o0 o1 A M) (c0 : M1 q0 11 = M o0 11) (c1 : ∀ p : Int, 0 ≤ p → p < M o0 11 → M1 (q1 + p) 3 = M (o1 + p) 3) (r0 : ∀ b : Int, 0 ≤ b → b < 40 → M1 B (b + 376) = M A (b + 376)) : rl_rn q0 q1 B M1 := ⟨by rw [c0]; exact h.1, fun p h0 h1 => by rw [c0] at h1; have := h.1; rw [c1 p h0 h1, r0 p h0 (by omega)]; exact h.2 p h0 h1⟩
theorem rl_rn.fr {T : Nat} {M M1 : gM} (h : rl_rn 1 47 191 M) (hN : M 1 10 ≤ 16 ∧ M 1 11 ≤ 40) (F : gFr T M M1) (hT : T &&& 2251799815782528 = 0) : rl_rn 1 47 191 M1 := by
  have hb : ∀ g : Nat, (2251799815782528 : Nat).testBit g = true → T.testBit g = false := by
    intro g hg
    have h1 : (T &&& 2251799815782528).testBit g = (T.testBit g && (2251799815782528 : Nat).testBit g) := Nat.testBit_and T _ g
    rw [hT, hg, Bool.and_true, Nat.zero_testBit] at h1
    exact h1.symm
  exact rl_rn.mv h (gFr.at F rc_1_11.2.2 (hb _ rfl)) (fun p h0 h1 => gFr.at F (rR_3 (o := 47 + p) (by omega)).2.2 (hb _ rfl)) (fun b h0 h1 => gFr.at F (rs_RN (k := b + 376) (by omega)).2.2 (hb _ rfl))
theorem rl_rn.im {M M1 : gM} (h : rl_rn 206 252 193 M) (eI : ∀ o b : Int, 206 ≤ o → M1 o b = M o b) (e3 : ∀ b : Int, M1 193 b = M 193 b) : rl_rn 206 252 193 M1 := rl_rn.mv h (eI 206 11 (by decide)) (fun p h0 _ => eI (252 + p) 3 (by omega)) (fun b _ _ => e3 (b + 376))
def rl_rweek (o0 o1 A : Int) (M : gM) : Prop := M o0 11 ≤ 40 ∧ ∀ p : Int, 0 ≤ p → p < M o0 11 → M (o1 + p) 4 = M A (p + 416)
theorem rl_rweek.mv {o0 o1 q0 q1 A B : Int} {M M1 : gM} (h : rl_rweek o0 o1 A M) (c0 : M1 q0 11 = M o0 11) (c1 : ∀ p : Int, 0 ≤ p → p < M o0 11 → M1 (q1 + p) 4 = M (o1 + p) 4) (r0 : ∀ b : Int, 0 ≤ b → b < 40 → M1 B (b + 416) = M A (b + 416)) : rl_rweek q0 q1 B M1 := ⟨by rw [c0]; exact h.1, fun p h0 h1 => by rw [c0] at h1; have := h.1; rw [c1 p h0 h1, r0 p h0 (by omega)]; exact h.2 p h0 h1⟩
theorem rl_rweek.fr {T : Nat} {M M1 : gM} (h : rl_rweek 1 47 191 M) (hN : M 1 10 ≤ 16 ∧ M 1 11 ≤ 40) (F : gFr T M M1) (hT : T &&& 2251799815782528 = 0) : rl_rweek 1 47 191 M1 := by
  have hb : ∀ g : Nat, (2251799815782528 : Nat).testBit g = true → T.testBit g = false := by
    intro g hg
    have h1 : (T &&& 2251799815782528).testBit g = (T.testBit g && (2251799815782528 : Nat).testBit g) := Nat.testBit_and T _ g
    rw [hT, hg, Bool.and_true, Nat.zero_testBit] at h1
    exact h1.symm
  exact rl_rweek.mv h (gFr.at F rc_1_11.2.2 (hb _ rfl)) (fun p h0 h1 => gFr.at F (rR_4 (o := 47 + p) (by omega)).2.2 (hb _ rfl)) (fun b h0 h1 => gFr.at F (rs_RWEEK (k := b + 416) (by omega)).2.2 (hb _ rfl))
theorem rl_rweek.im {M M1 : gM} (h : rl_rweek 206 252 193 M) (eI : ∀ o b : Int, 206 ≤ o → M1 o b = M o b) (e3 : ∀ b : Int, M1 193 b = M 193 b) : rl_rweek 206 252 193 M1 := rl_rweek.mv h (eI 206 11 (by decide)) (fun p h0 _ => eI (252 + p) 4 (by omega)) (fun b _ _ => e3 (b + 416))
def rl_rsure (o0 o1 A : Int) (M : gM) : Prop := M o0 11 ≤ 40 ∧ ∀ p : Int, 0 ≤ p → p < M o0 11 → M (o1 + p) 5 = M A (p + 456)
theorem rl_rsure.mv {o0 o1 q0 q1 A B : Int} {M M1 : gM} (h : rl_rsure o0 o1 A M) (c0 : M1 q0 11 = M o0 11) (c1 : ∀ p : Int, 0 ≤ p → p < M o0 11 → M1 (q1 + p) 5 = M (o1 + p) 5) (r0 : ∀ b : Int, 0 ≤ b → b < 40 → M1 B (b + 456) = M A (b + 456)) : rl_rsure q0 q1 B M1 := ⟨by rw [c0]; exact h.1, fun p h0 h1 => by rw [c0] at h1; have := h.1; rw [c1 p h0 h1, r0 p h0 (by omega)]; exact h.2 p h0 h1⟩
theorem rl_rsure.fr {T : Nat} {M M1 : gM} (h : rl_rsure 1 47 191 M) (hN : M 1 10 ≤ 16 ∧ M 1 11 ≤ 40) (F : gFr T M M1) (hT : T &&& 2251799815782528 = 0) : rl_rsure 1 47 191 M1 := by
  have hb : ∀ g : Nat, (2251799815782528 : Nat).testBit g = true → T.testBit g = false := by
    intro g hg
    have h1 : (T &&& 2251799815782528).testBit g = (T.testBit g && (2251799815782528 : Nat).testBit g) := Nat.testBit_and T _ g
    rw [hT, hg, Bool.and_true, Nat.zero_testBit] at h1
    exact h1.symm
  exact rl_rsure.mv h (gFr.at F rc_1_11.2.2 (hb _ rfl)) (fun p h0 h1 => gFr.at F (rR_5 (o := 47 + p) (by omega)).2.2 (hb _ rfl)) (fun b h0 h1 => gFr.at F (rs_RSURE (k := b + 456) (by omega)).2.2 (hb _ rfl))
theorem rl_rsure.im {M M1 : gM} (h : rl_rsure 206 252 193 M) (eI : ∀ o b : Int, 206 ≤ o → M1 o b = M o b) (e3 : ∀ b : Int, M1 193 b = M 193 b) : rl_rsure 206 252 193 M1 := rl_rsure.mv h (eI 206 11 (by decide)) (fun p h0 _ => eI (252 + p) 5 (by omega)) (fun b _ _ => e3 (b + 456))
def rl_proofs (o0 o1 o2 o3 A : Int) (M : gM) : Prop := M o0 11 ≤ 40 ∧ (0 ≤ M A 3 ∧ M A 3 ≤ 80) ∧ (∀ r : Int, 0 ≤ r → r < M o0 11 → (0 ≤ M (o1 + r) 6 ∧ M (o1 + r) 6 < M A 3) ∧ M A (M (o1 + r) 6 + 496) = 0 ∧ M A (M (o1 + r) 6 + 576) = r ∧ (M (o2 + r) 7 = -1 ∨ ((M (o1 + r) 6 < M (o2 + r) 7 ∧ M (o2 + r) 7 < M A 3) ∧ M A (M (o2 + r) 7 + 576) = r ∧ ((M (o3 + r) 8 = 1 ∧ M A (M (o2 + r) 7 + 496) = 1) ∨ (M (o3 + r) 8 = 0 ∧ M A (M (o2 + r) 7 + 496) = 2))))) ∧ (∀ i : Int, 0 ≤ i → i < M A 3 → (0 ≤ M A (i + 576) ∧ M A (i + 576) < M o0 11) ∧ (i = M (o1 + M A (i + 576)) 6 ∨ i = M (o2 + M A (i + 576)) 7))
theorem rl_proofs.mv {o0 o1 o2 o3 q0 q1 q2 q3 A B : Int} {M M1 : gM} (h : rl_proofs o0 o1 o2 o3 A M) (c0 : M1 q0 11 = M o0 11) (c1 : ∀ p : Int, 0 ≤ p → p < M o0 11 → M1 (q1 + p) 6 = M (o1 + p) 6) (c2 : ∀ p : Int, 0 ≤ p → p < M o0 11 → M1 (q2 + p) 7 = M (o2 + p) 7) (c3 : ∀ p : Int, 0 ≤ p → p < M o0 11 → M1 (q3 + p) 8 = M (o3 + p) 8) (r0 : M1 B 3 = M A 3) (r1 : ∀ b : Int, 0 ≤ b → b < 80 → M1 B (b + 496) = M A (b + 496)) (r2 : ∀ b : Int, 0 ≤ b → b < 80 → M1 B (b + 576) = M A (b + 576)) : rl_proofs q0 q1 q2 q3 B M1 := by
  obtain ⟨h0, hE, h1, h2⟩ := h
  refine ⟨by rw [c0]; exact h0, by rw [r0]; exact hE, fun r g0 g1 => ?_, fun i g0 g1 => ?_⟩
  · rw [c0] at g1
    obtain ⟨a1, a2, a3, a4⟩ := h1 r g0 g1
    rw [c1 r g0 g1, c2 r g0 g1, c3 r g0 g1, r0, r1 _ a1.1 (by omega), r2 _ a1.1 (by omega)]
    refine ⟨a1, a2, a3, ?_⟩
    rcases a4 with a4 | ⟨b1, b2, b3⟩
    · exact Or.inl a4
    · refine Or.inr ⟨b1, ?_, ?_⟩
      · rw [r2 _ (by omega) (by omega)]; exact b2
      · rw [r1 _ (by omega) (by omega)]; exact b3
  · rw [r0] at g1
    obtain ⟨a1, a2⟩ := h2 i g0 g1
    rw [r2 i g0 (by omega), c0]
    refine ⟨a1, ?_⟩
    rw [c1 _ a1.1 a1.2, c2 _ a1.1 a1.2]
    exact a2
theorem rl_proofs.fr {T : Nat} {M M1 : gM} (h : rl_proofs 1 47 47 47 191 M) (hN : M 1 10 ≤ 16 ∧ M 1 11 ≤ 40) (F : gFr T M M1) (hT : T &&& 464227514732017603089268864 = 0) : rl_proofs 1 47 47 47 191 M1 := by
  have hb : ∀ g : Nat, (464227514732017603089268864 : Nat).testBit g = true → T.testBit g = false := by
    intro g hg
    have h1 : (T &&& 464227514732017603089268864).testBit g = (T.testBit g && (464227514732017603089268864 : Nat).testBit g) := Nat.testBit_and T _ g
    rw [hT, hg, Bool.and_true, Nat.zero_testBit] at h1
    exact h1.symm
  exact rl_proofs.mv h (gFr.at F rc_1_11.2.2 (hb _ rfl)) (fun p h0 h1 => gFr.at F (rR_6 (o := 47 + p) (by omega)).2.2 (hb _ rfl)) (fun p h0 h1 => gFr.at F (rR_7 (o := 47 + p) (by omega)).2.2 (hb _ rfl)) (fun p h0 h1 => gFr.at F (rR_8 (o := 47 + p) (by omega)).2.2 (hb _ rfl)) (gFr.at F (rs_NE (k := 3) (by omega)).2.2 (hb _ rfl)) (fun b h0 h1 => gFr.at F (rs_EKIND (k := b + 496) (by omega)).2.2 (hb _ rfl)) (fun b h0 h1 => gFr.at F (rs_ERIGHT (k := b + 576) (by omega)).2.2 (hb _ rfl))
theorem rl_proofs.im {M M1 : gM} (h : rl_proofs 206 252 252 252 193 M) (eI : ∀ o b : Int, 206 ≤ o → M1 o b = M o b) (e3 : ∀ b : Int, M1 193 b = M 193 b) : rl_proofs 206 252 252 252 193 M1 := rl_proofs.mv h (eI 206 11 (by decide)) (fun p h0 _ => eI (252 + p) 6 (by omega)) (fun p h0 _ => eI (252 + p) 7 (by omega)) (fun p h0 _ => eI (252 + p) 8 (by omega)) (e3 3) (fun b _ _ => e3 (b + 496)) (fun b _ _ => e3 (b + 576))
def lwRel (M : gM) : Prop := rl_now 1 191 M ∧ rl_npers 1 191 M ∧ rl_sex 1 31 191 M ∧ rl_born 1 31 191 M ∧ rl_nright 1 191 M ∧ rl_nent 1 191 M ∧ rl_rkind 1 47 191 M ∧ rl_rwho 1 47 191 M ∧ rl_rto 1 47 191 M ∧ rl_rn 1 47 191 M ∧ rl_rweek 1 47 191 M ∧ rl_rsure 1 47 191 M ∧ rl_proofs 1 47 47 47 191 M
def lwRelI (M : gM) : Prop := rl_now 206 193 M ∧ rl_npers 206 193 M ∧ rl_sex 206 236 193 M ∧ rl_born 206 236 193 M ∧ rl_nright 206 193 M ∧ rl_nent 206 193 M ∧ rl_rkind 206 252 193 M ∧ rl_rwho 206 252 193 M ∧ rl_rto 206 252 193 M ∧ rl_rn 206 252 193 M ∧ rl_rweek 206 252 193 M ∧ rl_rsure 206 252 193 M ∧ rl_proofs 206 252 252 252 193 M
def lwK (sz cs ss : Nat) (M : gM) : Prop := (sz = 206 ∧ cs = 206 ∧ ss = 87467 ∧ M 0 9 = 0 ∧ M 190 4 = 0 ∧ gZ 206 M) ∨ (sz = 358 ∧ cs = 358 ∧ ss = 97974 ∧ M 0 9 = 207 ∧ M 190 4 = 1 ∧ M 206 13 ≤ 10 ∧ M 193 4 ≤ 10 ∧ gW 193 M ∧ lwRelI M)
def lwI (sz cs ss : Nat) (M : gM) : Prop := 206 ≤ sz ∧ gI sz M ∧ gC sz M ∧ gW 191 M ∧ M 1 13 ≤ 10 ∧ M 191 4 ≤ 10 ∧ lwK sz cs ss M ∧ lwRel M
theorem gG_im2 {o : Int} (h : 206 ≤ o) (b : Int) : (154714189158519407380529152 : Nat).testBit (gG o b) = true := by
  unfold gG
  rw [if_neg (by omega), if_neg (by omega), if_neg (by omega), if_neg (by omega), if_neg (by omega)]
  unfold gGi
  repeat' split
  all_goals rfl
theorem lwRelI.eq {M M1 : gM} (k : lwRelI M) (eI : ∀ o b : Int, 206 ≤ o → M1 o b = M o b) (e3 : ∀ b : Int, M1 193 b = M 193 b) : lwRelI M1 := ⟨rl_now.im k.1 eI e3, rl_npers.im k.2.1 eI e3, rl_sex.im k.2.2.1 eI e3, rl_born.im k.2.2.2.1 eI e3, rl_nright.im k.2.2.2.2.1 eI e3, rl_nent.im k.2.2.2.2.2.1 eI e3, rl_rkind.im k.2.2.2.2.2.2.1 eI e3, rl_rwho.im k.2.2.2.2.2.2.2.1 eI e3, rl_rto.im k.2.2.2.2.2.2.2.2.1 eI e3, rl_rn.im k.2.2.2.2.2.2.2.2.2.1 eI e3, rl_rweek.im k.2.2.2.2.2.2.2.2.2.2.1 eI e3, rl_rsure.im k.2.2.2.2.2.2.2.2.2.2.2.1 eI e3, rl_proofs.im k.2.2.2.2.2.2.2.2.2.2.2.2 eI e3⟩
theorem lwK.bit {T : Nat} (h : T &&& 154714189158519407380529152 = 0) (g : Nat) (hg : (154714189158519407380529152 : Nat).testBit g = true) : T.testBit g = false := by
  have h1 : (T &&& 154714189158519407380529152).testBit g = (T.testBit g && (154714189158519407380529152 : Nat).testBit g) := Nat.testBit_and T _ g
  rw [h, hg, Bool.and_true, Nat.zero_testBit] at h1
  exact h1.symm
theorem lwK.fr {T sz cs ss : Nat} {M M1 : gM} (K : lwK sz cs ss M) (F : gFr T M M1) (h : T &&& 154714189158519407380529152 = 0) : lwK sz cs ss M1 := by
  have e0 : M1 0 9 = M 0 9 := gFr.at F rc_0_9.2.2 (lwK.bit h _ rfl)
  have e4 : M1 190 4 = M 190 4 := gFr.at F rc_190_4.2.2 (lwK.bit h _ rfl)
  have eI : ∀ o b : Int, 206 ≤ o → M1 o b = M o b := fun o b q => F o b (lwK.bit h _ (gG_im2 q b))
  have e3 : ∀ b : Int, M1 193 b = M 193 b := fun b => gFr.at F (show gG 193 b = 64 from rfl) (lwK.bit h _ rfl)
  unfold lwK at *
  rcases K with ⟨k1, k2, k3, k4, k5, k6⟩ | ⟨k1, k2, k3, k4, k5, k6, k7, k8, k9⟩
  · exact Or.inl ⟨k1, k2, k3, e0.trans k4, e4.trans k5, fun o k q => by rw [eI o k q]; exact k6 o k q⟩
  · refine Or.inr ⟨k1, k2, k3, e0.trans k4, e4.trans k5, by rw [eI 206 13 (by decide)]; exact k6, by rw [e3]; exact k7, gW.same k8 e3, ?_⟩
    exact lwRelI.eq k9 eI e3
theorem lwK.room {sz cs ss : Nat} {M : gM} (K : lwK sz cs ss M) : cs ≤ 358 ∧ ss ≤ 97974 := by
  unfold lwK at K
  rcases K with ⟨k1, k2, k3, _⟩ | ⟨k1, k2, k3, _⟩ <;> omega
theorem gN_of {sz : Nat} {M : gM} (hsz : 206 ≤ sz) (I : gI sz M) : M 1 10 ≤ 16 ∧ M 1 11 ≤ 40 := by
  have h1 := I 1 10 (by decide) (gsz hsz (by decide))
  have h2 := I 1 11 (by decide) (gsz hsz (by decide))
  rw [rc_1_10.1] at h1
  rw [rc_1_11.1] at h2
  exact ⟨h1.2, h2.2⟩
theorem rel_person {M M1 M2 : gM} {a b c d f z1 z2 : Int} (hn : M 1 10 = M 191 1) (hw : M 1 15 = M 191 0) (R0 : rl_sex 1 31 191 M) (R1 : rl_born 1 31 191 M) (x1 : ((((¬ (0 ≤ c ∧ c ≤ 5) ∨ (¬ d = -1 ∧ ¬ (0 ≤ d ∧ d < M 1 10))) ∧ z1 = -1) ∨ (¬ (¬ (0 ≤ c ∧ c ≤ 5) ∨ (¬ d = -1 ∧ ¬ (0 ≤ d ∧ d < M 1 10))) ∧ (¬ (0 ≤ a ∧ a ≤ 1) ∨ ¬ (-3000 ≤ b ∧ b ≤ M 1 15) ∨ ¬ (0 ≤ f ∧ f ≤ 9) ∨ (¬ d = -1 ∧ (¬ M (31 + d) 0 = 0 ∨ b ≤ M (31 + d) 1))) ∧ z1 = -2) ∨ (¬ (¬ (0 ≤ c ∧ c ≤ 5) ∨ (¬ d = -1 ∧ ¬ (0 ≤ d ∧ d < M 1 10))) ∧ ¬ (¬ (0 ≤ a ∧ a ≤ 1) ∨ ¬ (-3000 ≤ b ∧ b ≤ M 1 15) ∨ ¬ (0 ≤ f ∧ f ≤ 9) ∨ (¬ d = -1 ∧ (¬ M (31 + d) 0 = 0 ∨ b ≤ M (31 + d) 1))) ∧ M 1 10 = 16 ∧ z1 = -4)) ∧ M1 1 10 = M 1 10 ∧ (∀ p : Int, 0 ≤ p → p < 16 → M1 (31 + p) 0 = M (31 + p) 0) ∧ (∀ p : Int, 0 ≤ p → p < 16 → M1 (31 + p) 1 = M (31 + p) 1) ∧ (∀ p : Int, 0 ≤ p → p < 16 → M1 (31 + p) 11 = M (31 + p) 11)) ∨ ((¬ (¬ (0 ≤ c ∧ c ≤ 5) ∨ (¬ d = -1 ∧ ¬ (0 ≤ d ∧ d < M 1 10))) ∧ ¬ (¬ (0 ≤ a ∧ a ≤ 1) ∨ ¬ (-3000 ≤ b ∧ b ≤ M 1 15) ∨ ¬ (0 ≤ f ∧ f ≤ 9) ∨ (¬ d = -1 ∧ (¬ M (31 + d) 0 = 0 ∨ b ≤ M (31 + d) 1))) ∧ M 1 10 < 16 ∧ z1 = M 1 10) ∧ M1 1 10 = M 1 10 + 1 ∧ (∀ p : Int, 0 ≤ p → p < 16 → ¬ p = M 1 10 → M1 (31 + p) 0 = M (31 + p) 0) ∧ (∀ p : Int, 0 ≤ p → p < 16 → ¬ p = M 1 10 → M1 (31 + p) 1 = M (31 + p) 1) ∧ (∀ p : Int, 0 ≤ p → p < 16 → ¬ p = M 1 10 → M1 (31 + p) 11 = M (31 + p) 11) ∧ M1 (31 + M 1 10) 0 = a ∧ M1 (31 + M 1 10) 1 = b ∧ M1 (31 + M 1 10) 11 = 0)) (e1 : ∀ k : Int, M1 191 k = M 191 k) (x2 : ((((¬ (0 ≤ c ∧ c ≤ 5) ∨ (¬ d = -1 ∧ ¬ (0 ≤ d ∧ d < M1 191 1))) ∧ z2 = -1) ∨ (¬ (¬ (0 ≤ c ∧ c ≤ 5) ∨ (¬ d = -1 ∧ ¬ (0 ≤ d ∧ d < M1 191 1))) ∧ (¬ (0 ≤ a ∧ a ≤ 1) ∨ ¬ (-3000 ≤ b ∧ b ≤ M1 191 0) ∨ ¬ (0 ≤ f ∧ f ≤ 9) ∨ (¬ d = -1 ∧ (¬ M1 191 (d + 80) = 0 ∨ b ≤ M1 191 (d + 96)))) ∧ z2 = -2) ∨ (¬ (¬ (0 ≤ c ∧ c ≤ 5) ∨ (¬ d = -1 ∧ ¬ (0 ≤ d ∧ d < M1 191 1))) ∧ ¬ (¬ (0 ≤ a ∧ a ≤ 1) ∨ ¬ (-3000 ≤ b ∧ b ≤ M1 191 0) ∨ ¬ (0 ≤ f ∧ f ≤ 9) ∨ (¬ d = -1 ∧ (¬ M1 191 (d + 80) = 0 ∨ b ≤ M1 191 (d + 96)))) ∧ M1 191 1 = 16 ∧ z2 = -4)) ∧ M2 191 1 = M1 191 1 ∧ (∀ p : Int, 0 ≤ p → p < 16 → M2 191 (p + 80) = M1 191 (p + 80)) ∧ (∀ p : Int, 0 ≤ p → p < 16 → M2 191 (p + 96) = M1 191 (p + 96)) ∧ (∀ p : Int, 0 ≤ p → p < 16 → M2 191 (p + 2770) = M1 191 (p + 2770))) ∨ ((¬ (¬ (0 ≤ c ∧ c ≤ 5) ∨ (¬ d = -1 ∧ ¬ (0 ≤ d ∧ d < M1 191 1))) ∧ ¬ (¬ (0 ≤ a ∧ a ≤ 1) ∨ ¬ (-3000 ≤ b ∧ b ≤ M1 191 0) ∨ ¬ (0 ≤ f ∧ f ≤ 9) ∨ (¬ d = -1 ∧ (¬ M1 191 (d + 80) = 0 ∨ b ≤ M1 191 (d + 96)))) ∧ M1 191 1 < 16 ∧ z2 = M1 191 1) ∧ M2 191 1 = M1 191 1 + 1 ∧ (∀ p : Int, 0 ≤ p → p < 16 → ¬ p = M1 191 1 → M2 191 (p + 80) = M1 191 (p + 80)) ∧ (∀ p : Int, 0 ≤ p → p < 16 → ¬ p = M1 191 1 → M2 191 (p + 96) = M1 191 (p + 96)) ∧ (∀ p : Int, 0 ≤ p → p < 16 → ¬ p = M1 191 1 → M2 191 (p + 2770) = M1 191 (p + 2770)) ∧ M2 191 (M1 191 1 + 80) = a ∧ M2 191 (M1 191 1 + 96) = b)) (e0 : ∀ p : Int, 0 ≤ p → p < 16 → M2 (31 + p) 0 = M1 (31 + p) 0) (eb : ∀ p : Int, 0 ≤ p → p < 16 → M2 (31 + p) 1 = M1 (31 + p) 1) (n2 : M2 1 10 = M1 1 10) : z1 = z2 ∧ M2 1 10 = M2 191 1 ∧ rl_sex 1 31 191 M2 ∧ rl_born 1 31 191 M2 := by
  obtain ⟨Ra, Rs⟩ := R0
  obtain ⟨Rb, Rt⟩ := R1
  have f0 := e1 0
  have f1 := e1 1
  have fs := e1 (d + 80)
  have fb := e1 (d + 96)
  have gs : (0 ≤ d ∧ d < M 1 10) → M (31 + d) 0 = M 191 (d + 80) := fun h => Rs d h.1 h.2
  have gb : (0 ≤ d ∧ d < M 1 10) → M (31 + d) 1 = M 191 (d + 96) := fun h => Rt d h.1 h.2
  rcases x1 with ⟨h1, m1, k0, k1, _⟩ | ⟨h1, m1, k0, k1, _, v0, v1, _⟩
  · rcases x2 with ⟨h2, m2, q0, q1, _⟩ | ⟨h2, m2, _⟩
    · refine ⟨by omega, by omega, ⟨by omega, fun p h0 h => ?_⟩, ⟨by omega, fun p h0 h => ?_⟩⟩
      · rw [e0 p h0 (by omega), k0 p h0 (by omega), q0 p h0 (by omega), e1]; exact Rs p h0 (by omega)
      · rw [eb p h0 (by omega), k1 p h0 (by omega), q1 p h0 (by omega), e1]; exact Rt p h0 (by omega)
    · exfalso; omega
  · rcases x2 with ⟨h2, m2, q0, q1, _⟩ | ⟨h2, m2, q0, q1, _, w0, w1⟩
    · exfalso; omega
    · have hn1 : M1 191 1 = M 1 10 := by omega
      refine ⟨by omega, by omega, ⟨by omega, fun p h0 h => ?_⟩, ⟨by omega, fun p h0 h => ?_⟩⟩
      · by_cases g : p = M 1 10
        · rw [e0 p h0 (by omega), g, v0, ← hn1, w0]
        · rw [e0 p h0 (by omega), k0 p h0 (by omega) g, q0 p h0 (by omega) (by omega), e1]; exact Rs p h0 (by omega)
      · by_cases g : p = M 1 10
        · rw [eb p h0 (by omega), g, v1, ← hn1, w1]
        · rw [eb p h0 (by omega), k1 p h0 (by omega) g, q1 p h0 (by omega) (by omega), e1]; exact Rt p h0 (by omega)
theorem gR_of {sz : Nat} {M : gM} (hsz : 206 ≤ sz) (I : gI sz M) : 0 ≤ M 1 11 ∧ M 1 11 ≤ 40 := by
  have h2 := I 1 11 (by decide) (gsz hsz (by decide))
  rw [rc_1_11.1] at h2
  exact h2
theorem rel_rsame {M M1 M2 : gM} (hr : M 1 11 = M 191 2) (he : M 1 12 = M 191 3) (hB : 0 ≤ M 1 11 ∧ M 1 11 ≤ 40) (S0 : rl_rkind 1 47 191 M) (S1 : rl_rwho 1 47 191 M) (S2 : rl_rto 1 47 191 M) (S3 : rl_rn 1 47 191 M) (S4 : rl_rweek 1 47 191 M) (S5 : rl_rsure 1 47 191 M) (RP : rl_proofs 1 47 47 47 191 M) (x1 : pSameX M M1) (x2 : pSameM M1 M2) (e1 : ∀ k : Int, M1 191 k = M 191 k) (e2 : ∀ r k : Int, 0 ≤ r → r < 40 → 0 ≤ k → k ≤ 8 → M2 (47 + r) k = M1 (47 + r) k) (n1 : M2 1 11 = M1 1 11) (n2 : M2 1 12 = M1 1 12) : M2 1 11 = M2 191 2 ∧ M2 1 12 = M2 191 3 ∧ rl_rkind 1 47 191 M2 ∧ rl_rwho 1 47 191 M2 ∧ rl_rto 1 47 191 M2 ∧ rl_rn 1 47 191 M2 ∧ rl_rweek 1 47 191 M2 ∧ rl_rsure 1 47 191 M2 ∧ rl_proofs 1 47 47 47 191 M2 := by
  obtain ⟨u1, u2, u3⟩ := x1
  obtain ⟨w1, w2, w3⟩ := x2
  have f2 := e1 2
  have f3 := e1 3
  have cf : ∀ p k : Int, 0 ≤ p → p < M 1 11 → 0 ≤ k → k ≤ 8 → M2 (47 + p) k = M (47 + p) k := fun p k h0 h1 h2 h3 => (e2 p k h0 (by omega) h2 h3).trans (u3 p k h0 (by omega) h2 h3)
  have rf : ∀ k : Int, 256 ≤ k → k < 656 → M2 191 k = M 191 k := fun k h0 h1 => (w3 k h0 h1).trans (e1 k)
  exact ⟨by omega, by omega, rl_rkind.mv S0 (n1.trans u1) (fun p h0 h1 => cf p 0 h0 h1 (by decide) (by decide)) (fun b h0 h1 => rf (b + 256) (by omega) (by omega)), rl_rwho.mv S1 (n1.trans u1) (fun p h0 h1 => cf p 1 h0 h1 (by decide) (by decide)) (fun b h0 h1 => rf (b + 296) (by omega) (by omega)), rl_rto.mv S2 (n1.trans u1) (fun p h0 h1 => cf p 2 h0 h1 (by decide) (by decide)) (fun b h0 h1 => rf (b + 336) (by omega) (by omega)), rl_rn.mv S3 (n1.trans u1) (fun p h0 h1 => cf p 3 h0 h1 (by decide) (by decide)) (fun b h0 h1 => rf (b + 376) (by omega) (by omega)), rl_rweek.mv S4 (n1.trans u1) (fun p h0 h1 => cf p 4 h0 h1 (by decide) (by decide)) (fun b h0 h1 => rf (b + 416) (by omega) (by omega)), rl_rsure.mv S5 (n1.trans u1) (fun p h0 h1 => cf p 5 h0 h1 (by decide) (by decide)) (fun b h0 h1 => rf (b + 456) (by omega) (by omega)), rl_proofs.mv RP (n1.trans u1) (fun p h0 h1 => cf p 6 h0 h1 (by decide) (by decide)) (fun p h0 h1 => cf p 7 h0 h1 (by decide) (by decide)) (fun p h0 h1 => cf p 8 h0 h1 (by decide) (by decide)) (w2.trans f3) (fun b h0 h1 => rf (b + 496) (by omega) (by omega)) (fun b h0 h1 => rf (b + 576) (by omega) (by omega))⟩
theorem rel_tell {M M1 M2 : gM} {a b c d f g z1 z2 : Int} (hr : M 1 11 = M 191 2) (he : M 1 12 = M 191 3) (hB : 0 ≤ M 1 11 ∧ M 1 11 ≤ 40) (S0 : rl_rkind 1 47 191 M) (S1 : rl_rwho 1 47 191 M) (S2 : rl_rto 1 47 191 M) (S3 : rl_rn 1 47 191 M) (S4 : rl_rweek 1 47 191 M) (S5 : rl_rsure 1 47 191 M) (RP : rl_proofs 1 47 47 47 191 M) (x1 : pTellX a b c d f g z1 M M1) (x2 : pTellM a b c d f g z2 M1 M2) (e1 : ∀ k : Int, M1 191 k = M 191 k) (e2 : ∀ r k : Int, 0 ≤ r → r < 40 → 0 ≤ k → k ≤ 8 → M2 (47 + r) k = M1 (47 + r) k) (n1 : M2 1 11 = M1 1 11) (n2 : M2 1 12 = M1 1 12) : z1 = z2 ∧ M2 1 11 = M2 191 2 ∧ M2 1 12 = M2 191 3 ∧ rl_rkind 1 47 191 M2 ∧ rl_rwho 1 47 191 M2 ∧ rl_rto 1 47 191 M2 ∧ rl_rn 1 47 191 M2 ∧ rl_rweek 1 47 191 M2 ∧ rl_rsure 1 47 191 M2 ∧ rl_proofs 1 47 47 47 191 M2 := by
  have f2 := e1 2
  have f3 := e1 3
  rcases x1 with ⟨k1, q1, t1⟩ | ⟨⟨k1, q1⟩, ⟨a1, a2⟩, a3, b0, b1, b2, b3, b4, b5, b6, b7, b8⟩
  · rcases x2 with ⟨k2, q2, t2⟩ | ⟨⟨k2, q2⟩, _⟩
    · exact ⟨by omega, rel_rsame hr he hB S0 S1 S2 S3 S4 S5 RP t1 t2 e1 e2 n1 n2⟩
    · exfalso; omega
  · rcases x2 with ⟨k2, q2, t2⟩ | ⟨⟨k2, q2⟩, ⟨c1, c2⟩, c3, d0, d1, d2, d3, d4, d5, d6, d7⟩
    · exfalso; omega
    · have hn2 : M1 191 2 = M 1 11 := by omega
      have he2 : M1 191 3 = M 191 3 := f3
      rw [hn2] at q2 c1 c3 d0 d1 d2 d3 d4 d5 d7
      rw [he2] at c2 c3 d6 d7
      obtain ⟨p0, pE, p1, p2⟩ := RP
      have v1 : ∀ t : Int, 0 ≤ t → t < M 191 3 → M2 191 (t + 496) = M 191 (t + 496) := fun t h0 h1 => (c3 (t + 496) (by omega) (by omega) (by omega) (by omega) (by omega) (by omega) (by omega) (by omega) (by omega) (by omega)).trans (e1 _)
      have v2 : ∀ t : Int, 0 ≤ t → t < M 191 3 → M2 191 (t + 576) = M 191 (t + 576) := fun t h0 h1 => (c3 (t + 576) (by omega) (by omega) (by omega) (by omega) (by omega) (by omega) (by omega) (by omega) (by omega) (by omega)).trans (e1 _)
      refine ⟨by omega, by omega, by omega, ⟨by omega, fun r g0 g1 => by
        by_cases g : r = M 1 11
        · subst g
          rw [e2 _ 0 hB.1 (by omega) (by decide) (by decide), b0, d0]
        · rw [e2 r 0 g0 (by omega) (by decide) (by decide), a3 r 0 g0 (by omega) (by decide) (by decide) g, c3 (r + 256) (by omega) (by omega) (by omega) (by omega) (by omega) (by omega) (by omega) (by omega) (by omega) (by omega), e1]; exact S0.2 r g0 (by omega)⟩, ⟨by omega, fun r g0 g1 => by
        by_cases g : r = M 1 11
        · subst g
          rw [e2 _ 1 hB.1 (by omega) (by decide) (by decide), b1, d1]
        · rw [e2 r 1 g0 (by omega) (by decide) (by decide), a3 r 1 g0 (by omega) (by decide) (by decide) g, c3 (r + 296) (by omega) (by omega) (by omega) (by omega) (by omega) (by omega) (by omega) (by omega) (by omega) (by omega), e1]; exact S1.2 r g0 (by omega)⟩, ⟨by omega, fun r g0 g1 => by
        by_cases g : r = M 1 11
        · subst g
          rw [e2 _ 2 hB.1 (by omega) (by decide) (by decide), b2, d2]
        · rw [e2 r 2 g0 (by omega) (by decide) (by decide), a3 r 2 g0 (by omega) (by decide) (by decide) g, c3 (r + 336) (by omega) (by omega) (by omega) (by omega) (by omega) (by omega) (by omega) (by omega) (by omega) (by omega), e1]; exact S2.2 r g0 (by omega)⟩, ⟨by omega, fun r g0 g1 => by
        by_cases g : r = M 1 11
        · subst g
          rw [e2 _ 3 hB.1 (by omega) (by decide) (by decide), b3, d3]
        · rw [e2 r 3 g0 (by omega) (by decide) (by decide), a3 r 3 g0 (by omega) (by decide) (by decide) g, c3 (r + 376) (by omega) (by omega) (by omega) (by omega) (by omega) (by omega) (by omega) (by omega) (by omega) (by omega), e1]; exact S3.2 r g0 (by omega)⟩, ⟨by omega, fun r g0 g1 => by
        by_cases g : r = M 1 11
        · subst g
          rw [e2 _ 4 hB.1 (by omega) (by decide) (by decide), b4, d4]
        · rw [e2 r 4 g0 (by omega) (by decide) (by decide), a3 r 4 g0 (by omega) (by decide) (by decide) g, c3 (r + 416) (by omega) (by omega) (by omega) (by omega) (by omega) (by omega) (by omega) (by omega) (by omega) (by omega), e1]; exact S4.2 r g0 (by omega)⟩, ⟨by omega, fun r g0 g1 => by
        by_cases g : r = M 1 11
        · subst g
          rw [e2 _ 5 hB.1 (by omega) (by decide) (by decide), b5, d5]
        · rw [e2 r 5 g0 (by omega) (by decide) (by decide), a3 r 5 g0 (by omega) (by decide) (by decide) g, c3 (r + 456) (by omega) (by omega) (by omega) (by omega) (by omega) (by omega) (by omega) (by omega) (by omega) (by omega), e1]; exact S5.2 r g0 (by omega)⟩, ⟨by omega, by omega, fun r g0 g1 => ?_, fun i g0 g1 => ?_⟩⟩
      · by_cases g : r = M 1 11
        · subst g
          rw [e2 _ 6 hB.1 (by omega) (by decide) (by decide), e2 _ 7 hB.1 (by omega) (by decide) (by decide), b6, b7]
          refine ⟨⟨by omega, by omega⟩, by rw [he]; exact d6, by rw [he]; exact d7, Or.inl rfl⟩
        · have g2 : r < M 1 11 := by omega
          obtain ⟨u1, u2, u3, u4⟩ := p1 r g0 g2
          rw [e2 r 6 g0 (by omega) (by decide) (by decide), e2 r 7 g0 (by omega) (by decide) (by decide), e2 r 8 g0 (by omega) (by decide) (by decide), a3 r 6 g0 (by omega) (by decide) (by decide) g, a3 r 7 g0 (by omega) (by decide) (by decide) g, a3 r 8 g0 (by omega) (by decide) (by decide) g, v1 _ u1.1 u1.2, v2 _ u1.1 u1.2]
          refine ⟨⟨u1.1, by omega⟩, u2, u3, ?_⟩
          rcases u4 with u4 | ⟨y1, y2, y3⟩
          · exact Or.inl u4
          · refine Or.inr ⟨⟨y1.1, by omega⟩, ?_, ?_⟩
            · rw [v2 _ (by omega) y1.2]; exact y2
            · rw [v1 _ (by omega) y1.2]; exact y3
      · by_cases g : i = M 191 3
        · subst g
          rw [d7]
          refine ⟨⟨by omega, by omega⟩, Or.inl ?_⟩
          rw [e2 _ 6 hB.1 (by omega) (by decide) (by decide), b6]; exact he.symm
        · have g2 : i < M 191 3 := by omega
          obtain ⟨u1, u2⟩ := p2 i g0 g2
          rw [v2 i g0 g2]
          refine ⟨⟨u1.1, by omega⟩, ?_⟩
          rw [e2 _ 6 u1.1 (by omega) (by decide) (by decide), e2 _ 7 u1.1 (by omega) (by decide) (by decide), a3 _ 6 u1.1 (by omega) (by decide) (by decide) (by omega), a3 _ 7 u1.1 (by omega) (by decide) (by decide) (by omega)]
          exact u2
theorem rel_proof {M M1 M2 : gM} {a b z1 z2 : Int} (rb : 0 ≤ b ∧ b ≤ 1) (hr : M 1 11 = M 191 2) (he : M 1 12 = M 191 3) (hB : 0 ≤ M 1 11 ∧ M 1 11 ≤ 40) (S0 : rl_rkind 1 47 191 M) (S1 : rl_rwho 1 47 191 M) (S2 : rl_rto 1 47 191 M) (S3 : rl_rn 1 47 191 M) (S4 : rl_rweek 1 47 191 M) (S5 : rl_rsure 1 47 191 M) (RP : rl_proofs 1 47 47 47 191 M) (x1 : (((¬ (0 ≤ a ∧ a < M 1 11) ∧ z1 = -1) ∨ ((0 ≤ a ∧ a < M 1 11) ∧ (¬ M (47 + a) 7 = -1 ∨ (b = 1 ∧ M (47 + a) 5 = 1)) ∧ z1 = -3) ∨ ((0 ≤ a ∧ a < M 1 11) ∧ ¬ (¬ M (47 + a) 7 = -1 ∨ (b = 1 ∧ M (47 + a) 5 = 1)) ∧ M 1 12 = 80 ∧ z1 = -4)) ∧ pSameX M M1) ∨ (((0 ≤ a ∧ a < M 1 11) ∧ ¬ (¬ M (47 + a) 7 = -1 ∨ (b = 1 ∧ M (47 + a) 5 = 1)) ∧ M 1 12 < 80 ∧ z1 = M 1 12 + 1) ∧ M1 1 11 = M 1 11 ∧ M1 1 12 = M 1 12 + 1 ∧ (∀ r k : Int, 0 ≤ r → r < 40 → 0 ≤ k → k ≤ 8 → ¬ (r = a ∧ (k = 7 ∨ k = 8)) → M1 (47 + r) k = M (47 + r) k) ∧ M1 (47 + a) 7 = M 1 12 ∧ M1 (47 + a) 8 = b)) (x2 : (((¬ (0 ≤ a ∧ a < M1 191 2) ∧ z2 = -1) ∨ ((0 ≤ a ∧ a < M1 191 2) ∧ pSt b a (M1 191 3) M1 ∧ z2 = -3) ∨ ((0 ≤ a ∧ a < M1 191 2) ∧ ¬ pSt b a (M1 191 3) M1 ∧ M1 191 3 = 80 ∧ z2 = -4)) ∧ pSameM M1 M2) ∨ (((0 ≤ a ∧ a < M1 191 2) ∧ ¬ pSt b a (M1 191 3) M1 ∧ M1 191 3 < 80 ∧ z2 = M1 191 3 + 1) ∧ M2 191 2 = M1 191 2 ∧ M2 191 3 = M1 191 3 + 1 ∧ (∀ k : Int, 256 ≤ k → k < 656 → ¬ k = M1 191 3 + 496 → ¬ k = M1 191 3 + 576 → M2 191 k = M1 191 k) ∧ ((b = 1 ∧ M2 191 (M1 191 3 + 496) = 1) ∨ (b = 0 ∧ M2 191 (M1 191 3 + 496) = 2)) ∧ M2 191 (M1 191 3 + 576) = a)) (e1 : ∀ k : Int, M1 191 k = M 191 k) (e2 : ∀ r k : Int, 0 ≤ r → r < 40 → 0 ≤ k → k ≤ 8 → M2 (47 + r) k = M1 (47 + r) k) (n1 : M2 1 11 = M1 1 11) (n2 : M2 1 12 = M1 1 12) : z1 = z2 ∧ M2 1 11 = M2 191 2 ∧ M2 1 12 = M2 191 3 ∧ rl_rkind 1 47 191 M2 ∧ rl_rwho 1 47 191 M2 ∧ rl_rto 1 47 191 M2 ∧ rl_rn 1 47 191 M2 ∧ rl_rweek 1 47 191 M2 ∧ rl_rsure 1 47 191 M2 ∧ rl_proofs 1 47 47 47 191 M2 := by
  have f2 := e1 2
  have f3 := e1 3
  have RP0 := RP
  obtain ⟨p0, pE, p1, p2⟩ := RP
  have hst : (0 ≤ a ∧ a < M 1 11) → ((¬ M (47 + a) 7 = -1 ∨ (b = 1 ∧ M (47 + a) 5 = 1)) ↔ pSt b a (M1 191 3) M1) := by
    intro ha
    have hs := S5.2 a ha.1 ha.2
    obtain ⟨u1, u2, u3, u4⟩ := p1 a ha.1 ha.2
    constructor
    · rintro (h | ⟨h1, h2⟩)
      · obtain ⟨y1, y2, y3⟩ := u4.resolve_left h
        have f4 := e1 (M (47 + a) 7 + 496)
        exact Or.inr ⟨M (47 + a) 7, ⟨by omega, by omega⟩, by omega, by rw [e1]; exact y2⟩
      · exact Or.inl ⟨h1, by rw [e1]; omega⟩
    · rintro (⟨h1, h2⟩ | ⟨j, hj, h3, h4⟩)
      · rw [e1] at h2
        exact Or.inr ⟨h1, by omega⟩
      · rw [e1] at h3 h4
        obtain ⟨v1, v2⟩ := p2 j hj.1 (by omega)
        rw [h4] at v2
        rcases v2 with v2 | v2
        · exfalso; rw [v2] at h3; exact h3 u2
        · exact Or.inl (by omega)
  rcases x1 with ⟨h1, t1⟩ | ⟨⟨ha, hs, hf, hz⟩, m1, m2, a3, b7, b8⟩
  · rcases x2 with ⟨h2, t2⟩ | ⟨⟨ha2, hs2, hf2, hz2⟩, _⟩
    · refine ⟨?_, rel_rsame hr he hB S0 S1 S2 S3 S4 S5 RP0 t1 t2 e1 e2 n1 n2⟩
      rcases h1 with h1 | ⟨ha, hs, h1⟩ | ⟨ha, hs, hf, h1⟩
      · rcases h2 with h2 | ⟨ha2, hs2, h2⟩ | ⟨ha2, hs2, hf2, h2⟩ <;> omega
      · rcases h2 with h2 | ⟨ha2, hs2, h2⟩ | ⟨ha2, hs2, hf2, h2⟩
        · omega
        · omega
        · exact absurd ((hst ha).mp hs) hs2
      · rcases h2 with h2 | ⟨ha2, hs2, h2⟩ | ⟨ha2, hs2, hf2, h2⟩
        · omega
        · exact absurd ((hst ha).mpr hs2) hs
        · omega
    · exfalso
      rcases h1 with h1 | ⟨ha, hs, h1⟩ | ⟨ha, hs, hf, h1⟩
      · omega
      · exact hs2 ((hst ha).mp hs)
      · omega
  · rcases x2 with ⟨h2, t2⟩ | ⟨⟨ha2, hs2, hf2, hz2⟩, k1, k2, c3, d6, d7⟩
    · exfalso
      rcases h2 with h2 | ⟨ha2, hs2, h2⟩ | ⟨ha2, hs2, hf2, h2⟩
      · omega
      · exact hs ((hst ha).mpr hs2)
      · omega
    · rw [f3] at c3 d6 d7
      have v1 : ∀ t : Int, 0 ≤ t → t < M 191 3 → M2 191 (t + 496) = M 191 (t + 496) := fun t h0 h1 => (c3 (t + 496) (by omega) (by omega) (by omega) (by omega)).trans (e1 _)
      have v2 : ∀ t : Int, 0 ≤ t → t < M 191 3 → M2 191 (t + 576) = M 191 (t + 576) := fun t h0 h1 => (c3 (t + 576) (by omega) (by omega) (by omega) (by omega)).trans (e1 _)
      refine ⟨by omega, by omega, by omega, rl_rkind.mv S0 (n1.trans m1) (fun p h0 h1 => (e2 p 0 h0 (by omega) (by decide) (by decide)).trans (a3 p 0 h0 (by omega) (by decide) (by decide) (by omega))) (fun b h0 h1 => (c3 (b + 256) (by omega) (by omega) (by omega) (by omega)).trans (e1 _)), rl_rwho.mv S1 (n1.trans m1) (fun p h0 h1 => (e2 p 1 h0 (by omega) (by decide) (by decide)).trans (a3 p 1 h0 (by omega) (by decide) (by decide) (by omega))) (fun b h0 h1 => (c3 (b + 296) (by omega) (by omega) (by omega) (by omega)).trans (e1 _)), rl_rto.mv S2 (n1.trans m1) (fun p h0 h1 => (e2 p 2 h0 (by omega) (by decide) (by decide)).trans (a3 p 2 h0 (by omega) (by decide) (by decide) (by omega))) (fun b h0 h1 => (c3 (b + 336) (by omega) (by omega) (by omega) (by omega)).trans (e1 _)), rl_rn.mv S3 (n1.trans m1) (fun p h0 h1 => (e2 p 3 h0 (by omega) (by decide) (by decide)).trans (a3 p 3 h0 (by omega) (by decide) (by decide) (by omega))) (fun b h0 h1 => (c3 (b + 376) (by omega) (by omega) (by omega) (by omega)).trans (e1 _)), rl_rweek.mv S4 (n1.trans m1) (fun p h0 h1 => (e2 p 4 h0 (by omega) (by decide) (by decide)).trans (a3 p 4 h0 (by omega) (by decide) (by decide) (by omega))) (fun b h0 h1 => (c3 (b + 416) (by omega) (by omega) (by omega) (by omega)).trans (e1 _)), rl_rsure.mv S5 (n1.trans m1) (fun p h0 h1 => (e2 p 5 h0 (by omega) (by decide) (by decide)).trans (a3 p 5 h0 (by omega) (by decide) (by decide) (by omega))) (fun b h0 h1 => (c3 (b + 456) (by omega) (by omega) (by omega) (by omega)).trans (e1 _)), ⟨by omega, by omega, fun r g0 g1 => ?_, fun i g0 g1 => ?_⟩⟩
      · have g2 : r < M 1 11 := by omega
        obtain ⟨u1, u2, u3, u4⟩ := p1 r g0 g2
        rw [e2 r 6 g0 (by omega) (by decide) (by decide), a3 r 6 g0 (by omega) (by decide) (by decide) (by omega), v1 _ u1.1 u1.2, v2 _ u1.1 u1.2]
        refine ⟨⟨u1.1, by omega⟩, u2, u3, ?_⟩
        rw [e2 r 7 g0 (by omega) (by decide) (by decide), e2 r 8 g0 (by omega) (by decide) (by decide)]
        by_cases g : r = a
        · subst g
          rw [b7, b8]
          refine Or.inr ⟨⟨by omega, by omega⟩, by rw [he]; exact d7, ?_⟩
          rw [he]
          rcases d6 with d6 | d6
          · exact Or.inl d6
          · exact Or.inr d6
        · rw [a3 r 7 g0 (by omega) (by decide) (by decide) (by omega), a3 r 8 g0 (by omega) (by decide) (by decide) (by omega)]
          rcases u4 with u4 | ⟨y1, y2, y3⟩
          · exact Or.inl u4
          · refine Or.inr ⟨⟨y1.1, by omega⟩, ?_, ?_⟩
            · rw [v2 _ (by omega) y1.2]; exact y2
            · rw [v1 _ (by omega) y1.2]; exact y3
      · by_cases g : i = M 191 3
        · subst g
          rw [d7]
          refine ⟨⟨by omega, by omega⟩, Or.inr ?_⟩
          rw [e2 _ 7 ha.1 (by omega) (by decide) (by decide), b7]; exact he.symm
        · have g2 : i < M 191 3 := by omega
          obtain ⟨u1, u2⟩ := p2 i g0 g2
          rw [v2 i g0 g2]
          refine ⟨⟨u1.1, by omega⟩, ?_⟩
          rw [e2 _ 6 u1.1 (by omega) (by decide) (by decide), e2 _ 7 u1.1 (by omega) (by decide) (by decide), a3 _ 6 u1.1 (by omega) (by decide) (by decide) (by omega)]
          rcases u2 with u2 | u2
          · exact Or.inl u2
          · by_cases gg : M 191 (i + 576) = a
            · exfalso
              obtain ⟨w1, w2, w3, w4⟩ := p1 a ha.1 ha.2
              rw [gg] at u2
              have := hs
              omega
            · rw [a3 _ 7 u1.1 (by omega) (by decide) (by decide) (by omega)]
              exact Or.inr u2
theorem rel_hire {M M1 M2 : gM} {a b c d f g z1 z2 : Int} (hn : M 1 10 = M 191 1) (hw : M 1 15 = M 191 0) (hr : M 1 11 = M 191 2) (he : M 1 12 = M 191 3) (hB : 0 ≤ M 1 11 ∧ M 1 11 ≤ 40) (S0 : rl_rkind 1 47 191 M) (S1 : rl_rwho 1 47 191 M) (S2 : rl_rto 1 47 191 M) (S3 : rl_rn 1 47 191 M) (S4 : rl_rweek 1 47 191 M) (S5 : rl_rsure 1 47 191 M) (RP : rl_proofs 1 47 47 47 191 M) (x1 : (((¬ (0 ≤ a ∧ a < M 1 10) ∨ ¬ (0 ≤ b ∧ b ≤ 5)) ∧ z1 = -1) ∨ (¬ (¬ (0 ≤ a ∧ a < M 1 10) ∨ ¬ (0 ≤ b ∧ b ≤ 5)) ∧ (¬ (1 ≤ c ∧ c ≤ 200) ∨ ¬ (-3000 ≤ d ∧ d ≤ M 1 15)) ∧ z1 = -2)) ∧ pSameX M M1 ∨ (¬ (¬ (0 ≤ a ∧ a < M 1 10) ∨ ¬ (0 ≤ b ∧ b ≤ 5)) ∧ ¬ (¬ (1 ≤ c ∧ c ≤ 200) ∨ ¬ (-3000 ≤ d ∧ d ≤ M 1 15))) ∧ ((f = 1 ∧ pTellX 4 a b c d g z1 M M1) ∨ (f = 0 ∧ pTellX 1 a b c d g z1 M M1))) (x2 : (((¬ (0 ≤ a ∧ a < M1 191 1) ∨ ¬ (0 ≤ b ∧ b ≤ 5)) ∧ z2 = -1) ∨ (¬ (¬ (0 ≤ a ∧ a < M1 191 1) ∨ ¬ (0 ≤ b ∧ b ≤ 5)) ∧ (¬ (1 ≤ c ∧ c ≤ 200) ∨ ¬ (-3000 ≤ d ∧ d ≤ M1 191 0)) ∧ z2 = -2)) ∧ pSameM M1 M2 ∨ (¬ (¬ (0 ≤ a ∧ a < M1 191 1) ∨ ¬ (0 ≤ b ∧ b ≤ 5)) ∧ ¬ (¬ (1 ≤ c ∧ c ≤ 200) ∨ ¬ (-3000 ≤ d ∧ d ≤ M1 191 0))) ∧ ((f = 1 ∧ pTellM 4 a b c d g z2 M1 M2) ∨ (f = 0 ∧ pTellM 1 a b c d g z2 M1 M2))) (e1 : ∀ k : Int, M1 191 k = M 191 k) (e2 : ∀ r k : Int, 0 ≤ r → r < 40 → 0 ≤ k → k ≤ 8 → M2 (47 + r) k = M1 (47 + r) k) (n1 : M2 1 11 = M1 1 11) (n2 : M2 1 12 = M1 1 12) : z1 = z2 ∧ M2 1 11 = M2 191 2 ∧ M2 1 12 = M2 191 3 ∧ rl_rkind 1 47 191 M2 ∧ rl_rwho 1 47 191 M2 ∧ rl_rto 1 47 191 M2 ∧ rl_rn 1 47 191 M2 ∧ rl_rweek 1 47 191 M2 ∧ rl_rsure 1 47 191 M2 ∧ rl_proofs 1 47 47 47 191 M2 := by
  have f0 := e1 0
  have f1 := e1 1
  rcases x1 with ⟨h1, t1⟩ | ⟨h1, t1⟩
  · rcases x2 with ⟨h2, t2⟩ | ⟨h2, t2⟩
    · exact ⟨by omega, rel_rsame hr he hB S0 S1 S2 S3 S4 S5 RP t1 t2 e1 e2 n1 n2⟩
    · exfalso; omega
  · rcases x2 with ⟨h2, t2⟩ | ⟨h2, t2⟩
    · exfalso; omega
    · rcases t1 with ⟨y1, t1⟩ | ⟨y1, t1⟩
      · rcases t2 with ⟨y2, t2⟩ | ⟨y2, t2⟩
        · exact rel_tell hr he hB S0 S1 S2 S3 S4 S5 RP t1 t2 e1 e2 n1 n2
        · exfalso; omega
      · rcases t2 with ⟨y2, t2⟩ | ⟨y2, t2⟩
        · exfalso; omega
        · exact rel_tell hr he hB S0 S1 S2 S3 S4 S5 RP t1 t2 e1 e2 n1 n2
theorem rel_rated {M M1 M2 : gM} {a b c d f z1 z2 : Int} (hn : M 1 10 = M 191 1) (hw : M 1 15 = M 191 0) (hr : M 1 11 = M 191 2) (he : M 1 12 = M 191 3) (hB : 0 ≤ M 1 11 ∧ M 1 11 ≤ 40) (S0 : rl_rkind 1 47 191 M) (S1 : rl_rwho 1 47 191 M) (S2 : rl_rto 1 47 191 M) (S3 : rl_rn 1 47 191 M) (S4 : rl_rweek 1 47 191 M) (S5 : rl_rsure 1 47 191 M) (RP : rl_proofs 1 47 47 47 191 M) (x1 : (((¬ (0 ≤ a ∧ a < M 1 10) ∨ ¬ (0 ≤ b ∧ b ≤ 5)) ∧ z1 = -1) ∨ (¬ (¬ (0 ≤ a ∧ a < M 1 10) ∨ ¬ (0 ≤ b ∧ b ≤ 5)) ∧ (¬ (1 ≤ c ∧ c ≤ 9999) ∨ ¬ (-3000 ≤ d ∧ d ≤ M 1 15)) ∧ z1 = -2)) ∧ pSameX M M1 ∨ (¬ (¬ (0 ≤ a ∧ a < M 1 10) ∨ ¬ (0 ≤ b ∧ b ≤ 5)) ∧ ¬ (¬ (1 ≤ c ∧ c ≤ 9999) ∨ ¬ (-3000 ≤ d ∧ d ≤ M 1 15))) ∧ (pTellX 2 a b c d f z1 M M1)) (x2 : (((¬ (0 ≤ a ∧ a < M1 191 1) ∨ ¬ (0 ≤ b ∧ b ≤ 5)) ∧ z2 = -1) ∨ (¬ (¬ (0 ≤ a ∧ a < M1 191 1) ∨ ¬ (0 ≤ b ∧ b ≤ 5)) ∧ (¬ (1 ≤ c ∧ c ≤ 9999) ∨ ¬ (-3000 ≤ d ∧ d ≤ M1 191 0)) ∧ z2 = -2)) ∧ pSameM M1 M2 ∨ (¬ (¬ (0 ≤ a ∧ a < M1 191 1) ∨ ¬ (0 ≤ b ∧ b ≤ 5)) ∧ ¬ (¬ (1 ≤ c ∧ c ≤ 9999) ∨ ¬ (-3000 ≤ d ∧ d ≤ M1 191 0))) ∧ (pTellM 2 a b c d f z2 M1 M2)) (e1 : ∀ k : Int, M1 191 k = M 191 k) (e2 : ∀ r k : Int, 0 ≤ r → r < 40 → 0 ≤ k → k ≤ 8 → M2 (47 + r) k = M1 (47 + r) k) (n1 : M2 1 11 = M1 1 11) (n2 : M2 1 12 = M1 1 12) : z1 = z2 ∧ M2 1 11 = M2 191 2 ∧ M2 1 12 = M2 191 3 ∧ rl_rkind 1 47 191 M2 ∧ rl_rwho 1 47 191 M2 ∧ rl_rto 1 47 191 M2 ∧ rl_rn 1 47 191 M2 ∧ rl_rweek 1 47 191 M2 ∧ rl_rsure 1 47 191 M2 ∧ rl_proofs 1 47 47 47 191 M2 := by
  have f0 := e1 0
  have f1 := e1 1
  rcases x1 with ⟨h1, t1⟩ | ⟨h1, t1⟩
  · rcases x2 with ⟨h2, t2⟩ | ⟨h2, t2⟩
    · exact ⟨by omega, rel_rsame hr he hB S0 S1 S2 S3 S4 S5 RP t1 t2 e1 e2 n1 n2⟩
    · exfalso; omega
  · rcases x2 with ⟨h2, t2⟩ | ⟨h2, t2⟩
    · exfalso; omega
    · exact rel_tell hr he hB S0 S1 S2 S3 S4 S5 RP t1 t2 e1 e2 n1 n2
theorem rel_wed {M M1 M2 : gM} {a b c d z1 z2 : Int} (hn : M 1 10 = M 191 1) (hw : M 1 15 = M 191 0) (RX : rl_sex 1 31 191 M) (hr : M 1 11 = M 191 2) (he : M 1 12 = M 191 3) (hB : 0 ≤ M 1 11 ∧ M 1 11 ≤ 40) (S0 : rl_rkind 1 47 191 M) (S1 : rl_rwho 1 47 191 M) (S2 : rl_rto 1 47 191 M) (S3 : rl_rn 1 47 191 M) (S4 : rl_rweek 1 47 191 M) (S5 : rl_rsure 1 47 191 M) (RP : rl_proofs 1 47 47 47 191 M) (x1 : (((¬ (0 ≤ a ∧ a < M 1 10) ∨ ¬ (0 ≤ b ∧ b < M 1 10)) ∧ z1 = -1) ∨ (¬ (¬ (0 ≤ a ∧ a < M 1 10) ∨ ¬ (0 ≤ b ∧ b < M 1 10)) ∧ (¬ M (31 + a) 0 = 1 ∨ ¬ M (31 + b) 0 = 0 ∨ ¬ (-3000 ≤ c ∧ c ≤ M 1 15)) ∧ z1 = -2)) ∧ pSameX M M1 ∨ (¬ (¬ (0 ≤ a ∧ a < M 1 10) ∨ ¬ (0 ≤ b ∧ b < M 1 10)) ∧ ¬ (¬ M (31 + a) 0 = 1 ∨ ¬ M (31 + b) 0 = 0 ∨ ¬ (-3000 ≤ c ∧ c ≤ M 1 15))) ∧ (pTellX 3 a b 0 c d z1 M M1)) (x2 : (((¬ (0 ≤ a ∧ a < M1 191 1) ∨ ¬ (0 ≤ b ∧ b < M1 191 1)) ∧ z2 = -1) ∨ (¬ (¬ (0 ≤ a ∧ a < M1 191 1) ∨ ¬ (0 ≤ b ∧ b < M1 191 1)) ∧ (¬ M1 191 (a + 80) = 1 ∨ ¬ M1 191 (b + 80) = 0 ∨ ¬ (-3000 ≤ c ∧ c ≤ M1 191 0)) ∧ z2 = -2)) ∧ pSameM M1 M2 ∨ (¬ (¬ (0 ≤ a ∧ a < M1 191 1) ∨ ¬ (0 ≤ b ∧ b < M1 191 1)) ∧ ¬ (¬ M1 191 (a + 80) = 1 ∨ ¬ M1 191 (b + 80) = 0 ∨ ¬ (-3000 ≤ c ∧ c ≤ M1 191 0))) ∧ (pTellM 3 a b 0 c d z2 M1 M2)) (e1 : ∀ k : Int, M1 191 k = M 191 k) (e2 : ∀ r k : Int, 0 ≤ r → r < 40 → 0 ≤ k → k ≤ 8 → M2 (47 + r) k = M1 (47 + r) k) (n1 : M2 1 11 = M1 1 11) (n2 : M2 1 12 = M1 1 12) : z1 = z2 ∧ M2 1 11 = M2 191 2 ∧ M2 1 12 = M2 191 3 ∧ rl_rkind 1 47 191 M2 ∧ rl_rwho 1 47 191 M2 ∧ rl_rto 1 47 191 M2 ∧ rl_rn 1 47 191 M2 ∧ rl_rweek 1 47 191 M2 ∧ rl_rsure 1 47 191 M2 ∧ rl_proofs 1 47 47 47 191 M2 := by
  have f0 := e1 0
  have f1 := e1 1
  have ga : (0 ≤ a ∧ a < M 1 10) → M (31 + a) 0 = M 191 (a + 80) := fun h => RX.2 a h.1 h.2
  have gb : (0 ≤ b ∧ b < M 1 10) → M (31 + b) 0 = M 191 (b + 80) := fun h => RX.2 b h.1 h.2
  have fa := e1 (a + 80)
  have fb := e1 (b + 80)
  rcases x1 with ⟨h1, t1⟩ | ⟨h1, t1⟩
  · rcases x2 with ⟨h2, t2⟩ | ⟨h2, t2⟩
    · exact ⟨by omega, rel_rsame hr he hB S0 S1 S2 S3 S4 S5 RP t1 t2 e1 e2 n1 n2⟩
    · exfalso; omega
  · rcases x2 with ⟨h2, t2⟩ | ⟨h2, t2⟩
    · exfalso; omega
    · exact rel_tell hr he hB S0 S1 S2 S3 S4 S5 RP t1 t2 e1 e2 n1 n2
