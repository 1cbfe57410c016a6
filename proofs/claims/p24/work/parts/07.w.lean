/-- gW through writes that leave its cells alone, but for one new row -/
def gWu (k : Int) : Prop := k = 0 ∨ k = 5 ∨ (80 ≤ k ∧ k < 96) ∨ (128 ≤ k ∧ k < 144) ∨ (256 ≤ k ∧ k < 376) ∨ (2340 ≤ k ∧ k < 2360) ∨ (25000 ≤ k ∧ k < 25301)
theorem gW.rgs {sz : Nat} {M : gM} (I : gI sz M) (hsz : 206 ≤ sz) : (0 ≤ M 191 0 ∧ M 191 0 ≤ 300) ∧ (0 ≤ M 191 1 ∧ M 191 1 ≤ 16) ∧ (0 ≤ M 191 5 ∧ M 191 5 ≤ 20) ∧ (∀ p : Int, 0 ≤ p ∧ p < 16 → -1 ≤ M 191 (p + 128) ∧ M 191 (p + 128) ≤ 15) ∧ (∀ r : Int, 0 ≤ r ∧ r < 40 → (0 ≤ M 191 (r + 296) ∧ M 191 (r + 296) ≤ 15) ∧ (0 ≤ M 191 (r + 336) ∧ M 191 (r + 336) ≤ 15)) := by
  refine ⟨?_, ?_, ?_, fun p hp => ?_, fun r hr => ⟨?_, ?_⟩⟩
  · have h := I 191 0 (by decide) (gsz hsz (by decide)); rw [(rs_NOW (k := 0) (by omega)).1] at h; exact h
  · have h := I 191 1 (by decide) (gsz hsz (by decide)); rw [(rs_PERS (k := 1) (by omega)).1] at h; exact h
  · have h := I 191 5 (by decide) (gsz hsz (by decide)); rw [(rs_NO (k := 5) (by omega)).1] at h; exact h
  · have h := I 191 (p + 128) (by decide) (gsz hsz (by decide)); rw [(rs_FATHER (k := p + 128) (by omega)).1] at h; exact h
  · have h := I 191 (r + 296) (by decide) (gsz hsz (by decide)); rw [(rs_RWHO (k := r + 296) (by omega)).1] at h; exact h
  · have h := I 191 (r + 336) (by decide) (gsz hsz (by decide)); rw [(rs_RTO (k := r + 336) (by omega)).1] at h; exact h
theorem gW.cells {sz : Nat} {M M1 : gM} (W : gW 191 M) (I : gI sz M) (hsz : 206 ≤ sz) (h1 : M1 191 1 = M 191 1) (h : ∀ k : Int, gWu k → M1 191 k = M 191 k) : gW 191 M1 := by
  obtain ⟨g0, g1, g5, gf, gr⟩ := gW.rgs I hsz
  refine ⟨fun p p0 p1 => ?_, fun r r0 r1 => ?_, fun o o0 o1 => ?_, fun w w0 w1 => ?_⟩
  · rw [h1] at p1
    have q := W.1 p p0 p1
    have hf := gf p (by omega)
    rw [h (p + 128) (by unfold gWu; omega)]
    refine ⟨q.1, fun z => ?_⟩
    rw [h (M 191 (p + 128) + 80) (by unfold gWu; omega)]
    exact q.2 z
  · have q := W.2.1 r r0 r1
    have hr := gr r (by omega)
    rw [h (r + 256) (by unfold gWu; omega), h (r + 296) (by unfold gWu; omega), h (r + 336) (by unfold gWu; omega), h1]
    refine ⟨q.1, fun z => ?_⟩
    rw [h (M 191 (r + 336) + 80) (by unfold gWu; omega), h (M 191 (r + 296) + 80) (by unfold gWu; omega)]
    exact q.2 z
  · rw [h 5 (by unfold gWu; omega)] at o1
    rw [h (o + 2340) (by unfold gWu; omega), h1]
    exact W.2.2.1 o o0 o1
  · rw [h 0 (by unfold gWu; omega)] at w1
    rw [h (w + 25000) (by unfold gWu; omega), h1]
    exact W.2.2.2 w w0 w1
/-- an ORDER is written -/
theorem gW.order {sz : Nat} {M M1 : gM} {o p : Int} (W : gW 191 M) (I : gI sz M) (hsz : 206 ≤ sz) (ho : M 191 5 = o) (ho2 : o < 20) (hp : 0 ≤ p ∧ p < M 191 1) (h1 : M1 191 1 = M 191 1) (h5 : M1 191 5 = o + 1) (hw : M1 191 (o + 2340) = p) (h : ∀ k : Int, gWu k → ¬ k = 5 → ¬ k = o + 2340 → M1 191 k = M 191 k) : gW 191 M1 := by
  obtain ⟨g0, g1, g5, gf, gr⟩ := gW.rgs I hsz
  refine ⟨fun p p0 p1 => ?_, fun r r0 r1 => ?_, fun a o0 o1 => ?_, fun w w0 w1 => ?_⟩
  · rw [h1] at p1
    have q := W.1 p p0 p1
    have hf := gf p (by omega)
    rw [h (p + 128) (by unfold gWu; omega) (by omega) (by omega)]
    refine ⟨q.1, fun z => ?_⟩
    rw [h (M 191 (p + 128) + 80) (by unfold gWu; omega) (by omega) (by omega)]
    exact q.2 z
  · have q := W.2.1 r r0 r1
    have hr := gr r (by omega)
    rw [h (r + 256) (by unfold gWu; omega) (by omega) (by omega), h (r + 296) (by unfold gWu; omega) (by omega) (by omega), h (r + 336) (by unfold gWu; omega) (by omega) (by omega), h1]
    refine ⟨q.1, fun z => ?_⟩
    rw [h (M 191 (r + 336) + 80) (by unfold gWu; omega) (by omega) (by omega), h (M 191 (r + 296) + 80) (by unfold gWu; omega) (by omega) (by omega)]
    exact q.2 z
  · rw [h5] at o1
    by_cases g : a = o
    · rw [g, hw, h1]; exact hp.2
    · rw [h (a + 2340) (by unfold gWu; omega) (by omega) (by omega), h1]
      exact W.2.2.1 a o0 (by omega)
  · rw [h 0 (by unfold gWu; omega) (by omega) (by omega)] at w1
    rw [h (w + 25000) (by unfold gWu; omega) (by omega) (by omega), h1]
    exact W.2.2.2 w w0 w1
/-- a PERSON is told -/
theorem gW.person {sz : Nat} {M M1 : gM} {p f : Int} (W : gW 191 M) (I : gI sz M) (hsz : 206 ≤ sz) (hp : M 191 1 = p) (hp2 : p < 16) (hf : f < p ∧ (0 ≤ f → M 191 (f + 80) = 0)) (h1 : M1 191 1 = p + 1) (hw : M1 191 (p + 128) = f) (h : ∀ k : Int, gWu k → ¬ k = p + 80 → ¬ k = p + 128 → M1 191 k = M 191 k) : gW 191 M1 := by
  obtain ⟨g0, g1, g5, gf, gr⟩ := gW.rgs I hsz
  refine ⟨fun a p0 p1 => ?_, fun r r0 r1 => ?_, fun a o0 o1 => ?_, fun w w0 w1 => ?_⟩
  · by_cases g : a = p
    · rw [g, hw]
      refine ⟨hf.1, fun z => ?_⟩
      rw [h (f + 80) (by unfold gWu; omega) (by omega) (by omega)]
      exact hf.2 z
    · have q := W.1 a p0 (by omega)
      have hf := gf a (by omega)
      rw [h (a + 128) (by unfold gWu; omega) (by omega) (by omega)]
      refine ⟨q.1, fun z => ?_⟩
      rw [h (M 191 (a + 128) + 80) (by unfold gWu; omega) (by omega) (by omega)]
      exact q.2 z
  · have q := W.2.1 r r0 r1
    have hr := gr r (by omega)
    rw [h (r + 256) (by unfold gWu; omega) (by omega) (by omega), h (r + 296) (by unfold gWu; omega) (by omega) (by omega), h (r + 336) (by unfold gWu; omega) (by omega) (by omega), h1]
    refine ⟨q.1, fun z => ?_⟩
    have q2 := q.2 z
    rw [hp] at q2
    rw [h (M 191 (r + 336) + 80) (by unfold gWu; omega) (by omega) (by omega), h (M 191 (r + 296) + 80) (by unfold gWu; omega) (by omega) (by omega)]
    exact ⟨by omega, q2.2.1, q2.2.2.1, by omega⟩
  · rw [h 5 (by unfold gWu; omega) (by omega) (by omega)] at o1
    rw [h (a + 2340) (by unfold gWu; omega) (by omega) (by omega), h1]
    have := W.2.2.1 a o0 o1
    omega
  · rw [h 0 (by unfold gWu; omega) (by omega) (by omega)] at w1
    rw [h (w + 25000) (by unfold gWu; omega) (by omega) (by omega), h1]
    have := W.2.2.2 w w0 w1
    omega
/-- a row of RIGHTS is written -/
theorem gW.right {sz : Nat} {M M1 : gM} {r k w t : Int} (W : gW 191 M) (I : gI sz M) (hsz : 206 ≤ sz) (hr0 : 0 ≤ r ∧ r < 40) (hk : (k = 3 ∨ t ≤ 5) ∧ (k = 3 → t < M 191 1 ∧ M 191 (t + 80) = 0 ∧ M 191 (w + 80) = 1 ∧ w < M 191 1)) (ht : 0 ≤ t ∧ t ≤ 15) (hw0 : 0 ≤ w ∧ w ≤ 15) (h1 : M1 191 1 = M 191 1) (hk1 : M1 191 (r + 256) = k) (hw1 : M1 191 (r + 296) = w) (ht1 : M1 191 (r + 336) = t) (h : ∀ k : Int, gWu k → ¬ k = r + 256 → ¬ k = r + 296 → ¬ k = r + 336 → M1 191 k = M 191 k) : gW 191 M1 := by
  obtain ⟨g0, g1, g5, gf, gr⟩ := gW.rgs I hsz
  refine ⟨fun a p0 p1 => ?_, fun a r0 r1 => ?_, fun a o0 o1 => ?_, fun w w0 w1 => ?_⟩
  · rw [h1] at p1
    have q := W.1 a p0 p1
    have hf := gf a (by omega)
    rw [h (a + 128) (by unfold gWu; omega) (by omega) (by omega) (by omega)]
    refine ⟨q.1, fun z => ?_⟩
    rw [h (M 191 (a + 128) + 80) (by unfold gWu; omega) (by omega) (by omega) (by omega)]
    exact q.2 z
  · by_cases g : a = r
    · rw [g, hk1, hw1, ht1, h1]
      refine ⟨hk.1, fun z => ?_⟩
      rw [h (t + 80) (by unfold gWu; omega) (by omega) (by omega) (by omega), h (w + 80) (by unfold gWu; omega) (by omega) (by omega) (by omega)]
      exact hk.2 z
    · have q := W.2.1 a r0 r1
      have hr := gr a (by omega)
      rw [h (a + 256) (by unfold gWu; omega) (by omega) (by omega) (by omega), h (a + 296) (by unfold gWu; omega) (by omega) (by omega) (by omega), h (a + 336) (by unfold gWu; omega) (by omega) (by omega) (by omega), h1]
      refine ⟨q.1, fun z => ?_⟩
      rw [h (M 191 (a + 336) + 80) (by unfold gWu; omega) (by omega) (by omega) (by omega), h (M 191 (a + 296) + 80) (by unfold gWu; omega) (by omega) (by omega) (by omega)]
      exact q.2 z
  · rw [h 5 (by unfold gWu; omega) (by omega) (by omega) (by omega)] at o1
    rw [h (a + 2340) (by unfold gWu; omega) (by omega) (by omega) (by omega), h1]
    exact W.2.2.1 a o0 o1
  · rw [h 0 (by unfold gWu; omega) (by omega) (by omega) (by omega)] at w1
    rw [h (w + 25000) (by unfold gWu; omega) (by omega) (by omega) (by omega), h1]
    exact W.2.2.2 w w0 w1
theorem gW.same {A : Int} {M M1 : gM} (W : gW A M) (h : ∀ b : Int, M1 A b = M A b) : gW A M1 := by
  unfold gW at *
  simp only [h]
  exact W
