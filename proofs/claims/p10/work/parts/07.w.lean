/-- gW through writes that leave its cells alone, but for one new row -/
def gWu (k : Int) : Prop := k = 0 ∨ k = 5 ∨ (80 ≤ k ∧ k < 96) ∨ (128 ≤ k ∧ k < 144) ∨ (256 ≤ k ∧ k < 376) ∨ (2340 ≤ k ∧ k < 2360) ∨ (25000 ≤ k ∧ k < 25301)
theorem gW.rgs {sz : Nat} {M : gM} (I : gI sz M) (hsz : 206 ≤ sz) : (0 ≤ M 191 0 ∧ M 191 0 ≤ 300) ∧ (0 ≤ M 191 1 ∧ M 191 1 ≤ 16) ∧ (0 ≤ M 191 5 ∧ M 191 5 ≤ 20) ∧ (∀ p : Int, 0 ≤ p ∧ p < 16 → -1 ≤ M 191 (p + 128) ∧ M 191 (p + 128) ≤ 15) ∧ (∀ r : Int, 0 ≤ r ∧ r < 40 → (0 ≤ M 191 (r + 296) ∧ M 191 (r + 296) ≤ 15) ∧ (0 ≤ M 191 (r + 336) ∧ M 191 (r + 336) ≤ 15)) := by
  refine ⟨?_, ?_, ?_, fun p hp => ?_, fun r hr => ⟨?_, ?_⟩⟩
  · have h := I 191 0 (by decide) (gsz hsz (by decide)); rw [(rs_NOW (k := 0) (by omega)).1] at h; exact h
  · have h := I 191 1 (by decide) (gsz hsz (by decide)); rw [(rs_PERS (k := 1) (by omega)).1] at h; exact h
  · have h := I 191 5 (by decide) (gsz hsz (by decide)); rw [(rs_NO (k := 5) (by omega)).1] at h; exact h
  · have h := I 191 (p + 128) (by decide) (gsz hsz (by decide)); rw [(rs_FATHER (k := p + 128) (by omega)).1] at h; exact h
  · have h := I 191 (r + 296) (by decide) (gsz hsz (by decide)); rw [(rs_RWHO (k := r + 296) (by omega)).1] at h; exact h
  · have h := I 191 (r + 336) (by decide) (gsz hsz (by decide)); rw [(rs_RTO (k := r + 336) (by omega)).1] at h; exact h
theorem gW.cells {sz : Nat} {M M1 : gM} (W : gW 191 M) (I : gI sz M) (hsz : 206 ≤ sz) (h1 : M1 191 1 = M 191 1) (h : ∀ k : Int, gWu k → M1 191 k = M 191 k) : gW 191 M1 := by
  obtain ⟨g0, g1, g5, gf, gr⟩ := gW.rgs I hsz
  refine ⟨fun p p0 p1 => ?_, fun r r0 r1 => ?_, fun o o0 o1 => ?_, fun w w0 w1 => ?_⟩
  · rw [h1] at p1
    have q := W.1 p p0 p1
    have hf := gf p (by omega)
    rw [h (p + 128) (by unfold gWu; omega)]
    refine ⟨q.1, fun z => ?_⟩
    rw [h (M 191 (p + 128) + 80) (by unfold gWu; omega)]
    exact q.2 z
  · have q := W.2.1 r r0 r1
    have hr := gr r (by omega)
    rw [h (r + 256) (by unfold gWu; omega), h (r + 296) (by unfold gWu; omega), h (r + 336) (by unfold gWu; omega), h1]
    refine ⟨q.1, fun z => ?_⟩
    rw [h (M 191 (r + 336) + 80) (by unfold gWu; omega), h (M 191 (r + 296) + 80) (by unfold gWu; omega)]
    exact q.2 z
  · rw [h 5 (by unfold gWu; omega)] at o1
    rw [h (o + 2340) (by unfold gWu; omega), h1]
    exact W.2.2.1 o o0 o1
  · rw [h 0 (by unfold gWu; omega)] at w1
    rw [h (w + 25000) (by unfold gWu; omega), h1]
    exact W.2.2.2 w w0 w1
/-- an ORDER is written -/
theorem gW.order {sz : Nat} {M M1 : gM} {o p : Int} (W : gW 191 M) (I : gI sz M) (hsz : 206 ≤ sz) (ho : M 191 5 = o) (ho2 : o < 20) (hp : 0 ≤ p ∧ p < M 191 1) (h1 : M1 191 1 = M 191 1) (h5 : M1 191 5 = o + 1) (hw : M1 191 (o + 2340) = p) (h : ∀ k : Int, gWu k → ¬ k = 5 → ¬ k = o + 2340 → M1 191 k = M 191 k) : gW 191 M1 := by
  obtain ⟨g0, g1, g5, gf, gr⟩ := gW.rgs I hsz
  refine ⟨fun p p0 p1 => ?_, fun r r0 r1 => ?_, fun a o0 o1 => ?_, fun w w0 w1 => ?_⟩
  · rw [h1] at p1
    have q := W.1 p p0 p1
    have hf := gf p (by omega)
    rw [h (p + 128) (by unfold gWu; omega) (by omega) (by omega)]
    refine ⟨q.1, fun z => ?_⟩
    rw [h (M 191 (p + 128) + 80) (by unfold gWu; omega) (by omega) (by omega)]
    exact q.2 z
  · have q := W.2.1 r r0 r1
    have hr := gr r (by omega)
    rw [h (r + 256) (by unfold gWu; omega) (by omega) (by omega), h (r + 296) (by unfold gWu; omega) (by omega) (by omega), h (r + 336) (by unfold gWu; omega) (by omega) (by omega), h1]
    refine ⟨q.1, fun z => ?_⟩
    rw [h (M 191 (r + 336) + 80) (by unfold gWu; omega) (by omega) (by omega), h (M 191 (r + 296) + 80) (by unfold gWu; omega) (by omega) (by omega)]
    exact q.2 z
  · rw [h5] at o1
    by_cases g : a = o
    · rw [g, hw, h1]; exact hp.2
    · rw [h (a + 2340) (by unfold gWu; omega) (by omega) (by omega), h1]
      exact W.2.2.1 a o0 (by omega)
  · rw [h 0 (by unfold gWu; omega) (by omega) (by omega)] at w1
    rw [h (w + 25000) (by unfold gWu; omega) (by omega) (by omega), h1]
    exact W.2.2.2 w w0 w1
/-- a PERSON is told -/
theorem gW.person {sz : Nat} {M M1 : gM} {p f : Int} (W : gW 191 M) (I : gI sz M) (hsz : 206 ≤ sz) (hp : M 191 1 = p) (hp2 : p < 16) (hf : f < p ∧ (0 ≤ f → M 191 (f + 80) = 0)) (h1 : M1 191 1 = p + 1) (hw : M1 191 (p + 128) = f) (h : ∀ k : Int, gWu k → ¬ k = p + 80 → ¬ k = p + 128 → M1 191 k = M 191 k) : gW 191 M1 := by
  obtain ⟨g0, g1, g5, gf, gr⟩ := gW.rgs I hsz
  refine ⟨fun a p0 p1 => ?_, fun r r0 r1 => ?_, fun a o0 o1 => ?_, fun w w0 w1 => ?_⟩
  · by_cases g : a = p
    · rw [g, hw]
      refine ⟨hf.1, fun z => ?_⟩
      rw [h (f + 80) (by unfold gWu; omega) (by omega) (by omega)]
      exact hf.2 z
    · have q := W.1 a p0 (by omega)
      have hf := gf a (by omega)
      rw [h (a + 128) (by unfold gWu; omega) (by omega) (by omega)]
      refine ⟨q.1, fun z => ?_⟩
      rw [h (M 191 (a + 128) + 80) (by unfold gWu; omega) (by omega) (by omega)]
      exact q.2 z
  · have q := W.2.1 r r0 r1
    have hr := gr r (by omega)
    rw [h (r + 256) (by unfold gWu; omega) (by omega) (by omega), h (r + 296) (by unfold gWu; omega) (by omega) (by omega), h (r + 336) (by unfold gWu; omega) (by omega) (by omega), h1]
    refine ⟨q.1, fun z => ?_⟩
    have q2 := q.2 z
    rw [hp] at q2
    rw [h (M 191 (r + 336) + 80) (by unfold gWu; omega) (by omega) (by omega), h (M 191 (r + 296) + 80) (by unfold gWu; omega) (by omega) (by omega)]
    exact ⟨by omega, q2.2.1, q2.2.2.1, by omega⟩
  · rw [h 5 (by unfold gWu; omega) (by omega) (by omega)] at o1
    rw [h (a + 2340) (by unfold gWu; omega) (by omega) (by omega), h1]
    have := W.2.2.1 a o0 o1
    omega
  · rw [h 0 (by unfold gWu; omega) (by omega) (by omega)] at w1
    rw [h (w + 25000) (by unfold gWu; omega) (by omega) (by omega), h1]
    have := W.2.2.2 w w0 w1
    omega
/-- a row of RIGHTS is written -/
theorem gW.right {sz : Nat} {M M1 : gM} {r k w t : Int} (W : gW 191 M) (I : gI sz M) (hsz : 206 ≤ sz) (hr0 : 0 ≤ r ∧ r < 40) (hk : (k = 3 ∨ t ≤ 5) ∧ (k = 3 → t < M 191 1 ∧ M 191 (t + 80) = 0 ∧ M 191 (w + 80) = 1 ∧ w < M 191 1)) (ht : 0 ≤ t ∧ t ≤ 15) (hw0 : 0 ≤ w ∧ w ≤ 15) (h1 : M1 191 1 = M 191 1) (hk1 : M1 191 (r + 256) = k) (hw1 : M1 191 (r + 296) = w) (ht1 : M1 191 (r + 336) = t) (h : ∀ k : Int, gWu k → ¬ k = r + 256 → ¬ k = r + 296 → ¬ k = r + 336 → M1 191 k = M 191 k) : gW 191 M1 := by
  obtain ⟨g0, g1, g5, gf, gr⟩ := gW.rgs I hsz
  refine ⟨fun a p0 p1 => ?_, fun a r0 r1 => ?_, fun a o0 o1 => ?_, fun w w0 w1 => ?_⟩
  · rw [h1] at p1
    have q := W.1 a p0 p1
    have hf := gf a (by omega)
    rw [h (a + 128) (by unfold gWu; omega) (by omega) (by omega) (by omega)]
    refine ⟨q.1, fun z => ?_⟩
    rw [h (M 191 (a + 128) + 80) (by unfold gWu; omega) (by omega) (by omega) (by omega)]
    exact q.2 z
  · by_cases g : a = r
    · rw [g, hk1, hw1, ht1, h1]
      refine ⟨hk.1, fun z => ?_⟩
      rw [h (t + 80) (by unfold gWu; omega) (by omega) (by omega) (by omega), h (w + 80) (by unfold gWu; omega) (by omega) (by omega) (by omega)]
      exact hk.2 z
    · have q := W.2.1 a r0 r1
      have hr := gr a (by omega)
      rw [h (a + 256) (by unfold gWu; omega) (by omega) (by omega) (by omega), h (a + 296) (by unfold gWu; omega) (by omega) (by omega) (by omega), h (a + 336) (by unfold gWu; omega) (by omega) (by omega) (by omega), h1]
      refine ⟨q.1, fun z => ?_⟩
      rw [h (M 191 (a + 336) + 80) (by unfold gWu; omega) (by omega) (by omega) (by omega), h (M 191 (a + 296) + 80) (by unfold gWu; omega) (by omega) (by omega) (by omega)]
      exact q.2 z
  · rw [h 5 (by unfold gWu; omega) (by omega) (by omega) (by omega)] at o1
    rw [h (a + 2340) (by unfold gWu; omega) (by omega) (by omega) (by omega), h1]
    exact W.2.2.1 a o0 o1
  · rw [h 0 (by unfold gWu; omega) (by omega) (by omega) (by omega)] at w1
    rw [h (w + 25000) (by unfold gWu; omega) (by omega) (by omega) (by omega), h1]
    exact W.2.2.2 w w0 w1
theorem gW.same {A : Int} {M M1 : gM} (W : gW A M) (h : ∀ b : Int, M1 A b = M A b) : gW A M1 := by
  unfold gW at *
  simp only [h]
  exact W
/-- ways: the shortest by a new road -/
def gN (W : Int → Int) (a b w x y : Int) : Int := if (if W (x * 6 + a) + w + W (b * 6 + y) < W (x * 6 + b) + w + W (a * 6 + y) then W (x * 6 + a) + w + W (b * 6 + y) else W (x * 6 + b) + w + W (a * 6 + y)) < W (x * 6 + y) then (if W (x * 6 + a) + w + W (b * 6 + y) < W (x * 6 + b) + w + W (a * 6 + y) then W (x * 6 + a) + w + W (b * 6 + y) else W (x * 6 + b) + w + W (a * 6 + y)) else W (x * 6 + y)
theorem gN_spec (W : Int → Int) (a b w x y : Int) : gN W a b w x y ≤ W (x * 6 + y) ∧ gN W a b w x y ≤ W (x * 6 + a) + w + W (b * 6 + y) ∧ gN W a b w x y ≤ W (x * 6 + b) + w + W (a * 6 + y) ∧ (gN W a b w x y = W (x * 6 + y) ∨ gN W a b w x y = W (x * 6 + a) + w + W (b * 6 + y) ∨ gN W a b w x y = W (x * 6 + b) + w + W (a * 6 + y)) := by
  unfold gN
  by_cases h1 : W (x * 6 + a) + w + W (b * 6 + y) < W (x * 6 + b) + w + W (a * 6 + y)
  · rw [if_pos h1]
    by_cases h2 : W (x * 6 + a) + w + W (b * 6 + y) < W (x * 6 + y)
    · rw [if_pos h2]; omega
    · rw [if_neg h2]; omega
  · rw [if_neg h1]
    by_cases h2 : W (x * 6 + b) + w + W (a * 6 + y) < W (x * 6 + y)
    · rw [if_pos h2]; omega
    · rw [if_neg h2]; omega
def gMet (W : Int → Int) : Prop := (∀ x : Int, 0 ≤ x → x < 6 → W (x * 6 + x) = 0) ∧ (∀ x y : Int, 0 ≤ x → x < 6 → 0 ≤ y → y < 6 → W (x * 6 + y) = W (y * 6 + x) ∧ 0 ≤ W (x * 6 + y)) ∧ (∀ x y z : Int, 0 ≤ x → x < 6 → 0 ≤ y → y < 6 → 0 ≤ z → z < 6 → W (x * 6 + z) ≤ W (x * 6 + y) + W (y * 6 + z))
theorem gMet.of {W V : Int → Int} (h : gMet W) (e : ∀ b : Int, 0 ≤ b → b < 36 → V b = W b) : gMet V := by
  refine ⟨fun x h0 h1 => ?_, fun x y h0 h1 h2 h3 => ?_, fun x y z h0 h1 h2 h3 h4 h5 => ?_⟩
  · rw [e _ (by omega) (by omega)]; exact h.1 x h0 h1
  · rw [e _ (by omega) (by omega), e (y * 6 + x) (by omega) (by omega)]; exact h.2.1 x y h0 h1 h2 h3
  · rw [e (x * 6 + z) (by omega) (by omega), e (x * 6 + y) (by omega) (by omega), e (y * 6 + z) (by omega) (by omega)]; exact h.2.2 x y z h0 h1 h2 h3 h4 h5
theorem gN_step {W : Int → Int} {a b w x y r1 r2 r3 r4 v : Int} (hm : gMet W) (a0 : 0 ≤ a) (a1 : a < 6) (b0 : 0 ≤ b) (b1 : b < 6) (x0 : 0 ≤ x) (x1 : x < 6) (y0 : 0 ≤ y) (y1 : y < 6) (hw : 1 ≤ w) (q1 : r1 = W (x * 6 + a) ∨ r1 = gN W a b w x a) (q2 : r2 = W (b * 6 + y) ∨ r2 = gN W a b w b y) (q3 : r3 = W (x * 6 + b) ∨ r3 = gN W a b w x b) (q4 : r4 = W (a * 6 + y) ∨ r4 = gN W a b w a y) (hv : (v = r1 + w + r2 ∨ v = r3 + w + r4) ∧ v ≤ r1 + w + r2 ∧ v ≤ r3 + w + r4) : (v < W (x * 6 + y) → v = gN W a b w x y) ∧ (W (x * 6 + y) ≤ v → gN W a b w x y = W (x * 6 + y)) := by
  obtain ⟨mz, ms, mt⟩ := hm
  have za := mz a a0 a1
  have zb := mz b b0 b1
  have nab := (ms a b a0 a1 b0 b1).2
  have nba := (ms b a b0 b1 a0 a1).2
  have n1 := (ms x a x0 x1 a0 a1).2
  have n2 := (ms b y b0 b1 y0 y1).2
  have n3 := (ms x b x0 x1 b0 b1).2
  have n4 := (ms a y a0 a1 y0 y1).2
  have l1 : r1 ≤ W (x * 6 + a) ∧ (W (x * 6 + a) ≤ r1 ∨ W (x * 6 + b) + w ≤ r1) := by
    have s := gN_spec W a b w x a
    rcases q1 with q1 | q1 <;> omega
  have l2 : r2 ≤ W (b * 6 + y) ∧ (W (b * 6 + y) ≤ r2 ∨ w + W (a * 6 + y) ≤ r2) := by
    have s := gN_spec W a b w b y
    rcases q2 with q2 | q2 <;> omega
  have l3 : r3 ≤ W (x * 6 + b) ∧ (W (x * 6 + b) ≤ r3 ∨ W (x * 6 + a) + w ≤ r3) := by
    have s := gN_spec W a b w x b
    rcases q3 with q3 | q3 <;> omega
  have l4 : r4 ≤ W (a * 6 + y) ∧ (W (a * 6 + y) ≤ r4 ∨ w + W (b * 6 + y) ≤ r4) := by
    have s := gN_spec W a b w a y
    rcases q4 with q4 | q4 <;> omega
  have t1 := mt x a y x0 x1 a0 a1 y0 y1
  have t2 := mt x b y x0 x1 b0 b1 y0 y1
  have s := gN_spec W a b w x y
  clear q1 q2 q3 q4 mz ms mt
  constructor
  · intro h; omega
  · intro h; omega
theorem gMet_N {W V : Int → Int} {a b w : Int} (hm : gMet W) (a0 : 0 ≤ a) (a1 : a < 6) (b0 : 0 ≤ b) (b1 : b < 6) (hw : 1 ≤ w) (h : ∀ x y : Int, 0 ≤ x → x < 6 → 0 ≤ y → y < 6 → V (x * 6 + y) = gN W a b w x y) : gMet V := by
  obtain ⟨mz, ms, mt⟩ := hm
  refine ⟨fun x x0 x1 => ?_, fun x y x0 x1 y0 y1 => ?_, fun x y z x0 x1 y0 y1 z0 z1 => ?_⟩
  · rw [h x x x0 x1 x0 x1]
    have s := gN_spec W a b w x x
    have z1 := mz x x0 x1
    have n1 := (ms x a x0 x1 a0 a1).2
    have n2 := (ms b x b0 b1 x0 x1).2
    have n3 := (ms x b x0 x1 b0 b1).2
    have n4 := (ms a x a0 a1 x0 x1).2
    omega
  · rw [h x y x0 x1 y0 y1, h y x y0 y1 x0 x1]
    have s := gN_spec W a b w x y
    have t := gN_spec W a b w y x
    have e0 := ms x y x0 x1 y0 y1
    have e1 := ms x a x0 x1 a0 a1
    have e2 := ms b y b0 b1 y0 y1
    have e3 := ms x b x0 x1 b0 b1
    have e4 := ms a y a0 a1 y0 y1
    omega
  · rw [h x y x0 x1 y0 y1, h y z y0 y1 z0 z1, h x z x0 x1 z0 z1]
    have s := gN_spec W a b w x y
    have t := gN_spec W a b w y z
    have u := gN_spec W a b w x z
    have c1 := mt x y z x0 x1 y0 y1 z0 z1
    have c2 := mt x y a x0 x1 y0 y1 a0 a1
    have c3 := mt x y b x0 x1 y0 y1 b0 b1
    have c4 := mt b y z b0 b1 y0 y1 z0 z1
    have c5 := mt a y z a0 a1 y0 y1 z0 z1
    have c6 := mt x a z x0 x1 a0 a1 z0 z1
    have c7 := mt x b z x0 x1 b0 b1 z0 z1
    have n1 := (ms x a x0 x1 a0 a1).2
    have n2 := (ms b y b0 b1 y0 y1).2
    have n3 := (ms x b x0 x1 b0 b1).2
    have n4 := (ms a y a0 a1 y0 y1).2
    have n5 := (ms y a y0 y1 a0 a1).2
    have n6 := (ms b z b0 b1 z0 z1).2
    have n7 := (ms y b y0 y1 b0 b1).2
    have n8 := (ms a z a0 a1 z0 z1).2
    obtain ⟨s1, s2, s3, s4⟩ := s
    obtain ⟨u1, u2, u3, u4⟩ := u
    obtain ⟨t1, t2, t3, t4⟩ := t
    clear u4 s1 s2 s3 t1 t2 t3
    rcases s4 with s4 | s4 | s4 <;> rcases t4 with t4 | t4 | t4 <;> omega
theorem gN_congr {W V : Int → Int} {a b w x y : Int} (e : ∀ k : Int, 0 ≤ k → k < 36 → V k = W k) (a0 : 0 ≤ a) (a1 : a < 6) (b0 : 0 ≤ b) (b1 : b < 6) (x0 : 0 ≤ x) (x1 : x < 6) (y0 : 0 ≤ y) (y1 : y < 6) : gN V a b w x y = gN W a b w x y := by
  unfold gN
  rw [e (x * 6 + a) (by omega) (by omega), e (b * 6 + y) (by omega) (by omega), e (x * 6 + b) (by omega) (by omega), e (a * 6 + y) (by omega) (by omega), e (x * 6 + y) (by omega) (by omega)]
/-- whether some way became shorter, of the first n ways -/
def gCh (W : Int → Int) (a b w n ch : Int) : Prop := (ch = 1 ∧ ∃ x y : Int, (0 ≤ x ∧ x < 6) ∧ (0 ≤ y ∧ y < 6) ∧ x * 6 + y < n ∧ gN W a b w x y < W (x * 6 + y)) ∨ (ch = 0 ∧ ∀ x y : Int, 0 ≤ x → x < 6 → 0 ≤ y → y < 6 → x * 6 + y < n → gN W a b w x y = W (x * 6 + y))
theorem gCh.z {W : Int → Int} {a b w n ch : Int} (h : n = 0) (hc : ch = 0) : gCh W a b w n ch := Or.inr ⟨hc, fun x y h0 h1 h2 h3 h4 => by omega⟩
theorem gCh.no {W : Int → Int} {a b w n n1 ch x y : Int} (h : gCh W a b w n ch) (x0 : 0 ≤ x) (x1 : x < 6) (y0 : 0 ≤ y) (y1 : y < 6) (hn : n = x * 6 + y) (hn1 : n1 = n + 1) (e : gN W a b w x y = W (x * 6 + y)) : gCh W a b w n1 ch := by
  rcases h with ⟨h, p, q, hp, hq, h1, h2⟩ | ⟨h, h1⟩
  · exact Or.inl ⟨h, p, q, hp, hq, by omega, h2⟩
  · refine Or.inr ⟨h, fun p q p0 p1 q0 q1 g => ?_⟩
    by_cases k : p * 6 + q = x * 6 + y
    · rw [show p = x by omega, show q = y by omega]; exact e
    · exact h1 p q p0 p1 q0 q1 (by omega)
theorem gCh.yes {W : Int → Int} {a b w n1 x y ch : Int} (x0 : 0 ≤ x) (x1 : x < 6) (y0 : 0 ≤ y) (y1 : y < 6) (hn1 : n1 = x * 6 + y + 1) (e : gN W a b w x y < W (x * 6 + y)) (hc : ch = 1) : gCh W a b w n1 ch := Or.inl ⟨hc, x, y, ⟨x0, x1⟩, ⟨y0, y1⟩, by omega, e⟩
theorem gCh.eq {W V : Int → Int} {a b w c1 c2 : Int} (e : ∀ k : Int, 0 ≤ k → k < 36 → V k = W k) (a0 : 0 ≤ a) (a1 : a < 6) (b0 : 0 ≤ b) (b1 : b < 6) (h1 : gCh W a b w 36 c1) (h2 : gCh V a b w 36 c2) : c1 = c2 := by
  rcases h1 with ⟨h1, x, y, hx, hy, _, h⟩ | ⟨h1, h⟩
  · rcases h2 with ⟨h2, _⟩ | ⟨h2, g⟩
    · omega
    · have q := g x y hx.1 hx.2 hy.1 hy.2 (by omega)
      rw [gN_congr e a0 a1 b0 b1 hx.1 hx.2 hy.1 hy.2, e _ (by omega) (by omega)] at q
      omega
  · rcases h2 with ⟨h2, x, y, hx, hy, _, g⟩ | ⟨h2, g⟩
    · have q := h x y hx.1 hx.2 hy.1 hy.2 (by omega)
      rw [gN_congr e a0 a1 b0 b1 hx.1 hx.2 hy.1 hy.2, e _ (by omega) (by omega)] at g
      omega
    · omega
/-- the ways below n are the new ones -/
def gPt (V W : Int → Int) (a b w n : Int) : Prop := ∀ x y : Int, 0 ≤ x → x < 6 → 0 ≤ y → y < 6 → x * 6 + y < n → V (x * 6 + y) = gN W a b w x y
def gRst (V W : Int → Int) (n : Int) : Prop := ∀ k : Int, n ≤ k → k < 36 → V k = W k
theorem gPt.next {V U W : Int → Int} {a b w n n1 x y : Int} (h : gPt V W a b w n) (x0 : 0 ≤ x) (x1 : x < 6) (y0 : 0 ≤ y) (y1 : y < 6) (hn : n = x * 6 + y) (hn1 : n1 = n + 1) (hu : ∀ k : Int, 0 ≤ k → k < n → U k = V k) (e : U (x * 6 + y) = gN W a b w x y) : gPt U W a b w n1 := by
  intro p q p0 p1 q0 q1 g
  by_cases k : p * 6 + q = x * 6 + y
  · rw [show p = x by omega, show q = y by omega]; exact e
  · rw [hu _ (by omega) (by omega)]; exact h p q p0 p1 q0 q1 (by omega)
theorem gPt.or {V W : Int → Int} {a b w n x y : Int} (h : gPt V W a b w n) (r : gRst V W n) (x0 : 0 ≤ x) (x1 : x < 6) (y0 : 0 ≤ y) (y1 : y < 6) : V (x * 6 + y) = W (x * 6 + y) ∨ V (x * 6 + y) = gN W a b w x y := by
  by_cases g : x * 6 + y < n
  · exact Or.inr (h x y x0 x1 y0 y1 g)
  · exact Or.inl (r _ (by omega) (by omega))
theorem gMet_start {W : Int → Int} (h : ∀ i : Int, 0 ≤ i → i < 36 → (i % 7 = 0 → W i = 0) ∧ (¬ i % 7 = 0 → W i = 99)) : gMet W := by
  have c : ∀ x y : Int, 0 ≤ x → x < 6 → 0 ≤ y → y < 6 → (x = y ∧ W (x * 6 + y) = 0) ∨ (¬ x = y ∧ W (x * 6 + y) = 99) := by
    intro x y x0 x1 y0 y1
    have q := h (x * 6 + y) (by omega) (by omega)
    by_cases g : x = y
    · exact Or.inl ⟨g, q.1 (by omega)⟩
    · exact Or.inr ⟨g, q.2 (by omega)⟩
  refine ⟨fun x x0 x1 => ?_, fun x y x0 x1 y0 y1 => ?_, fun x y z x0 x1 y0 y1 z0 z1 => ?_⟩
  · have := c x x x0 x1 x0 x1; omega
  · have := c x y x0 x1 y0 y1; have := c y x y0 y1 x0 x1; omega
  · have := c x y x0 x1 y0 y1; have := c y z y0 y1 z0 z1; have := c x z x0 x1 z0 z1; omega
