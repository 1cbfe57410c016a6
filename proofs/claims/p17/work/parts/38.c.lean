/-- bit k of a mask; the mask that has k alone; a mask with k more -/
def gBv (m k : Int) : Int := if m.toNat.testBit k.toNat = true then 1 else 0
def gTw (k : Int) : Int := ((2 ^ k.toNat : Nat) : Int)
def gOr (f k : Int) : Int := ((f.toNat ||| 2 ^ k.toNat : Nat) : Int)
theorem gBv_r (m k : Int) : 0 ≤ gBv m k ∧ gBv m k ≤ 1 := by
  unfold gBv
  by_cases h : m.toNat.testBit k.toNat = true
  · rw [if_pos h]; decide
  · rw [if_neg h]; decide
theorem gBv_1 {m k : Int} : gBv m k = 1 ↔ m.toNat.testBit k.toNat = true := by
  unfold gBv
  by_cases h : m.toNat.testBit k.toNat = true
  · rw [if_pos h]; exact ⟨fun _ => h, fun _ => rfl⟩
  · rw [if_neg h]; exact ⟨fun q => absurd q (by decide), fun q => absurd q h⟩
theorem gi_fin {n : Nat} {a : Int} (h : 0 ≤ a ∧ a < (n : Int)) : ∃ k : Fin n, ((k.val : Nat) : Int) = a ∧ k.val = a.toNat := ⟨⟨a.toNat, by omega⟩, Int.toNat_of_nonneg h.1, rfl⟩
theorem gi_bit {m k v : Int} (hm : 0 ≤ m ∧ m ≤ 1023) (hk : 0 ≤ k ∧ k ≤ 9) (xv : Int32.ofInt m >>> (Int32.ofInt k &&& 31) = Int32.ofInt v) : Int32.ofInt v &&& Int32.ofInt 1 = Int32.ofInt (gBv m k) := by
  have q : ∀ m : Fin 1024, ∀ k : Fin 10, (Int32.ofInt ((m.val : Nat) : Int) >>> (Int32.ofInt ((k.val : Nat) : Int) &&& 31)) &&& Int32.ofInt 1 = Int32.ofInt (if m.val.testBit k.val = true then 1 else 0) := by decide +kernel
  obtain ⟨fm, e1, e2⟩ := gi_fin (n := 1024) (a := m) ⟨hm.1, by omega⟩
  obtain ⟨fk, e3, e4⟩ := gi_fin (n := 10) (a := k) ⟨hk.1, by omega⟩
  have g := q fm fk
  rw [e1, e3, e2, e4, xv] at g
  exact g
theorem gi_tw {k : Int} (hk : 0 ≤ k ∧ k ≤ 9) : Int32.ofInt 1 <<< (Int32.ofInt k &&& 31) = Int32.ofInt (gTw k) := by
  have q : ∀ k : Fin 10, Int32.ofInt 1 <<< (Int32.ofInt ((k.val : Nat) : Int) &&& 31) = Int32.ofInt ((2 ^ k.val : Nat) : Int) := by decide +kernel
  obtain ⟨fk, e3, e4⟩ := gi_fin (n := 10) (a := k) ⟨hk.1, by omega⟩
  have g := q fk
  rw [e3, e4] at g
  exact g
theorem gi_gor {f k : Int} (hf : 0 ≤ f ∧ f ≤ 1023) (hk : 0 ≤ k ∧ k ≤ 9) : Int32.ofInt f ||| Int32.ofInt (gTw k) = Int32.ofInt (gOr f k) := by
  have q : ∀ m : Fin 1024, ∀ k : Fin 10, Int32.ofInt ((m.val : Nat) : Int) ||| Int32.ofInt ((2 ^ k.val : Nat) : Int) = Int32.ofInt ((m.val ||| 2 ^ k.val : Nat) : Int) := by decide +kernel
  obtain ⟨fm, e1, e2⟩ := gi_fin (n := 1024) (a := f) ⟨hf.1, by omega⟩
  obtain ⟨fk, e3, e4⟩ := gi_fin (n := 10) (a := k) ⟨hk.1, by omega⟩
  have g := q fm fk
  rw [e1, e2, e4] at g
  exact g
theorem gTw_r {k : Int} (hk : 0 ≤ k ∧ k ≤ 9) : 1 ≤ gTw k ∧ gTw k ≤ 512 := by
  rcases gW10 hk with rfl | rfl | rfl | rfl | rfl | rfl | rfl | rfl | rfl | rfl <;> decide
theorem gOr_r {f k : Int} (hf : 0 ≤ f ∧ f ≤ 1023) (hk : 0 ≤ k ∧ k ≤ 9) : 0 ≤ gOr f k ∧ gOr f k ≤ 1023 := by
  have h : f.toNat ||| 2 ^ k.toNat < 2 ^ 10 := Nat.or_lt_two_pow (by omega) (Nat.pow_lt_pow_right (by decide) (by omega))
  unfold gOr
  omega
theorem gBv_or {f k j : Int} (hk : 0 ≤ k) (hj : 0 ≤ j) : gBv (gOr f k) j = 1 ↔ gBv f j = 1 ∨ k = j := by
  rw [gBv_1, gBv_1]
  unfold gOr
  rw [Int.toNat_natCast, Nat.testBit_or, Nat.testBit_two_pow, Bool.or_eq_true, decide_eq_true_eq]
  constructor
  · rintro (h | h)
    · exact Or.inl h
    · exact Or.inr (by omega)
  · rintro (h | h)
    · exact Or.inl h
    · exact Or.inr (by omega)
theorem gBv_tw {k j : Int} (hk : 0 ≤ k) (hj : 0 ≤ j) : gBv (gTw k) j = 1 ↔ k = j := by
  rw [gBv_1]
  unfold gTw
  rw [Int.toNat_natCast, Nat.testBit_two_pow, decide_eq_true_eq]
  omega
theorem gBv_z {j : Int} : ¬ gBv 0 j = 1 := by
  rw [gBv_1]
  show ¬ (0 : Nat).testBit j.toNat = true
  rw [Nat.zero_testBit]
  decide
theorem gBv_ext {f g : Int} (hf : 0 ≤ f ∧ f ≤ 1023) (hg : 0 ≤ g ∧ g ≤ 1023) (h : ∀ j : Int, 0 ≤ j → j ≤ 9 → (gBv f j = 1 ↔ gBv g j = 1)) : f = g := by
  have e : f.toNat = g.toNat := by
    refine Nat.eq_of_testBit_eq (fun i => ?_)
    by_cases c : i ≤ 9
    · have q := h (i : Int) (by omega) (by omega)
      rw [gBv_1, gBv_1, Int.toNat_natCast] at q
      cases hx : f.toNat.testBit i with
      | true => exact (q.mp hx).symm
      | false =>
        cases hy : g.toNat.testBit i with
        | true => exact absurd (q.mpr hy) (by rw [hx]; decide)
        | false => rfl
    · have p : 2 ^ 10 ≤ 2 ^ i := Nat.pow_le_pow_right (by decide) (by omega)
      have p10 : 2 ^ 10 = 1024 := by decide
      rw [Nat.testBit_lt_two_pow (show f.toNat < 2 ^ i by omega), Nat.testBit_lt_two_pow (show g.toNat < 2 ^ i by omega)]
  omega
/-- the mask behind n signs; the mask under way, words ahead of k -/
def gOm (T : Int → Int) (p n m : Int) : Prop := (0 ≤ m ∧ m ≤ 1023) ∧ ∀ j : Int, 0 ≤ j → j ≤ 9 → (gBv m j = 1 ↔ n ≤ gPx T p j)
def gOl (T : Int → Int) (p n k f : Int) : Prop := (0 ≤ f ∧ f ≤ 1023) ∧ ∀ j : Int, 0 ≤ j → j ≤ 9 → (gBv f j = 1 ↔ j < k ∧ n + 1 ≤ gPx T p j)
theorem gOm_0 {T : Int → Int} {p : Int} : gOm T p 0 1023 := by
  refine ⟨by decide, fun j h0 h1 => ?_⟩
  have x := gPx_s (T := T) (p := p) ⟨h0, h1⟩
  refine ⟨fun _ => x.1, fun _ => ?_⟩
  rcases gW10 ⟨h0, h1⟩ with rfl | rfl | rfl | rfl | rfl | rfl | rfl | rfl | rfl | rfl <;> decide
theorem gOl_0 {T : Int → Int} {p n : Int} : gOl T p n 0 0 := ⟨by decide, fun j h0 h1 => ⟨fun q => absurd q gBv_z, fun q => by omega⟩⟩
theorem gOl.no {T : Int → Int} {p n k f k1 f1 : Int} (h : gOl T p n k f) (hn : ¬ n + 1 ≤ gPx T p k) (e : k1 = k + 1) (ef : f1 = f) : gOl T p n k1 f1 := by
  subst ef
  refine ⟨h.1, fun j h0 h1 => ?_⟩
  have q := h.2 j h0 h1
  constructor
  · intro g
    have := q.mp g
    omega
  · intro g
    refine q.mpr ⟨?_, g.2⟩
    by_cases c : j = k
    · rw [c] at g; exact absurd g.2 hn
    · omega
theorem gOl.yes {T : Int → Int} {p n k f k1 : Int} (h : gOl T p n k f) (hk : 0 ≤ k ∧ k ≤ 9) (hn : n + 1 ≤ gPx T p k) (e : k1 = k + 1) : gOl T p n k1 (gOr f k) := by
  refine ⟨gOr_r h.1 hk, fun j h0 h1 => ?_⟩
  have q := h.2 j h0 h1
  rw [gBv_or hk.1 h0]
  constructor
  · rintro (g | g)
    · have := q.mp g
      omega
    · rw [← g]; omega
  · intro g
    by_cases c : j = k
    · exact Or.inr c.symm
    · exact Or.inl (q.mpr ⟨by omega, g.2⟩)
theorem gOl.om {T : Int → Int} {p n k f n1 : Int} (h : gOl T p n k f) (hk : 10 ≤ k) (e : n1 = n + 1) : gOm T p n1 f := by
  refine ⟨h.1, fun j h0 h1 => ?_⟩
  rw [h.2 j h0 h1, e]
  exact ⟨fun q => q.2, fun q => ⟨by omega, q⟩⟩
theorem gOl.z {T : Int → Int} {p n k f : Int} (h : gOl T p n k f) (hk : 10 ≤ k) (hf : f = 0) : ∀ j : Int, 0 ≤ j → j ≤ 9 → ¬ n + 1 ≤ gPx T p j := by
  intro j h0 h1 g
  have q := (h.2 j h0 h1).mpr ⟨by omega, g⟩
  rw [hf] at q
  exact gBv_z q
theorem gOl.some {T : Int → Int} {p n k f : Int} (h : gOl T p n k f) (hf : ¬ f = 0) : ∃ j : Int, 0 ≤ j ∧ j ≤ 9 ∧ n + 1 ≤ gPx T p j := by
  by_cases c : ∃ j : Int, 0 ≤ j ∧ j ≤ 9 ∧ n + 1 ≤ gPx T p j
  · exact c
  · exfalso
    refine hf (gBv_ext h.1 (by decide) (fun j h0 h1 => ?_))
    constructor
    · intro g
      exact absurd ⟨j, h0, h1, ((h.2 j h0 h1).mp g).2⟩ c
    · intro g; exact absurd g gBv_z
/-- what stands at the head of the reference's loop over signs -/
def gOh (T : Int → Int) (p n m : Int) : Prop := gOm T p n m ∧ (∃ k : Int, 0 ≤ k ∧ k ≤ 9 ∧ n ≤ gPx T p k) ∧ (∀ k : Int, 0 ≤ k → k ≤ 9 → n ≤ gPx T p k → n < gWn k)
theorem gOh_0 {T : Int → Int} {p : Int} : gOh T p 0 1023 := ⟨gOm_0, ⟨0, by decide, by decide, (gPx_s (T := T) (p := p) (k := 0) (by decide)).1⟩, fun k h0 h1 _ => by have := gWn_r ⟨h0, h1⟩; omega⟩
theorem gOh.n {T : Int → Int} {p n m : Int} (h : gOh T p n m) : n ≤ 5 := by
  obtain ⟨k, k0, k1, k2⟩ := h.2.1
  have a := h.2.2 k k0 k1 k2
  have b := gWn_r ⟨k0, k1⟩
  omega
/-- one sign more -/
theorem gPx_step {T : Int → Int} {p k n : Int} (hk : 0 ≤ k ∧ k ≤ 9) (h0 : 0 ≤ n) : n + 1 ≤ gPx T p k ↔ n ≤ gPx T p k ∧ n < gWn k ∧ T (p + n) = gWc k n := by
  obtain ⟨a, b, c, d⟩ := gPx_s (T := T) (p := p) hk
  constructor
  · intro h
    exact ⟨by omega, by omega, c n h0 (by omega)⟩
  · rintro ⟨h1, h2, h3⟩
    by_cases e : n + 1 ≤ gPx T p k
    · exact e
    · rcases d with d | d
      · omega
      · rw [show gPx T p k = n by omega] at d
        exact absurd h3 d
theorem gOh.bad {T : Int → Int} {p n m k f q : Int} (h : gOh T p n m) (h0 : 0 ≤ n) (l : gOl T p n k f) (hk : 10 ≤ k) (hf : f = 0) (hq : q = p + n) : gWrd T p = (-1, q) := by
  have z := l.z hk hf
  rw [hq]
  refine gWrd_no (fun j j0 j1 => ?_) ?_
  · have a := z j j0 j1
    refine ⟨by omega, fun g => ?_⟩
    have x := gPx_s (T := T) (p := p) ⟨j0, j1⟩
    by_cases c : n ≤ gPx T p j
    · have := h.2.2 j j0 j1 c; omega
    · obtain ⟨i, i0, i1, i2⟩ := h.2.1
      have hi := h.2.2 i i0 i1 i2
      have xi := gPx_s (T := T) (p := p) ⟨i0, i1⟩
      by_cases e : i = j
      · rw [e] at i2; exact c i2
      · have hm : gMt T p j (gWn j - 1) := gMt_le x.2.2.1 (by omega)
        have o := gPx_other (T := T) (p := p) (k := i) (w := j) ⟨i0, i1⟩ ⟨j0, j1⟩ e hm
        omega
  · obtain ⟨i, i0, i1, i2⟩ := h.2.1
    have a := z i i0 i1
    exact Or.inr ⟨i, i0, i1, by omega⟩
theorem gOw_ok {T : Int → Int} {p n m k q : Int} (h : gOm T p n m) (hk : 0 ≤ k ∧ k ≤ 9) (hm : m = gTw k) (hn : gWn k = n) (hq : q = p + n) : gWrd T p = (k, q) := by
  have g := (h.2 k hk.1 hk.2).mp (by rw [hm, gBv_tw hk.1 hk.1])
  have x := gPx_s (T := T) (p := p) hk
  rw [gWrd_ok hk (gMt_le x.2.2.1 (by omega)), hq, hn]
/-- no word ends behind n signs -/
def gOn (n m k : Int) : Prop := ∀ j : Int, 0 ≤ j → j < k → ¬ (m = gTw j ∧ gWn j = n)
theorem gOn_0 {n m : Int} : gOn n m 0 := fun j h0 h1 => by omega
theorem gOn.step {n m k k1 : Int} (h : gOn n m k) (hn : ¬ (m = gTw k ∧ gWn k = n)) (e : k1 = k + 1) : gOn n m k1 := by
  intro j h0 h1
  by_cases c : j = k
  · rw [c]; exact hn
  · exact h j h0 (by omega)
theorem gOh_next {T : Int → Int} {p n k f k1 n1 : Int} (l : gOl T p n k f) (hk : 10 ≤ k) (hf : ¬ f = 0) (hn : gOn n1 f k1) (hk1 : 10 ≤ k1) (e : n1 = n + 1) : gOh T p n1 f := by
  have o := l.om hk e
  obtain ⟨j, j0, j1, j2⟩ := l.some hf
  refine ⟨o, ⟨j, j0, j1, by omega⟩, fun i i0 i1 i2 => ?_⟩
  have x := gPx_s (T := T) (p := p) ⟨i0, i1⟩
  by_cases c : n1 < gWn i
  · exact c
  · exfalso
    have hw : gWn i = n1 := by omega
    have hm : gMt T p i (gWn i - 1) := gMt_le x.2.2.1 (by omega)
    refine hn i i0 (by omega) ⟨?_, hw⟩
    have rt := gTw_r ⟨i0, i1⟩
    refine gBv_ext o.1 (by omega) (fun t t0 t1 => ?_)
    rw [o.2 t t0 t1, gBv_tw i0 t0]
    constructor
    · intro g
      by_cases q : i = t
      · exact q
      · have := gPx_other (T := T) (p := p) (k := t) (w := i) ⟨t0, t1⟩ ⟨i0, i1⟩ (by omega) hm
        omega
    · intro g; rw [← g]; exact i2
