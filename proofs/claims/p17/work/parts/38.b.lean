/-- the ten words, each with its blank -/
def gWds : List (List Int) := [[104, 105, 114, 101, 100, 32], [114, 97, 116, 101, 100, 32], [100, 105, 101, 116, 32], [102, 101, 97, 114, 32], [98, 105, 110, 100, 32], [119, 101, 100, 32], [107, 105, 110, 32], [115, 104, 97, 114, 101, 32], [103, 105, 118, 101, 32], [119, 97, 114, 100, 32]]
def gWl (k : Int) : List Int := gWds.getD k.toNat []
/-- a word's size, its blank told too, and its signs -/
def gWn (k : Int) : Int := ((gWl k).length : Int)
def gWc (k j : Int) : Int := (gWl k).getD j.toNat (-7)
theorem gW10 {k : Int} (h : 0 ≤ k ∧ k ≤ 9) : k = 0 ∨ k = 1 ∨ k = 2 ∨ k = 3 ∨ k = 4 ∨ k = 5 ∨ k = 6 ∨ k = 7 ∨ k = 8 ∨ k = 9 := by omega
theorem gWn_r {k : Int} (h : 0 ≤ k ∧ k ≤ 9) : 4 ≤ gWn k ∧ gWn k ≤ 6 := by
  rcases gW10 h with rfl | rfl | rfl | rfl | rfl | rfl | rfl | rfl | rfl | rfl <;> decide
/-- the blank stands last, and there alone -/
theorem gWc_last {k : Int} (h : 0 ≤ k ∧ k ≤ 9) : gWc k (gWn k - 1) = 32 := by
  rcases gW10 h with rfl | rfl | rfl | rfl | rfl | rfl | rfl | rfl | rfl | rfl <;> decide
/-- two words part ahead of the end of both -/
theorem gW_part {k w : Int} (h : 0 ≤ k ∧ k ≤ 9) (h2 : 0 ≤ w ∧ w ≤ 9) (hn : ¬ k = w) : ∃ j : Int, 0 ≤ j ∧ j < gWn k - 1 ∧ j < gWn w - 1 ∧ ¬ gWc k j = gWc w j := by
  have q : ∀ a : Fin 10, ∀ b : Fin 10, ¬ a = b → ∃ j : Fin 3, ((j.val : Nat) : Int) < gWn (a.val : Int) - 1 ∧ ((j.val : Nat) : Int) < gWn (b.val : Int) - 1 ∧ ¬ gWc (a.val : Int) (j.val : Int) = gWc (b.val : Int) (j.val : Int) := by decide +kernel
  obtain ⟨j, j1, j2, j3⟩ := q ⟨k.toNat, by omega⟩ ⟨w.toNat, by omega⟩ (by intro e; have e2 := congrArg Fin.val e; have e3 : k.toNat = w.toNat := e2; omega)
  have ek : ((k.toNat : Nat) : Int) = k := by omega
  have ew : ((w.toNat : Nat) : Int) = w := by omega
  rw [show (((⟨k.toNat, by omega⟩ : Fin 10).val : Nat) : Int) = k from ek] at j1 j3
  rw [show (((⟨w.toNat, by omega⟩ : Fin 10).val : Nat) : Int) = w from ew] at j2 j3
  exact ⟨(j.val : Int), by omega, j1, j2, j3⟩
/-- the first n signs of word k stand at p -/
def gMt (T : Int → Int) (p k n : Int) : Prop := ∀ i : Int, 0 ≤ i → i < n → T (p + i) = gWc k i
theorem gMt_0 {T : Int → Int} {p k : Int} : gMt T p k 0 := fun i h0 h1 => by omega
theorem gMt_s {T : Int → Int} {p k n c : Int} (h : gMt T p k n) (hc : T (p + n) = c) (hk : gWc k n = c) : gMt T p k (n + 1) := by
  intro i h0 h1
  by_cases e : i = n
  · rw [e, hc, hk]
  · exact h i h0 (by omega)
theorem gMt_le {T : Int → Int} {p k n m : Int} (h : gMt T p k n) (hm : m ≤ n) : gMt T p k m := fun i h0 h1 => h i h0 (by omega)
/-- how many signs of word k stand at p -/
def gPf (T : Int → Int) (p k : Int) : Nat → Int → Int
  | 0, j => j
  | f + 1, j => if T (p + j) = gWc k j then gPf T p k f (j + 1) else j
def gPx (T : Int → Int) (p k : Int) : Int := gPf T p k (gWn k).toNat 0
theorem gPf_s {T : Int → Int} {p k : Int} : ∀ (f : Nat) (j : Int), 0 ≤ j → gMt T p k j → j ≤ gPf T p k f j ∧ gPf T p k f j ≤ j + f ∧ gMt T p k (gPf T p k f j) ∧ (gPf T p k f j = j + f ∨ ¬ T (p + gPf T p k f j) = gWc k (gPf T p k f j))
  | 0, j, h0, h => ⟨Int.le_refl _, by show j ≤ j + ((0 : Nat) : Int); omega, h, Or.inl (by show j = j + ((0 : Nat) : Int); omega)⟩
  | f + 1, j, h0, h => by
    unfold gPf
    by_cases e : T (p + j) = gWc k j
    · rw [if_pos e]
      obtain ⟨a, b, c, d⟩ := gPf_s f (j + 1) (by omega) (gMt_s h e rfl)
      refine ⟨by omega, by omega, c, ?_⟩
      rcases d with d | d
      · left; omega
      · exact Or.inr d
    · rw [if_neg e]
      exact ⟨Int.le_refl _, by omega, h, Or.inr e⟩
theorem gPx_s {T : Int → Int} {p k : Int} (hk : 0 ≤ k ∧ k ≤ 9) : 0 ≤ gPx T p k ∧ gPx T p k ≤ gWn k ∧ gMt T p k (gPx T p k) ∧ (gPx T p k = gWn k ∨ ¬ T (p + gPx T p k) = gWc k (gPx T p k)) := by
  have n := gWn_r hk
  obtain ⟨a, b, c, d⟩ := gPf_s (T := T) (p := p) (k := k) (gWn k).toNat 0 (by decide) gMt_0
  have e : gPx T p k = gPf T p k (gWn k).toNat 0 := rfl
  rw [← e] at a b c d
  refine ⟨a, by omega, c, ?_⟩
  rcases d with d | d
  · left; omega
  · exact Or.inr d
theorem gPx_ge {T : Int → Int} {p k m : Int} (hk : 0 ≤ k ∧ k ≤ 9) (h : gMt T p k m) (hm : m ≤ gWn k) : m ≤ gPx T p k := by
  obtain ⟨a, b, c, d⟩ := gPx_s (T := T) (p := p) hk
  by_cases e : m ≤ gPx T p k
  · exact e
  · rcases d with d | d
    · omega
    · exact absurd (h (gPx T p k) a (by omega)) d
theorem gPx_of {T : Int → Int} {p k n : Int} (hk : 0 ≤ k ∧ k ≤ 9) (h0 : 0 ≤ n) (hn : n ≤ gWn k) (h : gMt T p k n) (he : n = gWn k ∨ ¬ T (p + n) = gWc k n) : gPx T p k = n := by
  obtain ⟨a, b, c, d⟩ := gPx_s (T := T) (p := p) hk
  have g := gPx_ge hk h hn
  by_cases e : gPx T p k = n
  · exact e
  · rcases he with he | he
    · omega
    · exact absurd (c n h0 (by omega)) he
/-- where word w stands, its blank aside, no other word stands so far -/
theorem gPx_other {T : Int → Int} {p k w : Int} (hk : 0 ≤ k ∧ k ≤ 9) (hw : 0 ≤ w ∧ w ≤ 9) (hn : ¬ k = w) (h : gMt T p w (gWn w - 1)) : gPx T p k < gWn w - 1 ∧ gPx T p k < gWn k - 1 := by
  obtain ⟨j, j0, j1, j2, j3⟩ := gW_part hk hw hn
  obtain ⟨a, b, c, d⟩ := gPx_s (T := T) (p := p) hk
  by_cases e : gPx T p k ≤ j
  · omega
  · exact absurd ((c j j0 (by omega)).symm.trans (h j j0 j2)) j3
/-- the most signs of a word ahead of n that stand at p -/
def gMx (T : Int → Int) (p : Int) : Nat → Int
  | 0 => 0
  | n + 1 => if gMx T p n < gPx T p (n : Int) then gPx T p (n : Int) else gMx T p n
theorem gMx_s {T : Int → Int} {p : Int} : ∀ n : Nat, n ≤ 10 → (0 ≤ gMx T p n ∧ gMx T p n ≤ 6) ∧ (∀ k : Int, 0 ≤ k → k < (n : Int) → gPx T p k ≤ gMx T p n) ∧ (gMx T p n = 0 ∨ ∃ k : Int, 0 ≤ k ∧ k < (n : Int) ∧ gPx T p k = gMx T p n)
  | 0, _ => ⟨⟨Int.le_refl _, (by decide : (0 : Int) ≤ 6)⟩, fun k h0 h1 => by omega, Or.inl rfl⟩
  | n + 1, hn => by
    obtain ⟨a, b, c⟩ := gMx_s (T := T) (p := p) n (by omega)
    have x := gPx_s (T := T) (p := p) (k := (n : Int)) ⟨by omega, by omega⟩
    have y := gWn_r (k := (n : Int)) ⟨by omega, by omega⟩
    unfold gMx
    by_cases e : gMx T p n < gPx T p (n : Int)
    · rw [if_pos e]
      refine ⟨⟨by omega, by omega⟩, fun k h0 h1 => ?_, Or.inr ⟨(n : Int), by omega, by omega, rfl⟩⟩
      by_cases g : k = (n : Int)
      · rw [g]; exact Int.le_refl _
      · have := b k h0 (by omega); omega
    · rw [if_neg e]
      refine ⟨a, fun k h0 h1 => ?_, ?_⟩
      · by_cases g : k = (n : Int)
        · rw [g]; omega
        · exact b k h0 (by omega)
      · rcases c with c | ⟨k, c0, c1, c2⟩
        · exact Or.inl c
        · exact Or.inr ⟨k, c0, by omega, c2⟩
theorem gMx_of {T : Int → Int} {p m : Int} (hb : ∀ k : Int, 0 ≤ k → k ≤ 9 → gPx T p k ≤ m) (hm : m = 0 ∨ ∃ k : Int, 0 ≤ k ∧ k ≤ 9 ∧ gPx T p k = m) : gMx T p 10 = m := by
  obtain ⟨a, b, c⟩ := gMx_s (T := T) (p := p) 10 (by decide)
  rcases c with c | ⟨k, c0, c1, c2⟩
  · rcases hm with hm | ⟨k, k0, k1, k2⟩
    · omega
    · have g := b k k0 (by omega)
      have x := gPx_s (T := T) (p := p) ⟨k0, k1⟩
      omega
  · have g := hb k c0 (by omega)
    rcases hm with hm | ⟨j, k0, k1, k2⟩
    · have x := gPx_s (T := T) (p := p) (k := k) ⟨c0, by omega⟩
      omega
    · have g2 := b j k0 (by omega)
      omega
/-- the first word that stands at p, blank and all (none: -1) -/
def gWf (T : Int → Int) (p : Int) : Nat → Int → Int
  | 0, _ => -1
  | f + 1, k => if gPx T p k = gWn k then k else gWf T p f (k + 1)
theorem gWf_at {T : Int → Int} {p w : Int} : ∀ (f : Nat) (k : Int), (f : Int) = 10 - k → 0 ≤ k → k ≤ w → w ≤ 9 → (∀ j : Int, k ≤ j → j < w → ¬ gPx T p j = gWn j) → gPx T p w = gWn w → gWf T p f k = w
  | 0, k, h, h0, h1, h2, _, _ => by omega
  | f + 1, k, h, h0, h1, h2, h3, h4 => by
    unfold gWf
    by_cases e : k = w
    · rw [e, if_pos h4]
    · rw [if_neg (h3 k (Int.le_refl _) (by omega))]
      exact gWf_at f (k + 1) (by omega) (by omega) (by omega) h2 (fun j q => h3 j (by omega)) h4
theorem gWf_no {T : Int → Int} {p : Int} : ∀ (f : Nat) (k : Int), (f : Int) = 10 - k → 0 ≤ k → (∀ j : Int, k ≤ j → j ≤ 9 → ¬ gPx T p j = gWn j) → gWf T p f k = -1
  | 0, k, h, h0, _ => rfl
  | f + 1, k, h, h0, h3 => by
    unfold gWf
    rw [if_neg (h3 k (Int.le_refl _) (by omega))]
    exact gWf_no f (k + 1) (by omega) (by omega) (fun j q => h3 j (by omega))
/-- a word and the place behind its blank; none: -1 and the place of the fault -/
def gWrd (T : Int → Int) (p : Int) : Int × Int := if gWf T p 10 0 < 0 then (-1, p + gMx T p 10) else (gWf T p 10 0, p + gWn (gWf T p 10 0))
theorem gWrd_ok {T : Int → Int} {p w : Int} (hw : 0 ≤ w ∧ w ≤ 9) (h : gMt T p w (gWn w)) : gWrd T p = (w, p + gWn w) := by
  have n := gWn_r hw
  have e : gPx T p w = gWn w := gPx_of hw (by omega) (Int.le_refl _) h (Or.inl rfl)
  have g : gWf T p 10 0 = w := gWf_at 10 0 (by decide) (by decide) hw.1 hw.2 (fun j j0 j1 => by
    have := (gPx_other (T := T) (p := p) (k := j) ⟨j0, by omega⟩ hw (by omega) (gMt_le h (by omega))).2
    omega) e
  unfold gWrd
  rw [g, if_neg (by omega)]
theorem gWrd_no {T : Int → Int} {p n : Int} (hb : ∀ k : Int, 0 ≤ k → k ≤ 9 → gPx T p k ≤ n ∧ ¬ gPx T p k = gWn k) (hm : n = 0 ∨ ∃ k : Int, 0 ≤ k ∧ k ≤ 9 ∧ gPx T p k = n) : gWrd T p = (-1, p + n) := by
  have g : gWf T p 10 0 = -1 := gWf_no 10 0 (by decide) (by decide) (fun j j0 j1 => (hb j j0 j1).2)
  unfold gWrd
  rw [g, if_pos (by decide), gMx_of (fun k h0 h1 => (hb k h0 h1).1) hm]
/-- a word stands, its blank doesn't -/
theorem gWrd_blank {T : Int → Int} {p w : Int} (hw : 0 ≤ w ∧ w ≤ 9) (h : gMt T p w (gWn w - 1)) (hb : ¬ T (p + (gWn w - 1)) = 32) : gWrd T p = (-1, p + (gWn w - 1)) := by
  have n := gWn_r hw
  have e : gPx T p w = gWn w - 1 := gPx_of hw (by omega) (by omega) h (Or.inr (by rw [gWc_last hw]; exact hb))
  refine gWrd_no (fun k h0 h1 => ?_) (Or.inr ⟨w, hw.1, hw.2, e⟩)
  by_cases c : k = w
  · rw [c, e]; omega
  · have := gPx_other (T := T) (p := p) (k := k) ⟨h0, h1⟩ hw c h
    omega
/-- the value of word w's part: the value (a fault: -1) and where it ends (the fault's place) -/
def gVal (T : Int → Int) (w p : Int) : Int × Int :=
  if w = 5 ∨ w = 6 then (if T p = 110 then (0, p + 1) else if T p = 121 then (1, p + 1) else (-1, p))
  else if w = 7 then (if T p = 114 then (0, p + 1) else if T p = 104 then (1, p + 1) else if T p = 101 then (2, p + 1) else (-1, p))
  else if w = 9 then (if 48 ≤ T p ∧ T p ≤ 51 then (T p - 48, p + 1) else (-1, p))
  else if gDig (T p) then ((gNum T 4 p).2, (gNum T 4 p).1) else (-1, p)
/-- a CLAUSE: its word, its value, where its E begins (none: -1), where it ends (a fault: -1 - its place) -/
def gClW (T : Int → Int) (w q : Int) : Int × Int × Int × Int :=
  if (gVal T w q).1 < 0 then (w, -1, -1, -1 - (gVal T w q).2)
  else if w = 8 ∨ w = 9 then (if T (gVal T w q).2 = 32 then (w, (gVal T w q).1, (gVal T w q).2 + 1, gR T ((gVal T w q).2 + 1) [] true) else (w, (gVal T w q).1, -1, -1 - (gVal T w q).2))
  else (w, (gVal T w q).1, -1, (gVal T w q).2)
def gCl (T : Int → Int) (p : Int) : Int × Int × Int × Int :=
  if (gWrd T p).1 < 0 then (-1, -1, -1, -1 - (gWrd T p).2) else gClW T (gWrd T p).1 (gWrd T p).2
/-- an ACT of at most f CLAUSES from p on, of n signs: -1, or the FAULT -/
def gAct (T : Int → Int) (n : Int) : Nat → Int → Int
  | 0, p => p
  | f + 1, p =>
    if (gCl T p).2.2.2 < 0 then -1 - (gCl T p).2.2.2
    else if (gCl T p).2.2.2 = n then -1
    else if f = 0 then (gCl T p).2.2.2
    else if T (gCl T p).2.2.2 = 59 then gAct T n f ((gCl T p).2.2.2 + 1)
    else (gCl T p).2.2.2
theorem gNumE_r (T : Int → Int) : ∀ (k : Nat) (p v : Int), 0 ≤ v → 0 ≤ (gNumE T k p v).2
  | 0, p, v, h => h
  | k + 1, p, v, h => by
    unfold gNumE
    by_cases c : gDig (T p) = true
    · rw [if_pos c]; have d := gDig_i c; exact gNumE_r T k (p + 1) (10 * v + T p - 48) (by omega)
    · rw [if_neg c]; exact h
theorem gNum_v {T : Int → Int} {k : Nat} {p : Int} : 0 ≤ (gNum T k p).2 := by
  unfold gNum
  by_cases h : gDig (T p) = true
  · rw [if_pos h]
    by_cases h2 : T p = 48
    · rw [if_pos h2]; show (0 : Int) ≤ 0; omega
    · rw [if_neg h2]; have d := gDig_i h; exact gNumE_r T (k - 1) (p + 1) (T p - 48) (by omega)
  · rw [if_neg h]; show (0 : Int) ≤ 0; omega
theorem gVal_ge {T : Int → Int} {w p : Int} (hp : 0 ≤ p) : ((gVal T w p).1 = -1 ∧ (gVal T w p).2 = p) ∨ (0 ≤ (gVal T w p).1 ∧ p < (gVal T w p).2) := by
  unfold gVal
  split
  · split
    · right; constructor <;> (dsimp only; omega)
    · split
      · right; constructor <;> (dsimp only; omega)
      · left; exact ⟨rfl, rfl⟩
  · split
    · split
      · right; constructor <;> (dsimp only; omega)
      · split
        · right; constructor <;> (dsimp only; omega)
        · split
          · right; constructor <;> (dsimp only; omega)
          · left; exact ⟨rfl, rfl⟩
    · split
      · split
        · right; constructor <;> (dsimp only; omega)
        · left; exact ⟨rfl, rfl⟩
      · split
        · rename_i h
          right
          refine ⟨gNum_v, ?_⟩
          rcases gNum_ge (T := T) (k := 4) hp with g | g
          · exfalso
            unfold gNum at g
            rw [if_pos h] at g
            by_cases h2 : T p = 48
            · rw [if_pos h2] at g; have g2 : p + 1 = -1 - p := g; omega
            · rw [if_neg h2] at g; have := gNumE_ge T (4 - 1) (p + 1) (T p - 48); omega
          · exact g
        · left; exact ⟨rfl, rfl⟩
/-- what an ACT says of word k, one CLAUSE more -/
def gUp (s w v : Int) : Int := if w = 8 ∨ w = 9 then (if s < 0 then 0 else s) + 1 else v
def gUq (s k w v : Int) : Int := if k = w then gUp s k v else s
/-- where the CLAUSES begin, and what they say of word k -/
def gPl (T : Int → Int) : Nat → Int
  | 0 => 0
  | m + 1 => (gCl T (gPl T m)).2.2.2 + 1
def gSy (T : Int → Int) (k : Int) : Nat → Int
  | 0 => -1
  | m + 1 => gUq (gSy T k m) k (gCl T (gPl T m)).1 (gCl T (gPl T m)).2.1
theorem gSy_b {T : Int → Int} {k : Int} (hk : k = 8 ∨ k = 9) : ∀ m : Nat, gSy T k m ≤ (m : Int)
  | 0 => by show (-1 : Int) ≤ _; omega
  | m + 1 => by
    have ih := gSy_b (T := T) hk m
    unfold gSy gUq
    by_cases c : k = (gCl T (gPl T m)).1
    · rw [if_pos c]
      unfold gUp
      rw [if_pos hk]
      by_cases q : gSy T k m < 0
      · rw [if_pos q]; omega
      · rw [if_neg q]; omega
    · rw [if_neg c]; omega
/-- the text is m CLAUSES -/
def gFin (T : Int → Int) (n : Int) (m : Nat) : Prop := 1 ≤ m ∧ (∀ i : Nat, i + 1 < m → T (gCl T (gPl T i)).2.2.2 = 59) ∧ (gCl T (gPl T (m - 1))).2.2.2 = n
theorem gFin.uniq {T : Int → Int} {n : Int} {m1 m2 : Nat} (hn : ¬ T n = 59) (h1 : gFin T n m1) (h2 : gFin T n m2) : m1 = m2 := by
  obtain ⟨a1, b1, c1⟩ := h1
  obtain ⟨a2, b2, c2⟩ := h2
  by_cases e : m1 < m2
  · have q := b2 (m1 - 1) (by omega)
    rw [c1] at q
    exact absurd q hn
  · by_cases e2 : m2 < m1
    · have q := b1 (m2 - 1) (by omega)
      rw [c2] at q
      exact absurd q hn
    · omega
/-- the same out of the reference's own cells -/
def gSa (M : gM) (A i k : Int) : Nat → Int
  | 0 => -1
  | m + 1 => gUq (gSa M A i k m) k (M A (8 * i + (m : Int) + 24720)) (M A (8 * i + (m : Int) + 24810))
theorem gSa_of {T : Int → Int} {M : gM} {A i k : Int} : ∀ m : Nat, (∀ j : Nat, j < m → M A (8 * i + (j : Int) + 24720) = (gCl T (gPl T j)).1 ∧ M A (8 * i + (j : Int) + 24810) = (gCl T (gPl T j)).2.1) → gSa M A i k m = gSy T k m
  | 0, _ => rfl
  | m + 1, h => by
    unfold gSa gSy
    rw [(h m (Nat.lt_succ_self m)).1, (h m (Nat.lt_succ_self m)).2, gSa_of m (fun j hj => h j (Nat.lt_succ_of_lt hj))]
theorem gSa_eq {M M1 : gM} {A A1 i k : Int} : ∀ m : Nat, (∀ j : Nat, j < m → M1 A1 (8 * i + (j : Int) + 24720) = M A (8 * i + (j : Int) + 24720) ∧ M1 A1 (8 * i + (j : Int) + 24810) = M A (8 * i + (j : Int) + 24810)) → gSa M1 A1 i k m = gSa M A i k m
  | 0, _ => rfl
  | m + 1, h => by
    unfold gSa
    rw [(h m (Nat.lt_succ_self m)).1, (h m (Nat.lt_succ_self m)).2, gSa_eq m (fun j hj => h j (Nat.lt_succ_of_lt hj))]
theorem gUp_s {s k v : Int} (hv : 0 ≤ v) : 0 ≤ gUp s k v := by
  unfold gUp
  by_cases h : k = 8 ∨ k = 9
  · rw [if_pos h]
    by_cases c : s < 0
    · rw [if_pos c]; decide
    · rw [if_neg c]; omega
  · rw [if_neg h]; exact hv
/-- said: a CLAUSE has the word -/
theorem gSa_has {M : gM} {A i k : Int} : ∀ m : Nat, (∀ j : Nat, j < m → 0 ≤ M A (8 * i + (j : Int) + 24810)) → ((gSa M A i k m = -1 ∧ ∀ j : Nat, j < m → ¬ k = M A (8 * i + (j : Int) + 24720)) ∨ (0 ≤ gSa M A i k m ∧ ∃ j : Nat, j < m ∧ k = M A (8 * i + (j : Int) + 24720)))
  | 0, _ => Or.inl ⟨rfl, fun j hj => absurd hj (Nat.not_lt_zero j)⟩
  | m + 1, h => by
    unfold gSa gUq
    by_cases c : k = M A (8 * i + (m : Int) + 24720)
    · rw [if_pos c]
      exact Or.inr ⟨gUp_s (h m (Nat.lt_succ_self m)), m, Nat.lt_succ_self m, c⟩
    · rw [if_neg c]
      rcases gSa_has m (fun j hj => h j (Nat.lt_succ_of_lt hj)) with ⟨e, g⟩ | ⟨e, j, hj, g⟩
      · refine Or.inl ⟨e, fun j hj => ?_⟩
        by_cases q : j = m
        · rw [q]; exact c
        · exact g j (by omega)
      · exact Or.inr ⟨e, j, Nat.lt_succ_of_lt hj, g⟩
/-- the reference's law: the last CLAUSE counts; how many there are -/
def gLa2 (M : gM) (A i k d : Int) : Nat → Int
  | 0 => d
  | m + 1 => if M A (8 * i + (m : Int) + 24720) = k then M A (8 * i + (m : Int) + 24810) else gLa2 M A i k d m
def gMa2 (M : gM) (A i k : Int) : Nat → Int
  | 0 => 0
  | m + 1 => gMa2 M A i k m + (if M A (8 * i + (m : Int) + 24720) = k then 1 else 0)
theorem gLa2_s {M : gM} {A i k d : Int} (hk : ¬ (k = 8 ∨ k = 9)) : ∀ m : Nat, (∀ j : Nat, j < m → 0 ≤ M A (8 * i + (j : Int) + 24810)) → gLa2 M A i k d m = (if gSa M A i k m = -1 then d else gSa M A i k m)
  | 0, _ => (if_pos rfl).symm
  | m + 1, h => by
    have ih := gLa2_s (d := d) hk m (fun j hj => h j (Nat.lt_succ_of_lt hj))
    have hv := h m (Nat.lt_succ_self m)
    unfold gLa2 gSa gUq
    by_cases c : M A (8 * i + (m : Int) + 24720) = k
    · rw [if_pos c, if_pos c.symm]
      unfold gUp
      rw [if_neg hk, if_neg (by omega)]
    · have c2 : ¬ k = M A (8 * i + (m : Int) + 24720) := fun q => c q.symm
      rw [if_neg c, if_neg c2]
      exact ih
theorem gMa2_s {M : gM} {A i k : Int} (hk : k = 8 ∨ k = 9) : ∀ m : Nat, (∀ j : Nat, j < m → 0 ≤ M A (8 * i + (j : Int) + 24810)) → gMa2 M A i k m = (if gSa M A i k m < 0 then 0 else gSa M A i k m)
  | 0, _ => (if_pos (by show (-1 : Int) < 0; decide)).symm
  | m + 1, h => by
    have ih := gMa2_s hk m (fun j hj => h j (Nat.lt_succ_of_lt hj))
    unfold gMa2 gSa gUq
    by_cases c : M A (8 * i + (m : Int) + 24720) = k
    · rw [if_pos c, if_pos c.symm]
      unfold gUp
      rw [if_pos hk, ih]
      by_cases q : gSa M A i k m < 0
      · rw [if_pos q, if_neg (by omega)]
      · rw [if_neg q, if_neg (by omega)]
    · have c2 : ¬ k = M A (8 * i + (m : Int) + 24720) := fun q => c q.symm
      rw [if_neg c, if_neg c2, ih]
      omega
/-- the ACT by which it is: of n ACTS of weeks W, those that say H -/
def gAf (W H : Int → Int) (t : Int) : Nat → Int
  | 0 => -1
  | i + 1 => if W (i : Int) ≤ t ∧ ¬ H (i : Int) = -1 ∧ (gAf W H t i = -1 ∨ W (gAf W H t i) ≤ W (i : Int)) then (i : Int) else gAf W H t i
theorem gAf_r {W H : Int → Int} {t : Int} : ∀ n : Nat, gAf W H t n = -1 ∨ (0 ≤ gAf W H t n ∧ gAf W H t n < (n : Int))
  | 0 => Or.inl rfl
  | n + 1 => by
    unfold gAf
    by_cases c : W (n : Int) ≤ t ∧ ¬ H (n : Int) = -1 ∧ (gAf W H t n = -1 ∨ W (gAf W H t n) ≤ W (n : Int))
    · rw [if_pos c]; omega
    · rw [if_neg c]
      rcases gAf_r (W := W) (H := H) (t := t) n with g | g
      · exact Or.inl g
      · exact Or.inr ⟨g.1, by omega⟩
theorem gAf_eq {W H W1 H1 : Int → Int} {t : Int} : ∀ n : Nat, (∀ i : Int, 0 ≤ i → i < (n : Int) → W1 i = W i ∧ (H1 i = -1 ↔ H i = -1)) → gAf W1 H1 t n = gAf W H t n
  | 0, _ => rfl
  | n + 1, h => by
    have ih := gAf_eq (t := t) n (fun i h0 h1 => h i h0 (by omega))
    have hn := h (n : Int) (by omega) (by omega)
    unfold gAf
    rw [ih, hn.1]
    have hw : gAf W H t n = -1 ∨ W1 (gAf W H t n) = W (gAf W H t n) := by
      rcases gAf_r (W := W) (H := H) (t := t) n with g | g
      · exact Or.inl g
      · exact Or.inr (h _ g.1 (by omega)).1
    by_cases c : W (n : Int) ≤ t ∧ ¬ H (n : Int) = -1 ∧ (gAf W H t n = -1 ∨ W (gAf W H t n) ≤ W (n : Int))
    · rw [if_pos c, if_pos]
      refine ⟨c.1, fun q => c.2.1 (hn.2.mp q), ?_⟩
      rcases hw with g | g
      · exact Or.inl g
      · rw [g]; exact c.2.2
    · rw [if_neg c, if_neg]
      rintro ⟨q1, q2, q3⟩
      refine c ⟨q1, fun q => q2 (hn.2.mpr q), ?_⟩
      rcases hw with g | g
      · exact Or.inl g
      · rw [g] at q3; exact q3
theorem gAf_h {W H : Int → Int} {t : Int} : ∀ n : Nat, gAf W H t n = -1 ∨ ¬ H (gAf W H t n) = -1
  | 0 => Or.inl rfl
  | n + 1 => by
    unfold gAf
    by_cases c : W (n : Int) ≤ t ∧ ¬ H (n : Int) = -1 ∧ (gAf W H t n = -1 ∨ W (gAf W H t n) ≤ W (n : Int))
    · rw [if_pos c]; exact Or.inr c.2.1
    · rw [if_neg c]; exact gAf_h n
def gWx (M : gM) (i : Int) : Int := M (87 + 6 * i) 6
def gHx (M : gM) (k i : Int) : Int := M (87 + 6 * i + 2) k
def gWm (M : gM) (i : Int) : Int := M 191 (i + 656)
def gHm (M : gM) (k i : Int) : Int := gSa M 191 i k (M 191 (i + 24700)).toNat
def gWo (a : Int) : Int := (gWA a.toNat).toInt
theorem gWo_z {a : Int} (h : a = 7 ∨ a = 8 ∨ a = 9) : gWo a = 0 := by rcases h with rfl | rfl | rfl <;> decide +kernel
theorem gWo_of {a z : Int} (hz : gWA a.toNat = Int32.ofInt z) (r : 0 ≤ z ∧ z ≤ 100) : z = gWo a := by
  unfold gWo; rw [hz, gi_toInt (by omega)]
/-- no number of a CLAUSE is below 0 -/
def gVn (M : gM) : Prop := ∀ i : Int, 0 ≤ i → i < M 191 4 → ∀ j : Nat, (j : Int) < M 191 (i + 24700) → 0 ≤ M 191 (8 * i + (j : Int) + 24810)
def gFx (M : gM) (a b : Int) : Int := if gAf (gWx M) (gHx M b) a (M 1 13).toNat = -1 then gWo b else gHx M b (gAf (gWx M) (gHx M b) a (M 1 13).toNat)
def gAm (M : gM) (k t : Int) : Int := gAf (gWm M) (gHm M k) t (M 191 4).toNat
