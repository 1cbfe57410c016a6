/-- the text that the class' reader reads, sign by sign -/
def gTc (M : gM) (o p : Int) : Int := if 0 ≤ p ∧ p < M 159 1 then M (o + 1) p % 256 else -1
theorem gTc_in {M : gM} {T : Int → Int} {o p n c : Int} (hT : gTc M o = T) (hn : M 159 1 = n) (h : 0 ≤ p ∧ p < n) (hc : M (o + 1) p = c) : T p = c % 256 := by
  rw [← hT]; unfold gTc; rw [hn, if_pos h, hc]
theorem gTc_out {M : gM} {T : Int → Int} {o p n : Int} (hT : gTc M o = T) (hn : M 159 1 = n) (h : ¬ p < n) : T p = -1 := by
  rw [← hT]; unfold gTc; rw [hn, if_neg (fun q => h q.2)]
theorem gTc.eq {M M1 : gM} {T : Int → Int} {o : Int} (hT : gTc M o = T) (h1 : M1 159 1 = M 159 1) (h2 : ∀ b : Int, M1 (o + 1) b = M (o + 1) b) : gTc M1 o = T := by
  rw [← hT]; funext p; unfold gTc; rw [h1, h2]
theorem gTc_o {M : gM} {T : Int → Int} {o n : Int} (hT : gTc M o = T) (hn : M 159 1 = n) : gOut T n := by
  intro p hp
  rw [gTc_out hT hn (by omega)]; decide
/-- what is open, as bits: the last one lowest -/
def gBt : List Bool → Int
  | [] => 0
  | b :: s => 2 * gBt s + (if b then 1 else 0)
theorem gBt_b : ∀ (n : Nat) (s : List Bool), s.length ≤ n → 0 ≤ gBt s ∧ gBt s + 1 ≤ ((2 ^ n : Nat) : Int)
  | n, [], _ => ⟨Int.le_refl _, by have h : 1 ≤ 2 ^ n := Nat.one_le_two_pow; show (0 : Int) + 1 ≤ _; omega⟩
  | 0, b :: s, h => absurd h (Nat.not_succ_le_zero _)
  | n + 1, b :: s, h => by
    obtain ⟨a, c⟩ := gBt_b n s (Nat.le_of_succ_le_succ h)
    have e : 2 ^ (n + 1) = 2 * 2 ^ n := by rw [Nat.pow_succ, Nat.mul_comm]
    rw [e]
    generalize 2 ^ n = m at c
    show 0 ≤ 2 * gBt s + (if b then 1 else 0) ∧ 2 * gBt s + (if b then 1 else 0) + 1 ≤ _
    by_cases hb : b = true
    · rw [if_pos hb]; omega
    · rw [if_neg hb]; omega
theorem gBt_6 {s : List Bool} (h : s.length ≤ 6) : 0 ≤ gBt s ∧ gBt s ≤ 63 := by
  have := gBt_b 6 s h
  have e : ((2 ^ 6 : Nat) : Int) = 64 := by decide
  omega
theorem gBt_5 {s : List Bool} (h : s.length ≤ 5) : 0 ≤ gBt s ∧ gBt s ≤ 31 := by
  have := gBt_b 5 s h
  have e : ((2 ^ 5 : Nat) : Int) = 32 := by decide
  omega
theorem gBt_c {b : Bool} {s : List Bool} : gBt (b :: s) = 2 * gBt s + (if b then 1 else 0) := rfl
theorem gi_and1 {a : Int} (h : 0 ≤ a ∧ a ≤ 63) : Int32.ofInt a &&& Int32.ofInt 1 = Int32.ofInt (a % 2) := by
  have q : ∀ k : Fin 64, Int32.ofInt ((k.val : Nat) : Int) &&& Int32.ofInt 1 = Int32.ofInt (((k.val : Nat) : Int) % 2) := by decide +kernel
  have e := q ⟨a.toNat, by omega⟩
  rw [show (((⟨a.toNat, by omega⟩ : Fin 64).val : Nat) : Int) = a from Int.toNat_of_nonneg h.1] at e
  exact e
theorem gi_shl1 {a : Int} (h : 0 ≤ a ∧ a ≤ 63) : Int32.ofInt a <<< (Int32.ofInt 1 &&& 31) = Int32.ofInt (2 * a) := by
  have q : ∀ k : Fin 64, Int32.ofInt ((k.val : Nat) : Int) <<< (Int32.ofInt 1 &&& 31) = Int32.ofInt (2 * ((k.val : Nat) : Int)) := by decide +kernel
  have e := q ⟨a.toNat, by omega⟩
  rw [show (((⟨a.toNat, by omega⟩ : Fin 64).val : Nat) : Int) = a from Int.toNat_of_nonneg h.1] at e
  exact e
theorem gi_shr1 {a : Int} (h : 0 ≤ a ∧ a ≤ 63) : Int32.ofInt a >>> (Int32.ofInt 1 &&& 31) = Int32.ofInt (a / 2) := by
  have q : ∀ k : Fin 64, Int32.ofInt ((k.val : Nat) : Int) >>> (Int32.ofInt 1 &&& 31) = Int32.ofInt (((k.val : Nat) : Int) / 2) := by decide +kernel
  have e := q ⟨a.toNat, by omega⟩
  rw [show (((⟨a.toNat, by omega⟩ : Fin 64).val : Nat) : Int) = a from Int.toNat_of_nonneg h.1] at e
  exact e
theorem gi_or1 {a : Int} (h : 0 ≤ a ∧ a ≤ 63) : Int32.ofInt (2 * a) ||| Int32.ofInt 1 = Int32.ofInt (2 * a + 1) := by
  have q : ∀ k : Fin 64, Int32.ofInt (2 * ((k.val : Nat) : Int)) ||| Int32.ofInt 1 = Int32.ofInt (2 * ((k.val : Nat) : Int) + 1) := by decide +kernel
  have e := q ⟨a.toNat, by omega⟩
  rw [show (((⟨a.toNat, by omega⟩ : Fin 64).val : Nat) : Int) = a from Int.toNat_of_nonneg h.1] at e
  exact e
/-- a run whose wish is a number -/
def gQ (T : Int → Int) (p : Int) (s : List Bool) (v : Int) : Int := if v = 1 then gR T p s true else gR T p s false
theorem gQ_1 {T : Int → Int} {p v : Int} {s : List Bool} (h : v = 1) : gQ T p s v = gR T p s true := if_pos h
theorem gQ_0 {T : Int → Int} {p v : Int} {s : List Bool} (h : ¬ v = 1) : gQ T p s v = gR T p s false := if_neg h
/-- which one of some signs comes: of literal a, sign z (none: -1) -/
def gSgn (a c z : Int) : Prop := (z = -1 ∧ ∀ i : Int, 0 ≤ i → i < gSL a → ¬ c = gSC a i) ∨ ((0 ≤ z ∧ z < gSL a) ∧ c = gSC a z)
theorem gSgn_10 {c z : Int} (h : gSgn 10 c z) : (z = -1 ∧ ¬ c = 110 ∧ ¬ c = 121) ∨ (z = 0 ∧ c = 110) ∨ (z = 1 ∧ c = 121) := by
  have l : gSL 10 = 2 := by decide +kernel
  have c0 : gSC 10 0 = 110 := by decide +kernel
  have c1 : gSC 10 1 = 121 := by decide +kernel
  rcases h with ⟨a, b⟩ | ⟨a, b⟩
  · have b0 := b 0 (by decide) (by omega); have b1 := b 1 (by decide) (by omega)
    rw [c0] at b0; rw [c1] at b1; omega
  · rcases (by omega : z = 0 ∨ z = 1) with e | e
    · rw [e, c0] at b; omega
    · rw [e, c1] at b; omega
theorem gSgn_11 {c z : Int} (h : gSgn 11 c z) : (z = -1 ∧ ¬ c = 114 ∧ ¬ c = 104 ∧ ¬ c = 101) ∨ (z = 0 ∧ c = 114) ∨ (z = 1 ∧ c = 104) ∨ (z = 2 ∧ c = 101) := by
  have l : gSL 11 = 3 := by decide +kernel
  have c0 : gSC 11 0 = 114 := by decide +kernel
  have c1 : gSC 11 1 = 104 := by decide +kernel
  have c2 : gSC 11 2 = 101 := by decide +kernel
  rcases h with ⟨a, b⟩ | ⟨a, b⟩
  · have b0 := b 0 (by decide) (by omega); have b1 := b 1 (by decide) (by omega); have b2 := b 2 (by decide) (by omega)
    rw [c0] at b0; rw [c1] at b1; rw [c2] at b2; omega
  · rcases (by omega : z = 0 ∨ z = 1 ∨ z = 2) with e | e | e
    · rw [e, c0] at b; omega
    · rw [e, c1] at b; omega
    · rw [e, c2] at b; omega
theorem gSgn_12 {c z : Int} (h : gSgn 12 c z) : (z = -1 ∧ ¬ (48 ≤ c ∧ c ≤ 51)) ∨ ((0 ≤ z ∧ z ≤ 3) ∧ c = z + 48) := by
  have l : gSL 12 = 4 := by decide +kernel
  have c0 : gSC 12 0 = 48 := by decide +kernel
  have c1 : gSC 12 1 = 49 := by decide +kernel
  have c2 : gSC 12 2 = 50 := by decide +kernel
  have c3 : gSC 12 3 = 51 := by decide +kernel
  rcases h with ⟨a, b⟩ | ⟨a, b⟩
  · have b0 := b 0 (by decide) (by omega); have b1 := b 1 (by decide) (by omega); have b2 := b 2 (by decide) (by omega); have b3 := b 3 (by decide) (by omega)
    rw [c0] at b0; rw [c1] at b1; rw [c2] at b2; rw [c3] at b3; omega
  · rcases (by omega : z = 0 ∨ z = 1 ∨ z = 2 ∨ z = 3) with e | e | e | e
    · rw [e, c0] at b; omega
    · rw [e, c1] at b; omega
    · rw [e, c2] at b; omega
    · rw [e, c3] at b; omega
theorem gSgn_13 {c z : Int} (h : gSgn 13 c z) : (z = -1 ∧ ¬ (c = 97 ∨ c = 103 ∨ c = 104 ∨ c = 102)) ∨ ((0 ≤ z ∧ z ≤ 3) ∧ (c = 97 ∨ c = 103 ∨ c = 104 ∨ c = 102)) := by
  have l : gSL 13 = 4 := by decide +kernel
  have c0 : gSC 13 0 = 97 := by decide +kernel
  have c1 : gSC 13 1 = 103 := by decide +kernel
  have c2 : gSC 13 2 = 104 := by decide +kernel
  have c3 : gSC 13 3 = 102 := by decide +kernel
  rcases h with ⟨a, b⟩ | ⟨a, b⟩
  · have b0 := b 0 (by decide) (by omega); have b1 := b 1 (by decide) (by omega); have b2 := b 2 (by decide) (by omega); have b3 := b 3 (by decide) (by omega)
    rw [c0] at b0; rw [c1] at b1; rw [c2] at b2; rw [c3] at b3; omega
  · rcases (by omega : z = 0 ∨ z = 1 ∨ z = 2 ∨ z = 3) with e | e | e | e
    · rw [e, c0] at b; omega
    · rw [e, c1] at b; omega
    · rw [e, c2] at b; omega
    · rw [e, c3] at b; omega
theorem gSgn_14 {c z : Int} (h : gSgn 14 c z) : (z = -1 ∧ ¬ (c = 60 ∨ c = 62)) ∨ ((0 ≤ z ∧ z ≤ 1) ∧ (c = 60 ∨ c = 62)) := by
  have l : gSL 14 = 2 := by decide +kernel
  have c0 : gSC 14 0 = 60 := by decide +kernel
  have c1 : gSC 14 1 = 62 := by decide +kernel
  rcases h with ⟨a, b⟩ | ⟨a, b⟩
  · have b0 := b 0 (by decide) (by omega); have b1 := b 1 (by decide) (by omega)
    rw [c0] at b0; rw [c1] at b1; omega
  · rcases (by omega : z = 0 ∨ z = 1) with e | e
    · rw [e, c0] at b; omega
    · rw [e, c1] at b; omega
theorem gSgn_15 {c z : Int} (h : gSgn 15 c z) : (z = -1 ∧ ¬ (c = 115 ∨ c = 112)) ∨ ((0 ≤ z ∧ z ≤ 1) ∧ (c = 115 ∨ c = 112)) := by
  have l : gSL 15 = 2 := by decide +kernel
  have c0 : gSC 15 0 = 115 := by decide +kernel
  have c1 : gSC 15 1 = 112 := by decide +kernel
  rcases h with ⟨a, b⟩ | ⟨a, b⟩
  · have b0 := b 0 (by decide) (by omega); have b1 := b 1 (by decide) (by omega)
    rw [c0] at b0; rw [c1] at b1; omega
  · rcases (by omega : z = 0 ∨ z = 1) with e | e
    · rw [e, c0] at b; omega
    · rw [e, c1] at b; omega
/-- an F, read whole -/
theorem gFact_o {T : Int → Int} {p : Int} (c : T p = 111) : gFact T p = p + 1 := by unfold gFact; rw [if_pos c]
theorem gFact_n {T : Int → Int} {p : Int} (c : ¬ T p = 111) (c2 : ¬ (T p = 97 ∨ T p = 103 ∨ T p = 104 ∨ T p = 102)) (c3 : ¬ (T p = 115 ∨ T p = 112)) : gFact T p = -1 - p := by unfold gFact; rw [if_neg c, if_neg c2, if_neg c3]
theorem gFact_a1 {T : Int → Int} {p : Int} (c : T p = 97 ∨ T p = 103 ∨ T p = 104 ∨ T p = 102) (c2 : ¬ (T (p + 1) = 60 ∨ T (p + 1) = 62)) : gFact T p = -1 - (p + 1) := by unfold gFact; rw [if_neg (by omega), if_pos c, if_neg c2]
theorem gFact_a2 {T : Int → Int} {p : Int} (c : T p = 97 ∨ T p = 103 ∨ T p = 104 ∨ T p = 102) (c2 : T (p + 1) = 60 ∨ T (p + 1) = 62) (c3 : ¬ gDig (T (p + 2)) = true) : gFact T p = -1 - (p + 2) := by
  unfold gFact; rw [if_neg (by omega), if_pos c, if_pos c2]; unfold gNum; rw [if_neg c3]
theorem gFact_a3 {T : Int → Int} {p q z : Int} (c : T p = 97 ∨ T p = 103 ∨ T p = 104 ∨ T p = 102) (c2 : T (p + 1) = 60 ∨ T (p + 1) = 62) (c3 : gNum T 2 (p + 2) = (q, z)) : gFact T p = q := by
  unfold gFact; rw [if_neg (by omega), if_pos c, if_pos c2, c3]
theorem gFact_s1 {T : Int → Int} {p : Int} (c : T p = 115 ∨ T p = 112) (c2 : ¬ T (p + 1) = 61) : gFact T p = -1 - (p + 1) := by unfold gFact; rw [if_neg (by omega), if_neg (by omega), if_pos c, if_neg c2]
theorem gFact_s2 {T : Int → Int} {p : Int} (c : T p = 115 ∨ T p = 112) (c2 : T (p + 1) = 61) (c3 : ¬ gDig (T (p + 2)) = true) : gFact T p = -1 - (p + 2) := by
  unfold gFact; rw [if_neg (by omega), if_neg (by omega), if_pos c, if_pos c2]; unfold gNum; rw [if_neg c3]
theorem gFact_s3 {T : Int → Int} {p q z : Int} (c : T p = 115 ∨ T p = 112) (c2 : T (p + 1) = 61) (c3 : gNum T 1 (p + 2) = (q, z)) : gFact T p = q := by
  unfold gFact; rw [if_neg (by omega), if_neg (by omega), if_pos c, if_pos c2, c3]
theorem gNs.k0 {T : Int → Int} {a p0 k v p : Int} (h : gNs T a p0 k v p) (hk : k = 0) : p = p0 := by
  rcases h with ⟨h1, h2, h3⟩ | ⟨h1, h2, h3, h4⟩ | ⟨h1, h2, h3, h4, h5⟩
  · exact h3
  · omega
  · omega
/-- the class' words and the reference's, by number -/
theorem gSLc {k : Int} (h : 0 ≤ k ∧ k ≤ 9) : gSL k = gWn k - 1 := by
  rcases gW10 h with rfl | rfl | rfl | rfl | rfl | rfl | rfl | rfl | rfl | rfl <;> decide +kernel
theorem gSLm {k : Int} (h : 0 ≤ k ∧ k ≤ 9) : gSL (k + 16) = gWn k := by
  rcases gW10 h with rfl | rfl | rfl | rfl | rfl | rfl | rfl | rfl | rfl | rfl <;> decide +kernel
theorem gSC_all : ∀ k : Fin 10, ∀ j : Fin 6, (((j.val : Nat) : Int) < gWn (k.val : Int) → gSC ((k.val : Nat) + 16 : Int) (j.val : Int) = gWc (k.val : Int) (j.val : Int)) ∧ (((j.val : Nat) : Int) < gWn (k.val : Int) - 1 → gSC (k.val : Int) (j.val : Int) = gWc (k.val : Int) (j.val : Int)) := by decide +kernel
theorem gSCm {k j : Int} (h : 0 ≤ k ∧ k ≤ 9) (hj : 0 ≤ j ∧ j < gWn k) : gSC (k + 16) j = gWc k j := by
  have n := gWn_r h
  have q := (gSC_all ⟨k.toNat, by omega⟩ ⟨j.toNat, by omega⟩).1
  have ek : (((⟨k.toNat, by omega⟩ : Fin 10).val : Nat) : Int) = k := Int.toNat_of_nonneg h.1
  have ej : (((⟨j.toNat, by omega⟩ : Fin 6).val : Nat) : Int) = j := Int.toNat_of_nonneg hj.1
  rw [ek, ej] at q
  exact q hj.2
theorem gSCc {k j : Int} (h : 0 ≤ k ∧ k ≤ 9) (hj : 0 ≤ j ∧ j < gWn k - 1) : gSC k j = gWc k j := by
  have n := gWn_r h
  have q := (gSC_all ⟨k.toNat, by omega⟩ ⟨j.toNat, by omega⟩).2
  have ek : (((⟨k.toNat, by omega⟩ : Fin 10).val : Nat) : Int) = k := Int.toNat_of_nonneg h.1
  have ej : (((⟨j.toNat, by omega⟩ : Fin 6).val : Nat) : Int) = j := Int.toNat_of_nonneg hj.1
  rw [ek, ej] at q
  exact q hj.2
theorem gWc_r {k j : Int} (h : 0 ≤ k ∧ k ≤ 9) (hj : 0 ≤ j ∧ j < gWn k) : 32 ≤ gWc k j ∧ gWc k j ≤ 127 := by
  have n := gWn_r h
  have q : ∀ k : Fin 10, ∀ j : Fin 6, ((j.val : Nat) : Int) < gWn (k.val : Int) → 32 ≤ gWc (k.val : Int) (j.val : Int) ∧ gWc (k.val : Int) (j.val : Int) ≤ 127 := by decide +kernel
  have q := q ⟨k.toNat, by omega⟩ ⟨j.toNat, by omega⟩
  have ek : (((⟨k.toNat, by omega⟩ : Fin 10).val : Nat) : Int) = k := Int.toNat_of_nonneg h.1
  have ej : (((⟨j.toNat, by omega⟩ : Fin 6).val : Nat) : Int) = j := Int.toNat_of_nonneg hj.1
  rw [ek, ej] at q
  exact q hj.2
/-- the words ahead of n are looked at: none stands, m signs at most -/
def gLw (T : Int → Int) (p n m : Int) : Prop := (∀ k : Int, 0 ≤ k → k < n → gPx T p k ≤ m ∧ gPx T p k < gWn k - 1) ∧ (m = 0 ∨ ∃ k : Int, 0 ≤ k ∧ k < n ∧ gPx T p k = m)
theorem gLw_0 {T : Int → Int} {p : Int} : gLw T p 0 0 := ⟨fun k h0 h1 => by omega, Or.inl rfl⟩
theorem gLw.step {T : Int → Int} {p n m j m1 n1 : Int} (h : gLw T p n m) (hn : 0 ≤ n ∧ n ≤ 9) (hj : 0 ≤ j ∧ j < gWn n - 1) (hm : gMt T p n j) (hx : ¬ T (p + j) = gWc n j) (e1 : (m ≤ j ∧ m1 = j) ∨ (j ≤ m ∧ m1 = m)) (e2 : n1 = n + 1) : gLw T p n1 m1 := by
  have e : gPx T p n = j := gPx_of hn hj.1 (by omega) hm (Or.inr hx)
  refine ⟨fun k h0 h1 => ?_, ?_⟩
  · by_cases c : k = n
    · rw [c, e]; omega
    · have := h.1 k h0 (by omega); omega
  · rcases e1 with ⟨c1, c2⟩ | ⟨c1, c2⟩
    · exact Or.inr ⟨n, hn.1, by omega, by omega⟩
    · rcases h.2 with g | ⟨k, k0, k1, k2⟩
      · exact Or.inl (by omega)
      · exact Or.inr ⟨k, k0, by omega, by omega⟩
theorem gLw.fin {T : Int → Int} {p n m : Int} (h : gLw T p n m) (hn : n = 10) : gWrd T p = (-1, p + m) := by
  refine gWrd_no (fun k h0 h1 => ?_) ?_
  · have := h.1 k h0 (by omega)
    omega
  · rcases h.2 with g | ⟨k, k0, k1, k2⟩
    · exact Or.inl g
    · exact Or.inr ⟨k, k0, by omega, k2⟩
/-- the word stands ahead of which none stands -/
theorem gWrd_w {T : Int → Int} {p w q : Int} (hw : 0 ≤ w ∧ w ≤ 9) (h : gMt T p w (gWn w - 1)) (hb : T (p + (gWn w - 1)) = 32) (hq : q = p + gWn w) : gWrd T p = (w, q) := by
  have n := gWn_r hw
  have h2 := gMt_s h hb (gWc_last hw)
  rw [show gWn w - 1 + 1 = gWn w by omega] at h2
  rw [gWrd_ok hw h2, hq]
