/-- a text's sign is a digit -/
def gDig (c : Int) : Bool := decide (48 ≤ c) && decide (c ≤ 57)
/-- where a number of at most k digits ends (its first digit is read, it is no 0), and its value -/
def gNumE (T : Int → Int) : Nat → Int → Int → Int × Int
  | 0, p, v => (p, v)
  | k + 1, p, v => if gDig (T p) then gNumE T k (p + 1) (10 * v + T p - 48) else (p, v)
/-- a number: its end and its value; a fault: -1 - its place -/
def gNum (T : Int → Int) (k : Nat) (p : Int) : Int × Int := if gDig (T p) then (if T p = 48 then (p + 1, 0) else gNumE T (k - 1) (p + 1) (T p - 48)) else (-1 - p, 0)
/-- an F: its end, or -1 - the place of its fault -/
def gFact (T : Int → Int) (p : Int) : Int :=
  if T p = 111 then p + 1
  else if T p = 97 ∨ T p = 103 ∨ T p = 104 ∨ T p = 102 then (if T (p + 1) = 60 ∨ T (p + 1) = 62 then (gNum T 2 (p + 2)).1 else -1 - (p + 1))
  else if T p = 115 ∨ T p = 112 then (if T (p + 1) = 61 then (gNum T 1 (p + 2)).1 else -1 - (p + 1))
  else -1 - p
def gEnd : List Bool → List Bool
  | true :: s => gEnd s
  | s => s
/-- an E as it is read sign by sign: what is open (true: a !), and whether an F is wanted -/
def gRun (T : Int → Int) : Nat → Int → List Bool → Bool → Int
  | 0, p, _, _ => -1 - p
  | f + 1, p, s, true =>
    if T p = 33 ∨ T p = 40 then (if s.length = 6 then -1 - p else gRun T f (p + 1) (decide (T p = 33) :: s) true)
    else if gFact T p < 0 then gFact T p else gRun T f (gFact T p) (gEnd s) false
  | f + 1, p, s, false =>
    if T p = 38 ∨ T p = 124 then gRun T f (p + 1) s true
    else if T p = 41 ∧ s ≠ [] then gRun T f (p + 1) (gEnd s.tail) false
    else if s = [] then p else -1 - p
theorem gNumE_ge (T : Int → Int) : ∀ (k : Nat) (p v : Int), p ≤ (gNumE T k p v).1
  | 0, p, v => Int.le_refl _
  | k + 1, p, v => by
    unfold gNumE
    by_cases h : gDig (T p) = true
    · rw [if_pos h]; have := gNumE_ge T k (p + 1) (10 * v + T p - 48); omega
    · rw [if_neg h]; exact Int.le_refl _
theorem gNum_ge {T : Int → Int} {k : Nat} {p : Int} (hp : 0 ≤ p) : (gNum T k p).1 = -1 - p ∨ p < (gNum T k p).1 := by
  unfold gNum
  by_cases h : gDig (T p) = true
  · rw [if_pos h]
    by_cases h2 : T p = 48
    · rw [if_pos h2]; right; show p < p + 1; omega
    · rw [if_neg h2]; right; have := gNumE_ge T (k - 1) (p + 1) (T p - 48); omega
  · rw [if_neg h]; left; rfl
theorem gFact_ge {T : Int → Int} {p : Int} (hp : 0 ≤ p) : (∃ q : Int, p ≤ q ∧ gFact T p = -1 - q) ∨ p < gFact T p := by
  unfold gFact
  by_cases h1 : T p = 111
  · rw [if_pos h1]; right; omega
  rw [if_neg h1]
  by_cases h2 : T p = 97 ∨ T p = 103 ∨ T p = 104 ∨ T p = 102
  · rw [if_pos h2]
    by_cases h3 : T (p + 1) = 60 ∨ T (p + 1) = 62
    · rw [if_pos h3]
      rcases gNum_ge (T := T) (k := 2) (p := p + 2) (by omega) with g | g
      · left; exact ⟨p + 2, by omega, g⟩
      · right; omega
    · rw [if_neg h3]; left; exact ⟨p + 1, by omega, rfl⟩
  rw [if_neg h2]
  by_cases h4 : T p = 115 ∨ T p = 112
  · rw [if_pos h4]
    by_cases h3 : T (p + 1) = 61
    · rw [if_pos h3]
      rcases gNum_ge (T := T) (k := 1) (p := p + 2) (by omega) with g | g
      · left; exact ⟨p + 2, by omega, g⟩
      · right; omega
    · rw [if_neg h3]; left; exact ⟨p + 1, by omega, rfl⟩
  rw [if_neg h4]; left; exact ⟨p, by omega, rfl⟩
/-- behind the text's end no sign has a meaning -/
def gOut (T : Int → Int) (n : Int) : Prop := ∀ p : Int, n ≤ p → T p < 0
/-- more steps than signs change nothing -/
theorem gRun_fuel {T : Int → Int} {n : Int} (ho : gOut T n) : ∀ (f g : Nat) (p : Int) (s : List Bool) (w : Bool), 0 ≤ p → n - p < (f : Int) → n - p < (g : Int) → 0 < f → 0 < g → gRun T f p s w = gRun T g p s w := by
  intro f
  induction f with
  | zero => intro g p s w h0 h1 h2 h3 h4; omega
  | succ f ih =>
    intro g p s w h0 h1 h2 h3 h4
    obtain ⟨g, rfl⟩ : ∃ g2 : Nat, g = g2 + 1 := ⟨g - 1, by omega⟩
    have nx : ∀ (q : Int) (s2 : List Bool) (w2 : Bool), p < q → 0 ≤ T p → gRun T f q s2 w2 = gRun T g q s2 w2 := by
      intro q s2 w2 hq ht
      have hn : p < n := by
        by_cases c : p < n
        · exact c
        · have := ho p (by omega); omega
      exact ih g q s2 w2 (by omega) (by omega) (by omega) (by omega) (by omega)
    cases w with
    | true =>
      show (if T p = 33 ∨ T p = 40 then _ else _) = (if T p = 33 ∨ T p = 40 then _ else _)
      by_cases c1 : T p = 33 ∨ T p = 40
      · rw [if_pos c1, if_pos c1]
        by_cases c2 : s.length = 6
        · rw [if_pos c2, if_pos c2]
        · rw [if_neg c2, if_neg c2]; exact nx _ _ _ (by omega) (by omega)
      · rw [if_neg c1, if_neg c1]
        by_cases c3 : gFact T p < 0
        · rw [if_pos c3, if_pos c3]
        · rw [if_neg c3, if_neg c3]
          rcases gFact_ge (T := T) h0 with ⟨q, hq, e⟩ | h
          · omega
          · refine nx _ _ _ h ?_
            by_cases c : 0 ≤ T p
            · exact c
            · exfalso
              have e : gFact T p = -1 - p := by
                unfold gFact
                rw [if_neg (by omega), if_neg (by omega), if_neg (by omega)]
              omega
    | false =>
      show (if T p = 38 ∨ T p = 124 then _ else _) = (if T p = 38 ∨ T p = 124 then _ else _)
      by_cases c1 : T p = 38 ∨ T p = 124
      · rw [if_pos c1, if_pos c1]; exact nx _ _ _ (by omega) (by omega)
      · rw [if_neg c1, if_neg c1]
        by_cases c2 : T p = 41 ∧ s ≠ []
        · rw [if_pos c2, if_pos c2]; exact nx _ _ _ (by omega) (by omega)
        · rw [if_neg c2, if_neg c2]
/-- the run with steps enough -/
def gR (T : Int → Int) (p : Int) (s : List Bool) (w : Bool) : Int := gRun T 200 p s w
theorem gR_open {T : Int → Int} {n p : Int} {s : List Bool} (ho : gOut T n) (hn : n ≤ 150) (h0 : 0 ≤ p) (c : T p = 33 ∨ T p = 40) (hs : ¬ s.length = 6) : gR T p s true = gR T (p + 1) (decide (T p = 33) :: s) true := by
  unfold gR
  show (if T p = 33 ∨ T p = 40 then _ else _) = _
  rw [if_pos c, if_neg hs]
  exact gRun_fuel ho 199 200 _ _ _ (by omega) (by omega) (by omega) (by decide) (by decide)
theorem gR_full {T : Int → Int} {p : Int} {s : List Bool} (c : T p = 33 ∨ T p = 40) (hs : s.length = 6) : gR T p s true = -1 - p := by
  unfold gR
  show (if T p = 33 ∨ T p = 40 then _ else _) = _
  rw [if_pos c, if_pos hs]
theorem gR_fact {T : Int → Int} {n p : Int} {s : List Bool} (ho : gOut T n) (hn : n ≤ 150) (h0 : 0 ≤ p) (c : ¬ (T p = 33 ∨ T p = 40)) (hf : 0 ≤ gFact T p) : gR T p s true = gR T (gFact T p) (gEnd s) false := by
  unfold gR
  show (if T p = 33 ∨ T p = 40 then _ else _) = _
  rw [if_neg c, if_neg (by omega)]
  rcases gFact_ge (T := T) h0 with ⟨q, hq, e⟩ | h
  · omega
  · exact gRun_fuel ho 199 200 _ _ _ (by omega) (by omega) (by omega) (by decide) (by decide)
theorem gR_bad {T : Int → Int} {p : Int} {s : List Bool} (c : ¬ (T p = 33 ∨ T p = 40)) (hf : gFact T p < 0) : gR T p s true = gFact T p := by
  unfold gR
  show (if T p = 33 ∨ T p = 40 then _ else _) = _
  rw [if_neg c, if_pos hf]
theorem gR_and {T : Int → Int} {n p : Int} {s : List Bool} (ho : gOut T n) (hn : n ≤ 150) (h0 : 0 ≤ p) (c : T p = 38 ∨ T p = 124) : gR T p s false = gR T (p + 1) s true := by
  unfold gR
  show (if T p = 38 ∨ T p = 124 then _ else _) = _
  rw [if_pos c]
  exact gRun_fuel ho 199 200 _ _ _ (by omega) (by omega) (by omega) (by decide) (by decide)
theorem gR_close {T : Int → Int} {n p : Int} {b : Bool} {s : List Bool} (ho : gOut T n) (hn : n ≤ 150) (h0 : 0 ≤ p) (c : T p = 41) : gR T p (b :: s) false = gR T (p + 1) (gEnd s) false := by
  unfold gR
  show (if T p = 38 ∨ T p = 124 then _ else if T p = 41 ∧ (b :: s) ≠ [] then _ else _) = _
  rw [if_neg (by omega), if_pos ⟨c, by simp⟩]
  exact gRun_fuel ho 199 200 _ _ _ (by omega) (by omega) (by omega) (by decide) (by decide)
theorem gR_stop {T : Int → Int} {p : Int} {s : List Bool} (c1 : ¬ (T p = 38 ∨ T p = 124)) (c2 : ¬ T p = 41 ∨ s = []) : gR T p s false = if s = [] then p else -1 - p := by
  unfold gR
  show (if T p = 38 ∨ T p = 124 then _ else if T p = 41 ∧ s ≠ [] then _ else _) = _
  rw [if_neg c1, if_neg (fun q => c2.elim (fun z => z q.1) (fun z => q.2 z))]
theorem gEnd_f {s : List Bool} : gEnd (false :: s) = false :: s := rfl
theorem gEnd_t {s : List Bool} : gEnd (true :: s) = gEnd s := rfl
theorem gEnd_e : ∀ s : List Bool, gEnd (gEnd s) = gEnd s
  | [] => rfl
  | true :: s => gEnd_e s
  | false :: s => rfl
theorem gEnd_len : ∀ s : List Bool, (gEnd s).length ≤ s.length
  | [] => Nat.le_refl _
  | true :: s => by have := gEnd_len s; show (gEnd s).length ≤ s.length + 1; omega
  | false :: s => Nat.le_refl _
theorem gDig_t {c : Int} (h : 48 ≤ c ∧ c ≤ 57) : gDig c = true := by unfold gDig; rw [decide_eq_true h.1, decide_eq_true h.2]; rfl
theorem gDig_i {c : Int} (h : gDig c = true) : 48 ≤ c ∧ c ≤ 57 := by
  unfold gDig at h
  rw [Bool.and_eq_true] at h
  exact ⟨of_decide_eq_true h.1, of_decide_eq_true h.2⟩
/-- a number half read: k digits, the value v, the place p -/
def gNs (T : Int → Int) (a p0 k v p : Int) : Prop := (k = 0 ∧ v = 0 ∧ p = p0) ∨ (k = 1 ∧ v = 0 ∧ p = p0 + 1 ∧ T p0 = 48) ∨ ((1 ≤ k ∧ k ≤ a) ∧ 1 ≤ v ∧ p = p0 + k ∧ ¬ T p0 = 48 ∧ gNumE T (a - 1).toNat (p0 + 1) (T p0 - 48) = gNumE T (a - k).toNat p v)
theorem gNs.step {T : Int → Int} {a p0 k v p k1 v1 p1 c : Int} (h : gNs T a p0 k v p) (ha : k < a) (hd : gDig (T p) = true) (hc : T p = c) (hv : k = 0 ∨ 0 < v) (ek : k1 = k + 1) (ev : v1 = 10 * v + c - 48) (ep : p1 = p + 1) : gNs T a p0 k1 v1 p1 := by
  subst ek; subst ep; subst hc; subst ev
  have d := gDig_i hd
  rcases h with ⟨h1, h2, h3⟩ | ⟨h1, h2, h3, h4⟩ | ⟨h1, h2, h3, h4, h5⟩
  · subst h3
    by_cases g : T p = 48
    · exact Or.inr (Or.inl ⟨by omega, by omega, rfl, g⟩)
    · refine Or.inr (Or.inr ⟨by omega, by omega, by omega, g, ?_⟩)
      rw [show a - (k + 1) = a - 1 by omega, show 10 * v + T p - 48 = T p - 48 by omega]
  · exfalso; omega
  · refine Or.inr (Or.inr ⟨by omega, by omega, by omega, h4, ?_⟩)
    rw [h5, show (a - k).toNat = (a - (k + 1)).toNat + 1 by omega]
    show (if gDig (T p) then _ else _) = _
    rw [if_pos hd]
theorem gNs.fin {T : Int → Int} {a p0 k v p : Int} (h : gNs T a p0 k v p) (ha : 1 ≤ a) (h0 : gDig (T p0) = true) (he : a ≤ k ∨ ¬ gDig (T p) = true ∨ (¬ k = 0 ∧ v ≤ 0)) : gNum T a.toNat p0 = (p, v) ∧ p0 < p := by
  unfold gNum
  rw [if_pos h0]
  rcases h with ⟨h1, h2, h3⟩ | ⟨h1, h2, h3, h4⟩ | ⟨h1, h2, h3, h4, h5⟩
  · exfalso
    rcases he with he | he | he
    · omega
    · rw [h3] at he; exact he h0
    · exact he.1 h1
  · rw [if_pos h4, h3, h2]; exact ⟨rfl, by omega⟩
  · rw [if_neg h4, show a.toNat - 1 = (a - 1).toNat by omega, h5]
    refine ⟨?_, by omega⟩
    by_cases g : a ≤ k
    · rw [show (a - k).toNat = 0 by omega]; rfl
    · rcases he with he | he | he
      · omega
      · rw [show (a - k).toNat = (a - k - 1).toNat + 1 by omega]
        show (if gDig (T p) then _ else _) = _
        rw [if_neg he]
      · omega
/-- what reading an F does, from p, with o signs open: w is 0 and it ends at q, or w is 1 and the fault lies at q -/
def gFa (T : Int → Int) (o p w q : Int) : Prop := ∀ s : List Bool, (s.length : Int) = o → (w = 0 ∧ p < q ∧ gR T p s true = gR T q (gEnd s) false) ∨ (w = 1 ∧ gR T p s true = -1 - q)
/-- what reading some F's does, where no ! waits -/
def gLp (T : Int → Int) (o p w q : Int) : Prop := ∀ s : List Bool, (s.length : Int) = o → gEnd s = s → (w = 0 ∧ p < q ∧ gR T p s true = gR T q s false) ∨ (w = 1 ∧ gR T p s true = -1 - q)
theorem gFa.lp {T : Int → Int} {o p w q : Int} (h : gFa T o p w q) : gLp T o p w q := by
  intro s hs he
  rcases h s hs with ⟨a, b, c⟩ | ⟨a, b⟩
  · rw [he] at c; exact Or.inl ⟨a, b, c⟩
  · exact Or.inr ⟨a, b⟩
theorem gLp.and {T : Int → Int} {n o p w q r : Int} (ho : gOut T n) (hn : n ≤ 150) (h0 : 0 ≤ p) (h : gLp T o p 0 q) (c : T q = 38 ∨ T q = 124) (h2 : gLp T o (q + 1) w r) : gLp T o p w r := by
  intro s hs he
  rcases h s hs he with ⟨_, b, e⟩ | ⟨a, _⟩
  · have e2 := gR_and (s := s) ho hn (by omega : 0 ≤ q) c
    rcases h2 s hs he with ⟨a2, b2, e3⟩ | ⟨a2, e3⟩
    · exact Or.inl ⟨a2, by omega, e.trans (e2.trans e3)⟩
    · exact Or.inr ⟨a2, e.trans (e2.trans e3)⟩
  · omega
theorem gFa.not {T : Int → Int} {n o p w q : Int} (ho : gOut T n) (hn : n ≤ 150) (h0 : 0 ≤ p) (c : T p = 33) (h6 : o < 6) (h : gFa T (o + 1) (p + 1) w q) : gFa T o p w q := by
  intro s hs
  have e := gR_open (s := s) ho hn h0 (Or.inl c) (by omega)
  rw [decide_eq_true c] at e
  rcases h (true :: s) (by show ((s.length + 1 : Nat) : Int) = o + 1; omega) with ⟨a, b, e2⟩ | ⟨a, e2⟩
  · exact Or.inl ⟨a, by omega, e.trans e2⟩
  · exact Or.inr ⟨a, e.trans e2⟩
theorem gFa.par {T : Int → Int} {n o p q : Int} (ho : gOut T n) (hn : n ≤ 150) (h0 : 0 ≤ p) (c : T p = 40) (h6 : o < 6) (h : gLp T (o + 1) (p + 1) 0 q) (c2 : T q = 41) : gFa T o p 0 (q + 1) := by
  intro s hs
  have e := gR_open (s := s) ho hn h0 (Or.inr c) (by omega)
  rw [decide_eq_false (by omega : ¬ T p = 33)] at e
  rcases h (false :: s) (by show ((s.length + 1 : Nat) : Int) = o + 1; omega) rfl with ⟨a, b, e2⟩ | ⟨a, _⟩
  · have e3 := gR_close (b := false) (s := s) ho hn (by omega : 0 ≤ q) c2
    exact Or.inl ⟨rfl, by omega, e.trans (e2.trans e3)⟩
  · omega
theorem gFa.parN {T : Int → Int} {n o p q : Int} (ho : gOut T n) (hn : n ≤ 150) (h0 : 0 ≤ p) (c : T p = 40) (h6 : o < 6) (h : gLp T (o + 1) (p + 1) 0 q) (c1 : ¬ (T q = 38 ∨ T q = 124)) (c2 : ¬ T q = 41) : gFa T o p 1 q := by
  intro s hs
  have e := gR_open (s := s) ho hn h0 (Or.inr c) (by omega)
  rw [decide_eq_false (by omega : ¬ T p = 33)] at e
  rcases h (false :: s) (by show ((s.length + 1 : Nat) : Int) = o + 1; omega) rfl with ⟨a, b, e2⟩ | ⟨a, _⟩
  · have e3 := gR_stop (s := false :: s) c1 (Or.inl c2)
    rw [if_neg (by simp)] at e3
    exact Or.inr ⟨rfl, e.trans (e2.trans e3)⟩
  · omega
theorem gFa.parW {T : Int → Int} {n o p q : Int} (ho : gOut T n) (hn : n ≤ 150) (h0 : 0 ≤ p) (c : T p = 40) (h6 : o < 6) (h : gLp T (o + 1) (p + 1) 1 q) : gFa T o p 1 q := by
  intro s hs
  have e := gR_open (s := s) ho hn h0 (Or.inr c) (by omega)
  rw [decide_eq_false (by omega : ¬ T p = 33)] at e
  rcases h (false :: s) (by show ((s.length + 1 : Nat) : Int) = o + 1; omega) rfl with ⟨a, _⟩ | ⟨a, e2⟩
  · omega
  · exact Or.inr ⟨rfl, e.trans e2⟩
theorem gFa.full {T : Int → Int} {o p : Int} (c : T p = 33 ∨ T p = 40) (h6 : o = 6) : gFa T o p 1 p := fun s hs => Or.inr ⟨rfl, gR_full c (by omega)⟩
theorem gFa.fact {T : Int → Int} {n o p q : Int} (ho : gOut T n) (hn : n ≤ 150) (h0 : 0 ≤ p) (c : ¬ (T p = 33 ∨ T p = 40)) (hf : gFact T p = q) (hq : p < q) : gFa T o p 0 q := by
  intro s hs
  have e := gR_fact (s := s) ho hn h0 c (by omega)
  rw [hf] at e
  exact Or.inl ⟨rfl, hq, e⟩
theorem gFa.bad {T : Int → Int} {o p q : Int} (c : ¬ (T p = 33 ∨ T p = 40)) (hf : gFact T p = -1 - q) (hq : 0 ≤ q) : gFa T o p 1 q := by
  intro s hs
  have e := gR_bad (s := s) c (by omega)
  rw [hf] at e
  exact Or.inr ⟨rfl, e⟩
theorem gFa.o {T : Int → Int} {n o p : Int} (ho : gOut T n) (hn : n ≤ 150) (h0 : 0 ≤ p) (c : T p = 111) : gFa T o p 0 (p + 1) := by
  refine gFa.fact ho hn h0 (by omega) ?_ (by omega)
  unfold gFact
  rw [if_pos c]
theorem gFa.n {T : Int → Int} {o p : Int} (h0 : 0 ≤ p) (c : ¬ (T p = 33 ∨ T p = 40)) (c2 : ¬ (T p = 111 ∨ T p = 97 ∨ T p = 103 ∨ T p = 104 ∨ T p = 102 ∨ T p = 115 ∨ T p = 112)) : gFa T o p 1 p := by
  refine gFa.bad c ?_ h0
  unfold gFact
  rw [if_neg (by omega), if_neg (by omega), if_neg (by omega)]
theorem gFa.s1 {T : Int → Int} {o p : Int} (h0 : 0 ≤ p) (c : T p = 115 ∨ T p = 112) (c2 : ¬ T (p + 1) = 61) : gFa T o p 1 (p + 1) := by
  refine gFa.bad (by omega) ?_ (by omega)
  unfold gFact
  rw [if_neg (by omega), if_neg (by omega), if_pos c, if_neg c2]
theorem gFa.s2 {T : Int → Int} {o p : Int} (h0 : 0 ≤ p) (c : T p = 115 ∨ T p = 112) (c2 : T (p + 1) = 61) (c3 : ¬ gDig (T (p + 2)) = true) : gFa T o p 1 (p + 2) := by
  refine gFa.bad (by omega) ?_ (by omega)
  unfold gFact
  rw [if_neg (by omega), if_neg (by omega), if_pos c, if_pos c2]
  unfold gNum
  rw [if_neg c3]
theorem gFa.s3 {T : Int → Int} {n o p q z : Int} (ho : gOut T n) (hn : n ≤ 150) (h0 : 0 ≤ p) (c : T p = 115 ∨ T p = 112) (c2 : T (p + 1) = 61) (c3 : gNum T 1 (p + 2) = (q, z)) (hq : p + 2 < q) : gFa T o p 0 q := by
  refine gFa.fact ho hn h0 (by omega) ?_ (by omega)
  unfold gFact
  rw [if_neg (by omega), if_neg (by omega), if_pos c, if_pos c2, c3]
theorem gFa.a1 {T : Int → Int} {o p : Int} (h0 : 0 ≤ p) (c : T p = 97 ∨ T p = 103 ∨ T p = 104 ∨ T p = 102) (c2 : ¬ (T (p + 1) = 60 ∨ T (p + 1) = 62)) : gFa T o p 1 (p + 1) := by
  refine gFa.bad (by omega) ?_ (by omega)
  unfold gFact
  rw [if_neg (by omega), if_pos c, if_neg c2]
theorem gFa.a2 {T : Int → Int} {o p : Int} (h0 : 0 ≤ p) (c : T p = 97 ∨ T p = 103 ∨ T p = 104 ∨ T p = 102) (c2 : T (p + 1) = 60 ∨ T (p + 1) = 62) (c3 : ¬ gDig (T (p + 2)) = true) : gFa T o p 1 (p + 2) := by
  refine gFa.bad (by omega) ?_ (by omega)
  unfold gFact
  rw [if_neg (by omega), if_pos c, if_pos c2]
  unfold gNum
  rw [if_neg c3]
theorem gFa.a3 {T : Int → Int} {n o p q z : Int} (ho : gOut T n) (hn : n ≤ 150) (h0 : 0 ≤ p) (c : T p = 97 ∨ T p = 103 ∨ T p = 104 ∨ T p = 102) (c2 : T (p + 1) = 60 ∨ T (p + 1) = 62) (c3 : gNum T 2 (p + 2) = (q, z)) (hq : p + 2 < q) : gFa T o p 0 q := by
  refine gFa.fact ho hn h0 (by omega) ?_ (by omega)
  unfold gFact
  rw [if_neg (by omega), if_pos c, if_pos c2, c3]
