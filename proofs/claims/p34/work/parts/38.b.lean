/-- a NAME of a set of NAMES -/
def gSel (a b : Int) : Int := ((Int32.ofInt a >>> (Int32.ofInt b &&& 31)) &&& Int32.ofInt 1).toInt
theorem gSel_of {a b v w : Int} (h1 : Int32.ofInt a >>> (Int32.ofInt b &&& 31) = Int32.ofInt v) (h2 : Int32.ofInt v &&& Int32.ofInt 1 = Int32.ofInt w) (hw : 0 ≤ w ∧ w ≤ 1) : w = gSel a b := by
  unfold gSel
  rw [h1, h2]
  exact (gi_toInt ⟨by omega, by omega⟩).symm
def gOK (P K W : Int → Int) (i j : Int) : Prop := W (P i * 6 + P j) < 99 ∧ W (P i * 6 + P j) ≤ K j - K i
/-- the nights in their order -/
def gOne (N P K W : Int → Int) (n a : Int) : Prop := ∀ i j : Int, 0 ≤ i → i < j → j < n → gSel a (N i) = 1 → gSel a (N j) = 1 → (∀ k : Int, i < k → k < j → ¬ gSel a (N k) = 1) → gOK P K W i j
def gBf2 (N : Int → Int) (a n b : Int) : Prop := (b = -1 ∧ ∀ k : Int, 0 ≤ k → k < n → ¬ gSel a (N k) = 1) ∨ ((0 ≤ b ∧ b < n) ∧ gSel a (N b) = 1 ∧ ∀ k : Int, b < k → k < n → ¬ gSel a (N k) = 1)
theorem gOne.z {N P K W : Int → Int} {a n : Int} (h : n = 0) : gOne N P K W n a := fun i j h0 h1 h2 => by omega
theorem gBf2.z {N : Int → Int} {a n b : Int} (h : n = 0) (hb : b = -1) : gBf2 N a n b := Or.inl ⟨hb, fun k h0 h1 => by omega⟩
theorem gOne.no {N P K W : Int → Int} {a n n1 : Int} (h : gOne N P K W n a) (hs : ¬ gSel a (N n) = 1) (e : n1 = n + 1) : gOne N P K W n1 a := by
  intro i j h0 h1 h2 si sj hk
  by_cases g : j = n
  · rw [g] at sj; exact absurd sj hs
  · exact h i j h0 h1 (by omega) si sj hk
theorem gBf2.no {N : Int → Int} {a n n1 b : Int} (h : gBf2 N a n b) (hs : ¬ gSel a (N n) = 1) (e : n1 = n + 1) : gBf2 N a n1 b := by
  rcases h with ⟨h, q⟩ | ⟨h, s, q⟩
  · refine Or.inl ⟨h, fun k h0 h1 => ?_⟩
    by_cases g : k = n
    · rw [g]; exact hs
    · exact q k h0 (by omega)
  · refine Or.inr ⟨by omega, s, fun k h0 h1 => ?_⟩
    by_cases g : k = n
    · rw [g]; exact hs
    · exact q k h0 (by omega)
theorem gOne.yes {N P K W : Int → Int} {a n n1 b : Int} (h : gOne N P K W n a) (hb : gBf2 N a n b) (ok : b = -1 ∨ gOK P K W b n) (e : n1 = n + 1) : gOne N P K W n1 a := by
  intro i j h0 h1 h2 si sj hk
  by_cases g : j = n
  · subst g
    rcases hb with ⟨hb, q⟩ | ⟨hb, s, q⟩
    · exact absurd si (q i h0 h1)
    · have hi : i = b := by
        by_cases g1 : i < b
        · exact absurd s (hk b g1 hb.2)
        · by_cases g2 : b < i
          · exact absurd si (q i g2 h1)
          · omega
      rcases ok with ok | ok
      · omega
      · rw [hi]; exact ok
  · exact h i j h0 h1 (by omega) si sj hk
theorem gBf2.yes {N : Int → Int} {a n n1 b : Int} (h0 : 0 ≤ n) (hs : gSel a (N n) = 1) (e : n1 = n + 1) (hb : b = n) : gBf2 N a n1 b := Or.inr ⟨by omega, by rw [hb]; exact hs, fun k h0 h1 => by omega⟩
theorem gOne.bad {N P K W : Int → Int} {a n m b : Int} (hb : gBf2 N a n b) (hn : ¬ b = -1) (hm : n < m) (hs : gSel a (N n) = 1) (ok : ¬ gOK P K W b n) : ¬ gOne N P K W m a := by
  intro h
  rcases hb with ⟨hb, q⟩ | ⟨hb, s, q⟩
  · exact hn hb
  · exact ok (h b n hb.1 hb.2 hm s hs q)
/-- the nights as they were told, by their weeks -/
def gKy (K : Int → Int) (j : Int) : Int := K j * 40 + j
theorem gKy_inj {K : Int → Int} {i j : Int} (hi : 0 ≤ i ∧ i < 40) (hj : 0 ≤ j ∧ j < 40) (h : gKy K i = gKy K j) : i = j := by unfold gKy at h; omega
def gLt (K : Int → Int) (b j : Int) : Prop := b = -1 ∨ gKy K b < gKy K j
def gNxt (N K : Int → Int) (a b n z : Int) : Prop := (z = -1 ∧ ∀ j : Int, 0 ≤ j → j < n → gSel a (N j) = 1 → ¬ gLt K b j) ∨ ((0 ≤ z ∧ z < n) ∧ gSel a (N z) = 1 ∧ gLt K b z ∧ ∀ j : Int, 0 ≤ j → j < n → gSel a (N j) = 1 → gLt K b j → gKy K z ≤ gKy K j)
theorem gNxt.z {N K : Int → Int} {a b n z : Int} (h : n = 0) (hz : z = -1) : gNxt N K a b n z := Or.inl ⟨hz, fun j h0 h1 => by omega⟩
theorem gNxt.no {N K : Int → Int} {a b n n1 z z1 : Int} (h : gNxt N K a b n z) (hs : ¬ (gSel a (N n) = 1 ∧ gLt K b n)) (e : n1 = n + 1) (hz : z1 = z) : gNxt N K a b n1 z1 := by
  subst hz
  rcases h with ⟨h, q⟩ | ⟨h, s, l, q⟩
  · refine Or.inl ⟨h, fun j h0 h1 sj => ?_⟩
    by_cases g : j = n
    · rw [g] at sj ⊢; exact fun t => hs ⟨sj, t⟩
    · exact q j h0 (by omega) sj
  · refine Or.inr ⟨by omega, s, l, fun j h0 h1 sj lj => ?_⟩
    by_cases g : j = n
    · rw [g] at sj lj; exact absurd ⟨sj, lj⟩ hs
    · exact q j h0 (by omega) sj lj
theorem gNxt.keep {N K : Int → Int} {a b n n1 z z1 : Int} (h : gNxt N K a b n z) (hn : n < 40) (hz0 : ¬ z = -1) (hk : K z ≤ K n) (e : n1 = n + 1) (hz : z1 = z) : gNxt N K a b n1 z1 := by
  subst hz
  rcases h with ⟨h, q⟩ | ⟨h, s, l, q⟩
  · exact absurd h hz0
  · refine Or.inr ⟨by omega, s, l, fun j h0 h1 sj lj => ?_⟩
    by_cases g : j = n
    · rw [g]; unfold gKy; omega
    · exact q j h0 (by omega) sj lj
theorem gNxt.take {N K : Int → Int} {a b n n1 z z1 : Int} (h : gNxt N K a b n z) (h0 : 0 ≤ n) (hn : n < 40) (hs : gSel a (N n) = 1) (hl : gLt K b n) (hk : z = -1 ∨ K n < K z) (e : n1 = n + 1) (hz : z1 = n) : gNxt N K a b n1 z1 := by
  subst hz
  refine Or.inr ⟨by omega, hs, hl, fun j g0 g1 sj lj => ?_⟩
  by_cases g : j = z1
  · rw [g]; exact Int.le_refl _
  · rcases h with ⟨h, q⟩ | ⟨h, s, l, q⟩
    · exact absurd lj (q j g0 (by omega) sj)
    · have q1 := q j g0 (by omega) sj lj
      unfold gKy at q1 ⊢
      omega
def gOneR (N P K W : Int → Int) (m a : Int) : Prop := ∀ i j : Int, 0 ≤ i → i < m → 0 ≤ j → j < m → gKy K i < gKy K j → gSel a (N i) = 1 → gSel a (N j) = 1 → (∀ k : Int, 0 ≤ k → k < m → gKy K i < gKy K k → gKy K k < gKy K j → ¬ gSel a (N k) = 1) → gOK P K W i j
/-- all pairs up to a night are right -/
def gUp (N P K W : Int → Int) (m a t : Int) : Prop := (0 ≤ t ∧ t < m) ∧ gSel a (N t) = 1 ∧ ∀ i j : Int, 0 ≤ i → i < m → 0 ≤ j → j < m → gKy K i < gKy K j → gKy K j ≤ gKy K t → gSel a (N i) = 1 → gSel a (N j) = 1 → (∀ k : Int, 0 ≤ k → k < m → gKy K i < gKy K k → gKy K k < gKy K j → ¬ gSel a (N k) = 1) → gOK P K W i j
def gAt (N P K W : Int → Int) (m a t c : Int) : Prop := (c = 1 ∧ ((t = -1 ∧ gOneR N P K W m a) ∨ gUp N P K W m a t)) ∨ (c = 0 ∧ ¬ gOneR N P K W m a)
theorem gAt.first {N P K W : Int → Int} {m a z : Int} (h : gNxt N K a (-1) m z) : gAt N P K W m a z 1 := by
  rcases h with ⟨h, q⟩ | ⟨h, s, l, q⟩
  · exact Or.inl ⟨rfl, Or.inl ⟨h, fun i j h0 h1 h2 h3 h4 si sj hk => absurd (Or.inl rfl) (q i h0 h1 si)⟩⟩
  · exact Or.inl ⟨rfl, Or.inr ⟨h, s, fun i j h0 h1 h2 h3 h4 h5 si sj hk => by
      have q1 := q i h0 h1 si (Or.inl rfl)
      omega⟩⟩
theorem gAt.last {N P K W : Int → Int} {m a t : Int} (h : gUp N P K W m a t) (hz : gNxt N K a t m (-1)) : gOneR N P K W m a := by
  intro i j h0 h1 h2 h3 h4 si sj hk
  rcases hz with ⟨hz, q⟩ | ⟨hz, _⟩
  · have q1 := q j h2 h3 sj
    refine h.2.2 i j h0 h1 h2 h3 h4 ?_ si sj hk
    by_cases g : gKy K j ≤ gKy K t
    · exact g
    · exact absurd (Or.inr (by omega)) q1
  · omega
theorem gAt.next {N P K W : Int → Int} {m a t z : Int} (hm : m ≤ 40) (h : gUp N P K W m a t) (hz : gNxt N K a t m z) (hz0 : ¬ z = -1) (ok : gOK P K W t z) : gUp N P K W m a z := by
  obtain ⟨ht, st, hu⟩ := h
  rcases hz with ⟨hz, _⟩ | ⟨hz, sz, lz, q⟩
  · exact absurd hz hz0
  · have lt : gKy K t < gKy K z := by rcases lz with l | l; (omega); exact l
    refine ⟨hz, sz, fun i j h0 h1 h2 h3 h4 h5 si sj hk => ?_⟩
    by_cases g : gKy K j ≤ gKy K t
    · exact hu i j h0 h1 h2 h3 h4 g si sj hk
    · have q1 := q j h2 h3 sj (Or.inr (by omega))
      have ej : j = z := gKy_inj (K := K) ⟨h2, by omega⟩ ⟨hz.1, by omega⟩ (by omega)
      have ei : i = t := by
        by_cases g1 : gKy K i < gKy K t
        · exact absurd st (hk t ht.1 ht.2 g1 (by omega))
        · by_cases g2 : gKy K t < gKy K i
          · have q2 := q i h0 h1 si (Or.inr g2)
            omega
          · exact gKy_inj (K := K) ⟨h0, by omega⟩ ⟨ht.1, by omega⟩ (by omega)
      rw [ei, ej]; exact ok
theorem gAt.bad {N P K W : Int → Int} {m a t z : Int} (h : gUp N P K W m a t) (hz : gNxt N K a t m z) (hz0 : ¬ z = -1) (ok : ¬ gOK P K W t z) : ¬ gOneR N P K W m a := by
  intro ho
  obtain ⟨ht, st, hu⟩ := h
  rcases hz with ⟨hz, _⟩ | ⟨hz, sz, lz, q⟩
  · exact hz0 hz
  · have lt : gKy K t < gKy K z := by rcases lz with l | l; (omega); exact l
    refine ok (ho t z ht.1 ht.2 hz.1 hz.2 lt st sz (fun k h0 h1 h2 h3 sk => ?_))
    have q1 := q k h0 h1 sk (Or.inr h2)
    omega
/-- the class' nights lie in the order of the weeks -/
def gPerm (N P K N2 P2 K2 : Int → Int) (n m : Int) : Prop := n = m ∧ ∃ f : Int → Int, (∀ i : Int, 0 ≤ i → i < n → (0 ≤ f i ∧ f i < m) ∧ N i = N2 (f i) ∧ P i = P2 (f i) ∧ K i = K2 (f i)) ∧ (∀ i j : Int, 0 ≤ i → i < j → j < n → gKy K2 (f i) < gKy K2 (f j)) ∧ (∀ j : Int, 0 ≤ j → j < m → ∃ i : Int, (0 ≤ i ∧ i < n) ∧ f i = j)
theorem gPerm.mv {N P K N2 P2 K2 N' P' K' N2' P2' K2' : Int → Int} {n m n' m' : Int} (h : gPerm N P K N2 P2 K2 n m) (hm : m ≤ 40) (cN : ∀ b : Int, 0 ≤ b → b < 40 → N' b = N b) (cP : ∀ b : Int, 0 ≤ b → b < 40 → P' b = P b) (cK : ∀ b : Int, 0 ≤ b → b < 40 → K' b = K b) (rN : ∀ b : Int, 0 ≤ b → b < 40 → N2' b = N2 b) (rP : ∀ b : Int, 0 ≤ b → b < 40 → P2' b = P2 b) (rK : ∀ b : Int, 0 ≤ b → b < 40 → K2' b = K2 b) (en : n' = n) (em : m' = m) : gPerm N' P' K' N2' P2' K2' n' m' := by
  subst en; subst em
  obtain ⟨e, f, h1, h2, h3⟩ := h
  refine ⟨e, f, fun i i0 i1 => ?_, fun i j i0 i1 i2 => ?_, h3⟩
  · obtain ⟨a1, a2, a3, a4⟩ := h1 i i0 i1
    rw [cN i i0 (by omega), cP i i0 (by omega), cK i i0 (by omega), rN _ a1.1 (by omega), rP _ a1.1 (by omega), rK _ a1.1 (by omega)]
    exact ⟨a1, a2, a3, a4⟩
  · have a := (h1 i i0 (by omega)).1
    have b := (h1 j (by omega) i2).1
    have q := h2 i j i0 i1 i2
    unfold gKy at q ⊢
    rw [rK _ a.1 (by omega), rK _ b.1 (by omega)]
    exact q
theorem gPerm.lt {N P K N2 P2 K2 : Int → Int} {n m : Int} {f : Int → Int} (h2 : ∀ i j : Int, 0 ≤ i → i < j → j < n → gKy K2 (f i) < gKy K2 (f j)) {i j : Int} (i0 : 0 ≤ i) (i1 : i < n) (j0 : 0 ≤ j) (j1 : j < n) (h : gKy K2 (f i) < gKy K2 (f j)) : i < j := by
  by_cases g : i < j
  · exact g
  · by_cases g2 : i = j
    · rw [g2] at h; omega
    · have := h2 j i j0 (by omega) i1
      omega
theorem gPerm.one {N P K N2 P2 K2 W W2 : Int → Int} {n m a : Int} (h : gPerm N P K N2 P2 K2 n m) (hP : ∀ i : Int, 0 ≤ i → i < n → 0 ≤ P i ∧ P i < 6) (hW : ∀ k : Int, 0 ≤ k → k < 36 → W k = W2 k) : gOne N P K W n a ↔ gOneR N2 P2 K2 W2 m a := by
  obtain ⟨e, f, h1, h2, h3⟩ := h
  have hok : ∀ i j : Int, 0 ≤ i → i < n → 0 ≤ j → j < n → (gOK P K W i j ↔ gOK P2 K2 W2 (f i) (f j)) := by
    intro i j i0 i1 j0 j1
    obtain ⟨a1, a2, a3, a4⟩ := h1 i i0 i1
    obtain ⟨b1, b2, b3, b4⟩ := h1 j j0 j1
    have p1 := hP i i0 i1
    have p2 := hP j j0 j1
    unfold gOK
    rw [hW (P i * 6 + P j) (by omega) (by omega), a3, b3, a4, b4]
  constructor
  · intro ho i j i0 i1 j0 j1 lt si sj hk
    obtain ⟨i', hi, rfl⟩ := h3 i i0 i1
    obtain ⟨j', hj, rfl⟩ := h3 j j0 j1
    have l := gPerm.lt (N := N) (P := P) (K := K) (N2 := N2) (P2 := P2) (m := m) h2 hi.1 hi.2 hj.1 hj.2 lt
    refine (hok i' j' hi.1 hi.2 hj.1 hj.2).mp (ho i' j' hi.1 l hj.2 ?_ ?_ (fun k k0 k1 sk => ?_))
    · rw [(h1 i' hi.1 hi.2).2.1]; exact si
    · rw [(h1 j' hj.1 hj.2).2.1]; exact sj
    · obtain ⟨c1, c2, _⟩ := h1 k (by omega) (by omega)
      rw [c2] at sk
      exact hk (f k) c1.1 c1.2 (h2 i' k hi.1 k0 (by omega)) (h2 k j' (by omega) k1 hj.2) sk
  · intro ho i j i0 ij jn si sj hk
    obtain ⟨a1, a2, _⟩ := h1 i i0 (by omega)
    obtain ⟨b1, b2, _⟩ := h1 j (by omega) jn
    refine (hok i j i0 (by omega) (by omega) jn).mpr (ho (f i) (f j) a1.1 a1.2 b1.1 b1.2 (h2 i j i0 ij jn) (by rw [← a2]; exact si) (by rw [← b2]; exact sj) (fun k k0 k1 l1 l2 sk => ?_))
    obtain ⟨k', hk', rfl⟩ := h3 k k0 k1
    have q1 := gPerm.lt (N := N) (P := P) (K := K) (N2 := N2) (P2 := P2) (m := m) h2 i0 (by omega) hk'.1 hk'.2 l1
    have q2 := gPerm.lt (N := N) (P := P) (K := K) (N2 := N2) (P2 := P2) (m := m) h2 hk'.1 hk'.2 (by omega) jn l2
    refine hk k' q1 q2 ?_
    rw [(h1 k' hk'.1 hk'.2).2.1]; exact sk
/-- a NIGHT is told: it comes behind those of its WEEK -/
theorem gPerm.add {N P K N2 P2 K2 N' P' K' N2' P2' K2' : Int → Int} {n m n' m' p x y w : Int} (h : gPerm N P K N2 P2 K2 n m) (hm : m < 40) (p0 : 0 ≤ p) (p1 : p ≤ n)
  (lo : ∀ k : Int, 0 ≤ k → k < p → N' k = N k ∧ P' k = P k ∧ K' k = K k) (hi : ∀ k : Int, p ≤ k → k < n → N' (k + 1) = N k ∧ P' (k + 1) = P k ∧ K' (k + 1) = K k ∧ w < K k) (at0 : N' p = x ∧ P' p = y ∧ K' p = w) (bel : p = 0 ∨ K (p - 1) ≤ w)
  (rs : ∀ k : Int, 0 ≤ k → k < m → N2' k = N2 k ∧ P2' k = P2 k ∧ K2' k = K2 k) (r0 : N2' m = x ∧ P2' m = y ∧ K2' m = w) (en : n' = n + 1) (em : m' = m + 1) : gPerm N' P' K' N2' P2' K2' n' m' := by
  obtain ⟨e, f, h1, h2, h3⟩ := h
  subst en; subst em
  have ky : ∀ k : Int, 0 ≤ k → k < m → gKy K2' k = gKy K2 k := fun k k0 k1 => by unfold gKy; rw [(rs k k0 k1).2.2]
  have kym : gKy K2' m = w * 40 + m := by unfold gKy; rw [r0.2.2]
  have kw : ∀ i : Int, 0 ≤ i → i < p → K i ≤ w := by
    intro i i0 i1
    rcases bel with b | b
    · omega
    · by_cases g : i = p - 1
      · rw [g]; exact b
      · have q := h2 i (p - 1) i0 (by omega) (by omega)
        obtain ⟨a1, _, _, a4⟩ := h1 i i0 (by omega)
        obtain ⟨b1, _, _, b4⟩ := h1 (p - 1) (by omega) (by omega)
        unfold gKy at q
        rw [← a4, ← b4] at q
        omega
  obtain ⟨F, F1, F2, F3⟩ : ∃ F : Int → Int, (∀ i : Int, i < p → F i = f i) ∧ F p = m ∧ (∀ i : Int, p < i → F i = f (i - 1)) := ⟨fun i => if i < p then f i else if i = p then m else f (i - 1), fun i g => if_pos g, by show (if p < p then f p else if p = p then m else f (p - 1)) = m; rw [if_neg (by omega), if_pos rfl], fun i g => by show (if i < p then f i else if i = p then m else f (i - 1)) = f (i - 1); rw [if_neg (by omega), if_neg (by omega)]⟩
  have old : ∀ k : Int, 0 ≤ k → k < n → gKy K2' (f k) = K k * 40 + f k := fun k k0 k1 => by
    obtain ⟨a1, _, _, a4⟩ := h1 k k0 k1
    rw [ky _ a1.1 a1.2]; unfold gKy; rw [a4]
  have mono : ∀ i j : Int, 0 ≤ i → i < j → j < n → gKy K2' (f i) < gKy K2' (f j) := fun i j i0 ij jn => by
    rw [ky _ (h1 i i0 (by omega)).1.1 (h1 i i0 (by omega)).1.2, ky _ (h1 j (by omega) jn).1.1 (h1 j (by omega) jn).1.2]
    exact h2 i j i0 ij jn
  refine ⟨by omega, F, fun i i0 i1 => ?_, fun i j i0 i1 i2 => ?_, fun j j0 j1 => ?_⟩
  · by_cases g : i < p
    · rw [F1 i g]
      obtain ⟨a1, a2, a3, a4⟩ := h1 i i0 (by omega)
      obtain ⟨l1, l2, l3⟩ := lo i i0 g
      obtain ⟨r1, r2, r3⟩ := rs _ a1.1 a1.2
      exact ⟨⟨a1.1, by omega⟩, by rw [l1, r1]; exact a2, by rw [l2, r2]; exact a3, by rw [l3, r3]; exact a4⟩
    · by_cases g2 : i = p
      · rw [g2, F2]
        exact ⟨⟨by omega, by omega⟩, by rw [at0.1, r0.1], by rw [at0.2.1, r0.2.1], by rw [at0.2.2, r0.2.2]⟩
      · rw [F3 i (by omega)]
        obtain ⟨a1, a2, a3, a4⟩ := h1 (i - 1) (by omega) (by omega)
        obtain ⟨l1, l2, l3, _⟩ := hi (i - 1) (by omega) (by omega)
        obtain ⟨r1, r2, r3⟩ := rs _ a1.1 a1.2
        rw [show i - 1 + 1 = i by omega] at l1 l2 l3
        exact ⟨⟨a1.1, by omega⟩, by rw [l1, r1]; exact a2, by rw [l2, r2]; exact a3, by rw [l3, r3]; exact a4⟩
  · by_cases g : i < p
    · rw [F1 i g]
      by_cases g3 : j < p
      · rw [F1 j g3]; exact mono i j i0 i1 (by omega)
      · by_cases g4 : j = p
        · rw [g4, F2, old i i0 (by omega), kym]
          have := kw i i0 g
          have := (h1 i i0 (by omega)).1
          omega
        · rw [F3 j (by omega)]; exact mono i (j - 1) i0 (by omega) (by omega)
    · by_cases g2 : i = p
      · rw [g2, F2, F3 j (by omega), kym, old (j - 1) (by omega) (by omega)]
        have := (hi (j - 1) (by omega) (by omega)).2.2.2
        have := (h1 (j - 1) (by omega) (by omega)).1
        omega
      · rw [F3 i (by omega), F3 j (by omega)]; exact mono (i - 1) (j - 1) (by omega) (by omega) (by omega)
  · by_cases g : j = m
    · exact ⟨p, ⟨by omega, by omega⟩, by rw [F2, g]⟩
    · obtain ⟨i, hi2, hf⟩ := h3 j j0 (by omega)
      by_cases g2 : i < p
      · exact ⟨i, ⟨hi2.1, by omega⟩, by rw [F1 i g2]; exact hf⟩
      · exact ⟨i + 1, ⟨by omega, by omega⟩, by rw [F3 (i + 1) (by omega), show i + 1 - 1 = i by omega]; exact hf⟩
theorem gPerm.z {N P K N2 P2 K2 : Int → Int} {n m : Int} (h : n = 0) (h2 : m = 0) : gPerm N P K N2 P2 K2 n m := ⟨by omega, fun k => k, fun i h0 h1 => by omega, fun i j h0 h1 h2 => by omega, fun j h0 h1 => by omega⟩
def gRN (M : gM) (k : Int) : Int := M 191 (k + 2440)
def gRP (M : gM) (k : Int) : Int := M 191 (k + 2480)
def gRK (M : gM) (k : Int) : Int := M 191 (k + 2520)
abbrev R_s_X10_sleep2 : Room := { frames := 0, cells := 0, slots := 0, locals := 0 }
set_option maxRecDepth 100000 in
set_option maxHeartbeats 4000000 in
theorem s_X10_sleep2 {l : Launch} {n0 : Nat} {D : va_G} {cA : Nat → ClassId} {M : gM} (a : Int) (r_a : 0 ≤ a ∧ a ≤ 7) (b : Int) (r_b : 0 ≤ b ∧ b ≤ 5) (c : Int) (r_c : 0 ≤ c ∧ c ≤ 300) {sz : Nat} (hsz : 206 ≤ sz) (I : gI sz M) (C : gC sz M) (hn : M 26 3 < 40)  : Met l yX10_sleep (gWsOf yX10_sleep cX10_sleep 5 (Option.none : Option Jvm.ClassFile.FieldType)) R_s_X10_sleep2 (gPc n0 D cA [gA n0 26, gJ a, gJ b, gJ c] M sz) (gQv n0 D cA sz (fun M1 => gI sz M1 ∧ gC sz M1 ∧ gFr 393216 M M1 ∧ (∃ p : Int, (0 ≤ p ∧ p ≤ M 26 3) ∧ (∀ k : Int, 0 ≤ k → k < p → M1 27 k = M 27 k ∧ M1 28 k = M 28 k ∧ M1 29 k = M 29 k) ∧ (∀ k : Int, p ≤ k → k < M 26 3 → M1 27 (k + 1) = M 27 k ∧ M1 28 (k + 1) = M 28 k ∧ M1 29 (k + 1) = M 29 k ∧ c < M 29 k) ∧ (M1 27 p = a ∧ M1 28 p = b ∧ M1 29 p = c) ∧ (p = 0 ∨ M 29 (p - 1) ≤ c) ∧ M1 26 3 = M 26 3 + 1))) 0 0 (fun q => n0 ≤ q) := by
  refine gMetV [gA n0 26, gJ a, gJ b, gJ c] (by decide) (Nat.le_of_ble_eq_true rfl) ⟨rfl, rfl⟩ ?_
  intro p e s m args below meth cd Q X hq
  have X : gCx p s m args meth cd n0 D cA "ParishUnion$Vagrants" cX10_sleep 5 := X
  show G p l e R_s_X10_sleep2 s m args below meth cd n0 D cA 5 Q 0 0 M sz 0 [(0, gA n0 26), (1, gJ a), (2, gJ b), (3, gJ c)] []
  obtain ⟨v1, hv1, rv1⟩ := gRd I (by decide) (gsz hsz (by decide)) rc_26_3.1
  refine g_aload_n (n := 1) X 0 dX10_sleep_0 rfl rfl rfl ?_
  refine gg_10_3 (n := 4) (z := v1) X (by decide) (gsz hsz (by decide)) lay_26 kw_1_159 dX10_sleep_1 rfl hv1 ?_
  refine g_bipush (n := 6) X dX10_sleep_4 (by decide +kernel) rfl ?_
  refine g_icmp_lt (n := 9) (tgt := 10) X dX10_sleep_6 (by decide) (by omega) (by omega) rfl (fun c2 => ?_) (fun c2 => ?_)
  · refine g_aload_n (n := 11) X 0 dX10_sleep_10 rfl rfl rfl ?_
    refine gg_10_3 (n := 14) (z := v1) X (by decide) (gsz hsz (by decide)) lay_26 kw_1_159 dX10_sleep_11 rfl hv1 ?_
    refine g_istore (n := 16) (L' := [(4, gJ v1), (0, gA n0 26), (1, gJ a), (2, gJ b), (3, gJ c)]) X dX10_sleep_14 (by decide) rfl rfl ?_
    have j5 : ∀ (N60 : Nat) (v3 : Int) (M4 : gM) , (0 ≤ v3 ∧ v3 ≤ 39) → gI sz M4 → gC sz M4 → gFr 131072 M M4 → (∀ k : Int, v3 ≤ k → k < M 26 3 → M4 27 (k + 1) = M 27 k ∧ M4 28 (k + 1) = M 28 k ∧ M4 29 (k + 1) = M 29 k ∧ c < M 29 k) → (∀ k : Int, 0 ≤ k → k ≤ v3 → M4 27 k = M 27 k ∧ M4 28 k = M 28 k ∧ M4 29 k = M 29 k) → (v3 ≤ M 26 3) → (v3 - 0).toNat < N60 → G p l e R_s_X10_sleep2 s m args below meth cd n0 D cA 5 Q 0 0 M4 sz 16 [(0, gA n0 26), (1, gJ a), (2, gJ b), (3, gJ c), (4, gJ v3)] [] := by
      intro N60; induction N60 with
      | zero => intro v3 M4 rv3 IM4 CM4 FM4 hi hl hI hm62; exfalso; omega
      | succ N60 ih61 =>
        intro v3 M4 rv3 IM4 CM4 FM4 hi hl hI hm62
        refine g_iload (n := 18) X 4 dX10_sleep_16 rfl rfl ?_
        refine g_if_le (n := 21) (tgt := 88) X dX10_sleep_18 (by decide) (by omega) rfl (fun c63 => ?_) (fun c63 => ?_)
        · refine g_aload_n (n := 89) X 0 dX10_sleep_88 rfl rfl rfl ?_
          refine gg_10_0 (n := 92) (z := 27) X (by decide) (gsz hsz (by decide)) lay_26 kw_1_156 dX10_sleep_89 rfl (rf_26_0 IM4 (gsz hsz (by decide))) (by decide) ?_
          refine g_iload (n := 94) X 4 dX10_sleep_92 rfl rfl ?_
          refine g_iload_n (n := 95) X 1 dX10_sleep_94 rfl rfl rfl ?_
          refine g_iast (n := 96) X (by decide) (gsz hsz (by decide)) lay_27 (by omega) (by omega) (by decide) dX10_sleep_95 rfl ?_
          refine G.nm (fun M64 e65 => ?_)
          have IM64 : gI sz M64 := gI.set IM4 (ra_27 v3).1 (by omega) e65
          have CM64 : gC sz M64 := gC.set CM4 (ra_27 v3).2.1 e65
          refine g_aload_n (n := 97) X 0 dX10_sleep_96 rfl rfl rfl ?_
          refine gg_10_1 (n := 100) (z := 28) X (by decide) (gsz hsz (by decide)) lay_26 kw_1_157 dX10_sleep_97 rfl (rf_26_1 IM64 (gsz hsz (by decide))) (by decide) ?_
          refine g_iload (n := 102) X 4 dX10_sleep_100 rfl rfl ?_
          refine g_iload_n (n := 103) X 2 dX10_sleep_102 rfl rfl rfl ?_
          refine g_iast (n := 104) X (by decide) (gsz hsz (by decide)) lay_28 (by omega) (by omega) (by decide) dX10_sleep_103 rfl ?_
          refine G.nm (fun M66 e67 => ?_)
          have IM66 : gI sz M66 := gI.set IM64 (ra_28 v3).1 (by omega) e67
          have CM66 : gC sz M66 := gC.set CM64 (ra_28 v3).2.1 e67
          refine g_aload_n (n := 105) X 0 dX10_sleep_104 rfl rfl rfl ?_
          refine gg_10_2 (n := 108) (z := 29) X (by decide) (gsz hsz (by decide)) lay_26 kw_1_158 dX10_sleep_105 rfl (rf_26_2 IM66 (gsz hsz (by decide))) (by decide) ?_
          refine g_iload (n := 110) X 4 dX10_sleep_108 rfl rfl ?_
          refine g_iload_n (n := 111) X 3 dX10_sleep_110 rfl rfl rfl ?_
          refine g_iast (n := 112) X (by decide) (gsz hsz (by decide)) lay_29 (by omega) (by omega) (by decide) dX10_sleep_111 rfl ?_
          refine G.nm (fun M68 e69 => ?_)
          have IM68 : gI sz M68 := gI.set IM66 (ra_29 v3).1 (by omega) e69
          have CM68 : gC sz M68 := gC.set CM66 (ra_29 v3).2.1 e69
          refine g_aload_n (n := 113) X 0 dX10_sleep_112 rfl rfl rfl ?_
          refine g_dup (n := 114) X dX10_sleep_113 rfl rfl ?_
          refine gg_10_3 (n := 117) (z := v1) X (by decide) (gsz hsz (by decide)) lay_26 kw_1_159 dX10_sleep_114 rfl ((congrFun (congrFun e69 _) _).trans ((gset_ne (by omega)).trans ((congrFun (congrFun e67 _) _).trans ((gset_ne (by omega)).trans ((congrFun (congrFun e65 _) _).trans ((gset_ne (by omega)).trans ((gFr.at FM4 rc_26_3.2.2 rfl).trans hv1))))))) ?_
          refine g_iconst (n := 118) X dX10_sleep_117 rfl ?_
          refine g_iadd (n := 119) (z := v1 + 1) X dX10_sleep_118 (by omega) rfl ?_
          refine gp_10_3 (n := 122) X (by decide) (gsz hsz (by decide)) lay_26 kw_1_159 dX10_sleep_119 rfl ?_
          refine G.nm (fun M70 e71 => ?_)
          have IM70 : gI sz M70 := gI.set IM68 rc_26_3.1 (by omega) e71
          have CM70 : gC sz M70 := gC.set CM68 rc_26_3.2.1 e71
          exact hq _ _ _ dX10_sleep_122 ⟨IM70, CM70, (gFr.s (gFr.s (gFr.s (gFr.s (gFr.c gFr.rf FM4 rfl) e65 (ra_27 v3).2.2 rfl) e67 (ra_28 v3).2.2 rfl) e69 (ra_29 v3).2.2 rfl) e71 rc_26_3.2.2 rfl), ⟨v3, ⟨by omega, by have q1 := hv1; omega⟩, (fun k h0 h1 => ⟨((congrFun (congrFun e71 _) _).trans ((gset_ne (by omega)).trans ((congrFun (congrFun e69 _) _).trans ((gset_ne (by omega)).trans ((congrFun (congrFun e67 _) _).trans ((gset_ne (by omega)).trans ((congrFun (congrFun e65 _) _).trans ((gset_ne (by omega)).trans (hl k h0 (by omega)).1)))))))), ((congrFun (congrFun e71 _) _).trans ((gset_ne (by omega)).trans ((congrFun (congrFun e69 _) _).trans ((gset_ne (by omega)).trans ((congrFun (congrFun e67 _) _).trans ((gset_ne (by omega)).trans ((congrFun (congrFun e65 _) _).trans ((gset_ne (by omega)).trans (hl k h0 (by omega)).2.1)))))))), ((congrFun (congrFun e71 _) _).trans ((gset_ne (by omega)).trans ((congrFun (congrFun e69 _) _).trans ((gset_ne (by omega)).trans ((congrFun (congrFun e67 _) _).trans ((gset_ne (by omega)).trans ((congrFun (congrFun e65 _) _).trans ((gset_ne (by omega)).trans (hl k h0 (by omega)).2.2))))))))⟩), (fun k h0 h1 => ⟨((congrFun (congrFun e71 _) _).trans ((gset_ne (by omega)).trans ((congrFun (congrFun e69 _) _).trans ((gset_ne (by omega)).trans ((congrFun (congrFun e67 _) _).trans ((gset_ne (by omega)).trans ((congrFun (congrFun e65 _) _).trans ((gset_ne (by omega)).trans (hi k h0 h1).1)))))))), ((congrFun (congrFun e71 _) _).trans ((gset_ne (by omega)).trans ((congrFun (congrFun e69 _) _).trans ((gset_ne (by omega)).trans ((congrFun (congrFun e67 _) _).trans ((gset_ne (by omega)).trans ((congrFun (congrFun e65 _) _).trans ((gset_ne (by omega)).trans (hi k h0 h1).2.1)))))))), ((congrFun (congrFun e71 _) _).trans ((gset_ne (by omega)).trans ((congrFun (congrFun e69 _) _).trans ((gset_ne (by omega)).trans ((congrFun (congrFun e67 _) _).trans ((gset_ne (by omega)).trans ((congrFun (congrFun e65 _) _).trans ((gset_ne (by omega)).trans (hi k h0 h1).2.2.1)))))))), (hi k h0 h1).2.2.2⟩), ⟨((congrFun (congrFun e71 _) _).trans ((gset_ne (by omega)).trans ((congrFun (congrFun e69 _) _).trans ((gset_ne (by omega)).trans ((congrFun (congrFun e67 _) _).trans ((gset_ne (by omega)).trans ((congrFun (congrFun e65 _) _).trans (gset_eq _ _ _ _)))))))), ((congrFun (congrFun e71 _) _).trans ((gset_ne (by omega)).trans ((congrFun (congrFun e69 _) _).trans ((gset_ne (by omega)).trans ((congrFun (congrFun e67 _) _).trans (gset_eq _ _ _ _)))))), ((congrFun (congrFun e71 _) _).trans ((gset_ne (by omega)).trans ((congrFun (congrFun e69 _) _).trans (gset_eq _ _ _ _))))⟩, (by first | exact Or.inl (by omega) | exact Or.inr (by have q1 := (hl (v3 - 1) (by omega) (by omega)).2.2; have q2 := hv42; omega)), (by have q1 := ((congrFun (congrFun e71 _) _).trans (gset_eq _ _ _ _)); have q2 := hv1; omega)⟩⟩
        · refine g_aload_n (n := 22) X 0 dX10_sleep_21 rfl rfl rfl ?_
          refine gg_10_2 (n := 25) (z := 29) X (by decide) (gsz hsz (by decide)) lay_26 kw_1_158 dX10_sleep_22 rfl (rf_26_2 IM4 (gsz hsz (by decide))) (by decide) ?_
          refine g_iload (n := 27) X 4 dX10_sleep_25 rfl rfl ?_
          refine g_iconst (n := 28) X dX10_sleep_27 rfl ?_
          refine g_isub (n := 29) (z := v3 - 1) X dX10_sleep_28 (by omega) rfl ?_
          obtain ⟨v72, hv72, rv72⟩ := gRd IM4 (by decide) (gsz hsz (by decide)) (ra_29 (v3 - 1)).1
          refine g_iald2 (n := 30) (v := v72) X (by decide) (gsz hsz (by decide)) lay_29 (by omega) (by omega) (by decide) dX10_sleep_29 rfl hv72 ?_
          refine g_iload_n (n := 31) X 3 dX10_sleep_30 rfl rfl rfl ?_
          refine g_icmp_le (n := 34) (tgt := 88) X dX10_sleep_31 (by decide) (by omega) (by omega) rfl (fun c73 => ?_) (fun c73 => ?_)
          · refine g_aload_n (n := 89) X 0 dX10_sleep_88 rfl rfl rfl ?_
            refine gg_10_0 (n := 92) (z := 27) X (by decide) (gsz hsz (by decide)) lay_26 kw_1_156 dX10_sleep_89 rfl (rf_26_0 IM4 (gsz hsz (by decide))) (by decide) ?_
            refine g_iload (n := 94) X 4 dX10_sleep_92 rfl rfl ?_
            refine g_iload_n (n := 95) X 1 dX10_sleep_94 rfl rfl rfl ?_
            refine g_iast (n := 96) X (by decide) (gsz hsz (by decide)) lay_27 (by omega) (by omega) (by decide) dX10_sleep_95 rfl ?_
            refine G.nm (fun M74 e75 => ?_)
            have IM74 : gI sz M74 := gI.set IM4 (ra_27 v3).1 (by omega) e75
            have CM74 : gC sz M74 := gC.set CM4 (ra_27 v3).2.1 e75
            refine g_aload_n (n := 97) X 0 dX10_sleep_96 rfl rfl rfl ?_
            refine gg_10_1 (n := 100) (z := 28) X (by decide) (gsz hsz (by decide)) lay_26 kw_1_157 dX10_sleep_97 rfl (rf_26_1 IM74 (gsz hsz (by decide))) (by decide) ?_
            refine g_iload (n := 102) X 4 dX10_sleep_100 rfl rfl ?_
            refine g_iload_n (n := 103) X 2 dX10_sleep_102 rfl rfl rfl ?_
            refine g_iast (n := 104) X (by decide) (gsz hsz (by decide)) lay_28 (by omega) (by omega) (by decide) dX10_sleep_103 rfl ?_
            refine G.nm (fun M76 e77 => ?_)
            have IM76 : gI sz M76 := gI.set IM74 (ra_28 v3).1 (by omega) e77
            have CM76 : gC sz M76 := gC.set CM74 (ra_28 v3).2.1 e77
            refine g_aload_n (n := 105) X 0 dX10_sleep_104 rfl rfl rfl ?_
            refine gg_10_2 (n := 108) (z := 29) X (by decide) (gsz hsz (by decide)) lay_26 kw_1_158 dX10_sleep_105 rfl (rf_26_2 IM76 (gsz hsz (by decide))) (by decide) ?_
            refine g_iload (n := 110) X 4 dX10_sleep_108 rfl rfl ?_
            refine g_iload_n (n := 111) X 3 dX10_sleep_110 rfl rfl rfl ?_
            refine g_iast (n := 112) X (by decide) (gsz hsz (by decide)) lay_29 (by omega) (by omega) (by decide) dX10_sleep_111 rfl ?_
            refine G.nm (fun M78 e79 => ?_)
            have IM78 : gI sz M78 := gI.set IM76 (ra_29 v3).1 (by omega) e79
            have CM78 : gC sz M78 := gC.set CM76 (ra_29 v3).2.1 e79
            refine g_aload_n (n := 113) X 0 dX10_sleep_112 rfl rfl rfl ?_
            refine g_dup (n := 114) X dX10_sleep_113 rfl rfl ?_
            refine gg_10_3 (n := 117) (z := v1) X (by decide) (gsz hsz (by decide)) lay_26 kw_1_159 dX10_sleep_114 rfl ((congrFun (congrFun e79 _) _).trans ((gset_ne (by omega)).trans ((congrFun (congrFun e77 _) _).trans ((gset_ne (by omega)).trans ((congrFun (congrFun e75 _) _).trans ((gset_ne (by omega)).trans ((gFr.at FM4 rc_26_3.2.2 rfl).trans hv1))))))) ?_
            refine g_iconst (n := 118) X dX10_sleep_117 rfl ?_
            refine g_iadd (n := 119) (z := v1 + 1) X dX10_sleep_118 (by omega) rfl ?_
            refine gp_10_3 (n := 122) X (by decide) (gsz hsz (by decide)) lay_26 kw_1_159 dX10_sleep_119 rfl ?_
            refine G.nm (fun M80 e81 => ?_)
            have IM80 : gI sz M80 := gI.set IM78 rc_26_3.1 (by omega) e81
            have CM80 : gC sz M80 := gC.set CM78 rc_26_3.2.1 e81
            exact hq _ _ _ dX10_sleep_122 ⟨IM80, CM80, (gFr.s (gFr.s (gFr.s (gFr.s (gFr.c gFr.rf FM4 rfl) e75 (ra_27 v3).2.2 rfl) e77 (ra_28 v3).2.2 rfl) e79 (ra_29 v3).2.2 rfl) e81 rc_26_3.2.2 rfl), ⟨v3, ⟨by omega, by have q1 := hv1; omega⟩, (fun k h0 h1 => ⟨((congrFun (congrFun e81 _) _).trans ((gset_ne (by omega)).trans ((congrFun (congrFun e79 _) _).trans ((gset_ne (by omega)).trans ((congrFun (congrFun e77 _) _).trans ((gset_ne (by omega)).trans ((congrFun (congrFun e75 _) _).trans ((gset_ne (by omega)).trans (hl k h0 (by omega)).1)))))))), ((congrFun (congrFun e81 _) _).trans ((gset_ne (by omega)).trans ((congrFun (congrFun e79 _) _).trans ((gset_ne (by omega)).trans ((congrFun (congrFun e77 _) _).trans ((gset_ne (by omega)).trans ((congrFun (congrFun e75 _) _).trans ((gset_ne (by omega)).trans (hl k h0 (by omega)).2.1)))))))), ((congrFun (congrFun e81 _) _).trans ((gset_ne (by omega)).trans ((congrFun (congrFun e79 _) _).trans ((gset_ne (by omega)).trans ((congrFun (congrFun e77 _) _).trans ((gset_ne (by omega)).trans ((congrFun (congrFun e75 _) _).trans ((gset_ne (by omega)).trans (hl k h0 (by omega)).2.2))))))))⟩), (fun k h0 h1 => ⟨((congrFun (congrFun e81 _) _).trans ((gset_ne (by omega)).trans ((congrFun (congrFun e79 _) _).trans ((gset_ne (by omega)).trans ((congrFun (congrFun e77 _) _).trans ((gset_ne (by omega)).trans ((congrFun (congrFun e75 _) _).trans ((gset_ne (by omega)).trans (hi k h0 h1).1)))))))), ((congrFun (congrFun e81 _) _).trans ((gset_ne (by omega)).trans ((congrFun (congrFun e79 _) _).trans ((gset_ne (by omega)).trans ((congrFun (congrFun e77 _) _).trans ((gset_ne (by omega)).trans ((congrFun (congrFun e75 _) _).trans ((gset_ne (by omega)).trans (hi k h0 h1).2.1)))))))), ((congrFun (congrFun e81 _) _).trans ((gset_ne (by omega)).trans ((congrFun (congrFun e79 _) _).trans ((gset_ne (by omega)).trans ((congrFun (congrFun e77 _) _).trans ((gset_ne (by omega)).trans ((congrFun (congrFun e75 _) _).trans ((gset_ne (by omega)).trans (hi k h0 h1).2.2.1)))))))), (hi k h0 h1).2.2.2⟩), ⟨((congrFun (congrFun e81 _) _).trans ((gset_ne (by omega)).trans ((congrFun (congrFun e79 _) _).trans ((gset_ne (by omega)).trans ((congrFun (congrFun e77 _) _).trans ((gset_ne (by omega)).trans ((congrFun (congrFun e75 _) _).trans (gset_eq _ _ _ _)))))))), ((congrFun (congrFun e81 _) _).trans ((gset_ne (by omega)).trans ((congrFun (congrFun e79 _) _).trans ((gset_ne (by omega)).trans ((congrFun (congrFun e77 _) _).trans (gset_eq _ _ _ _)))))), ((congrFun (congrFun e81 _) _).trans ((gset_ne (by omega)).trans ((congrFun (congrFun e79 _) _).trans (gset_eq _ _ _ _))))⟩, (by first | exact Or.inl (by omega) | exact Or.inr (by have q1 := (hl (v3 - 1) (by omega) (by omega)).2.2; have q2 := hv72; omega)), (by have q1 := ((congrFun (congrFun e81 _) _).trans (gset_eq _ _ _ _)); have q2 := hv1; omega)⟩⟩
          · refine g_aload_n (n := 35) X 0 dX10_sleep_34 rfl rfl rfl ?_
            refine gg_10_0 (n := 38) (z := 27) X (by decide) (gsz hsz (by decide)) lay_26 kw_1_156 dX10_sleep_35 rfl (rf_26_0 IM4 (gsz hsz (by decide))) (by decide) ?_
            refine g_iload (n := 40) X 4 dX10_sleep_38 rfl rfl ?_
            refine g_aload_n (n := 41) X 0 dX10_sleep_40 rfl rfl rfl ?_
            refine gg_10_0 (n := 44) (z := 27) X (by decide) (gsz hsz (by decide)) lay_26 kw_1_156 dX10_sleep_41 rfl (rf_26_0 IM4 (gsz hsz (by decide))) (by decide) ?_
            refine g_iload (n := 46) X 4 dX10_sleep_44 rfl rfl ?_
            refine g_iconst (n := 47) X dX10_sleep_46 rfl ?_
            refine g_isub (n := 48) (z := v3 - 1) X dX10_sleep_47 (by omega) rfl ?_
            obtain ⟨v82, hv82, rv82⟩ := gRd IM4 (by decide) (gsz hsz (by decide)) (ra_27 (v3 - 1)).1
            refine g_iald2 (n := 49) (v := v82) X (by decide) (gsz hsz (by decide)) lay_27 (by omega) (by omega) (by decide) dX10_sleep_48 rfl hv82 ?_
            refine g_iast (n := 50) X (by decide) (gsz hsz (by decide)) lay_27 (by omega) (by omega) (by decide) dX10_sleep_49 rfl ?_
            refine G.nm (fun M83 e84 => ?_)
            have IM83 : gI sz M83 := gI.set IM4 (ra_27 v3).1 (by omega) e84
            have CM83 : gC sz M83 := gC.set CM4 (ra_27 v3).2.1 e84
            refine g_aload_n (n := 51) X 0 dX10_sleep_50 rfl rfl rfl ?_
            refine gg_10_1 (n := 54) (z := 28) X (by decide) (gsz hsz (by decide)) lay_26 kw_1_157 dX10_sleep_51 rfl (rf_26_1 IM83 (gsz hsz (by decide))) (by decide) ?_
            refine g_iload (n := 56) X 4 dX10_sleep_54 rfl rfl ?_
            refine g_aload_n (n := 57) X 0 dX10_sleep_56 rfl rfl rfl ?_
            refine gg_10_1 (n := 60) (z := 28) X (by decide) (gsz hsz (by decide)) lay_26 kw_1_157 dX10_sleep_57 rfl (rf_26_1 IM83 (gsz hsz (by decide))) (by decide) ?_
            refine g_iload (n := 62) X 4 dX10_sleep_60 rfl rfl ?_
            refine g_iconst (n := 63) X dX10_sleep_62 rfl ?_
            refine g_isub (n := 64) (z := v3 - 1) X dX10_sleep_63 (by omega) rfl ?_
            obtain ⟨v85, hv85, rv85⟩ := gRd IM83 (by decide) (gsz hsz (by decide)) (ra_28 (v3 - 1)).1
            refine g_iald2 (n := 65) (v := v85) X (by decide) (gsz hsz (by decide)) lay_28 (by omega) (by omega) (by decide) dX10_sleep_64 rfl hv85 ?_
            refine g_iast (n := 66) X (by decide) (gsz hsz (by decide)) lay_28 (by omega) (by omega) (by decide) dX10_sleep_65 rfl ?_
            refine G.nm (fun M86 e87 => ?_)
            have IM86 : gI sz M86 := gI.set IM83 (ra_28 v3).1 (by omega) e87
            have CM86 : gC sz M86 := gC.set CM83 (ra_28 v3).2.1 e87
            refine g_aload_n (n := 67) X 0 dX10_sleep_66 rfl rfl rfl ?_
            refine gg_10_2 (n := 70) (z := 29) X (by decide) (gsz hsz (by decide)) lay_26 kw_1_158 dX10_sleep_67 rfl (rf_26_2 IM86 (gsz hsz (by decide))) (by decide) ?_
            refine g_iload (n := 72) X 4 dX10_sleep_70 rfl rfl ?_
            refine g_aload_n (n := 73) X 0 dX10_sleep_72 rfl rfl rfl ?_
            refine gg_10_2 (n := 76) (z := 29) X (by decide) (gsz hsz (by decide)) lay_26 kw_1_158 dX10_sleep_73 rfl (rf_26_2 IM86 (gsz hsz (by decide))) (by decide) ?_
            refine g_iload (n := 78) X 4 dX10_sleep_76 rfl rfl ?_
            refine g_iconst (n := 79) X dX10_sleep_78 rfl ?_
            refine g_isub (n := 80) (z := v3 - 1) X dX10_sleep_79 (by omega) rfl ?_
            refine g_iald2 (n := 81) (v := v72) X (by decide) (gsz hsz (by decide)) lay_29 (by omega) (by omega) (by decide) dX10_sleep_80 rfl ((congrFun (congrFun e87 _) _).trans ((gset_ne (by omega)).trans ((congrFun (congrFun e84 _) _).trans ((gset_ne (by omega)).trans hv72)))) ?_
            refine g_iast (n := 82) X (by decide) (gsz hsz (by decide)) lay_29 (by omega) (by omega) (by decide) dX10_sleep_81 rfl ?_
            refine G.nm (fun M88 e89 => ?_)
            have IM88 : gI sz M88 := gI.set IM86 (ra_29 v3).1 (by omega) e89
            have CM88 : gC sz M88 := gC.set CM86 (ra_29 v3).2.1 e89
            refine g_iinc (n := 85) (w := v3 - 1) (L' := [(4, gJ (v3 - 1)), (0, gA n0 26), (1, gJ a), (2, gJ b), (3, gJ c)]) X 4 dX10_sleep_82 rfl rfl (by decide) rfl rfl ?_
            refine g_goto (tgt := 16) X dX10_sleep_85 (by decide) ?_
            refine G.sub (L' := [(0, gA n0 26), (1, gJ a), (2, gJ b), (3, gJ c), (4, gJ (v3 - 1))]) [1, 2, 3, 4, 0] rfl ?_
            exact ih61 (v3 - 1) M88 (by omega) IM88 CM88 (gFr.s (gFr.s (gFr.s (gFr.c gFr.rf FM4 rfl) e84 (ra_27 v3).2.2 rfl) e87 (ra_28 v3).2.2 rfl) e89 (ra_29 v3).2.2 rfl) (fun k h0 h1 => if g : k = v3 - 1 then (by rw [g]; exact ⟨(by rw [show v3 - 1 + 1 = v3 by omega]; exact (((congrFun (congrFun e89 _) _).trans ((gset_ne (by omega)).trans ((congrFun (congrFun e87 _) _).trans ((gset_ne (by omega)).trans ((congrFun (congrFun e84 _) _).trans (gset_eq _ _ _ _))))))).trans ((hv82).symm.trans (hl (v3 - 1) (by omega) (by omega)).1)), (by rw [show v3 - 1 + 1 = v3 by omega]; exact (((congrFun (congrFun e89 _) _).trans ((gset_ne (by omega)).trans ((congrFun (congrFun e87 _) _).trans (gset_eq _ _ _ _))))).trans (((((congrFun (congrFun e84 _) _).trans ((gset_ne (by omega)).trans rfl))).symm.trans hv85).symm.trans (hl (v3 - 1) (by omega) (by omega)).2.1)), (by rw [show v3 - 1 + 1 = v3 by omega]; exact (((congrFun (congrFun e89 _) _).trans (gset_eq _ _ _ _))).trans ((hv72).symm.trans (hl (v3 - 1) (by omega) (by omega)).2.2)), (by have q1 := (hl (v3 - 1) (by omega) (by omega)).2.2; have q2 := hv72; omega)⟩) else ⟨((congrFun (congrFun e89 _) _).trans ((gset_ne (by omega)).trans ((congrFun (congrFun e87 _) _).trans ((gset_ne (by omega)).trans ((congrFun (congrFun e84 _) _).trans ((gset_ne (by omega)).trans (hi k (by omega) h1).1)))))), ((congrFun (congrFun e89 _) _).trans ((gset_ne (by omega)).trans ((congrFun (congrFun e87 _) _).trans ((gset_ne (by omega)).trans ((congrFun (congrFun e84 _) _).trans ((gset_ne (by omega)).trans (hi k (by omega) h1).2.1)))))), ((congrFun (congrFun e89 _) _).trans ((gset_ne (by omega)).trans ((congrFun (congrFun e87 _) _).trans ((gset_ne (by omega)).trans ((congrFun (congrFun e84 _) _).trans ((gset_ne (by omega)).trans (hi k (by omega) h1).2.2.1)))))), (hi k (by omega) h1).2.2.2⟩) (fun k h0 h1 => ⟨((congrFun (congrFun e89 _) _).trans ((gset_ne (by omega)).trans ((congrFun (congrFun e87 _) _).trans ((gset_ne (by omega)).trans ((congrFun (congrFun e84 _) _).trans ((gset_ne (by omega)).trans (hl k h0 (by omega)).1)))))), ((congrFun (congrFun e89 _) _).trans ((gset_ne (by omega)).trans ((congrFun (congrFun e87 _) _).trans ((gset_ne (by omega)).trans ((congrFun (congrFun e84 _) _).trans ((gset_ne (by omega)).trans (hl k h0 (by omega)).2.1)))))), ((congrFun (congrFun e89 _) _).trans ((gset_ne (by omega)).trans ((congrFun (congrFun e87 _) _).trans ((gset_ne (by omega)).trans ((congrFun (congrFun e84 _) _).trans ((gset_ne (by omega)).trans (hl k h0 (by omega)).2.2))))))⟩) (by have q1 := hv1; omega) (by omega)
    refine G.sub (L' := [(0, gA n0 26), (1, gJ a), (2, gJ b), (3, gJ c), (4, gJ v1)]) [1, 2, 3, 4, 0] rfl ?_
    exact j5 _ v1 M (by omega) I C gFr.rf (fun k h0 h1 => by exfalso; have q1 := hv1; omega) (fun k h0 h1 => ⟨rfl, rfl, rfl⟩) (by have q1 := hv1; omega) (Nat.lt_succ_self _)
  · exact hq _ _ _ dX10_sleep_9 ⟨I, C, gFr.rf, (by exfalso; omega)⟩
abbrev R_s_X11_night2 : Room := { frames := 2, cells := 0, slots := 0, locals := 42 }
set_option maxRecDepth 100000 in
set_option maxHeartbeats 4000000 in
theorem s_X11_night2 {l : Launch} {n0 : Nat} {D : va_G} {cA : Nat → ClassId} {M : gM} (a : Int) (r_a : -2147483648 ≤ a ∧ a ≤ 2147483647) (b : Int) (r_b : -2147483648 ≤ b ∧ b ≤ 2147483647) (c : Int) (r_c : -2147483648 ≤ c ∧ c ≤ 2147483647) {sz : Nat} (hsz : 206 ≤ sz) (I : gI sz M) (C : gC sz M)   : Met l yX11_night (gWsOf yX11_night cX11_night 4 (Option.some Jvm.ClassFile.FieldType.int)) R_s_X11_night2 (gPc n0 D cA [gA n0 0, gJ a, gJ b, gJ c] M sz) (gQi n0 D cA sz (fun z M1 => (-4 ≤ z ∧ z ≤ 40) ∧ gI sz M1 ∧ gC sz M1 ∧ gFr 393216 M M1 ∧ ((((¬ (0 ≤ b ∧ b ≤ 5) ∧ z = -1) ∨ ((0 ≤ b ∧ b ≤ 5) ∧ ¬ ((0 ≤ a ∧ a ≤ 7) ∧ (0 ≤ c ∧ c ≤ 300)) ∧ z = -2) ∨ ((0 ≤ b ∧ b ≤ 5) ∧ ((0 ≤ a ∧ a ≤ 7) ∧ (0 ≤ c ∧ c ≤ 300)) ∧ M 26 3 = 40 ∧ z = -4)) ∧ (M1 26 3 = M 26 3 ∧ ∀ k : Int, M1 27 k = M 27 k ∧ M1 28 k = M 28 k ∧ M1 29 k = M 29 k)) ∨ (((0 ≤ b ∧ b ≤ 5) ∧ ((0 ≤ a ∧ a ≤ 7) ∧ (0 ≤ c ∧ c ≤ 300)) ∧ M 26 3 < 40 ∧ z = M 26 3 + 1) ∧ (∃ p : Int, (0 ≤ p ∧ p ≤ M 26 3) ∧ (∀ k : Int, 0 ≤ k → k < p → M1 27 k = M 27 k ∧ M1 28 k = M 28 k ∧ M1 29 k = M 29 k) ∧ (∀ k : Int, p ≤ k → k < M 26 3 → M1 27 (k + 1) = M 27 k ∧ M1 28 (k + 1) = M 28 k ∧ M1 29 (k + 1) = M 29 k ∧ c < M 29 k) ∧ (M1 27 p = a ∧ M1 28 p = b ∧ M1 29 p = c) ∧ (p = 0 ∨ M 29 (p - 1) ≤ c) ∧ M1 26 3 = M 26 3 + 1))))) 0 0 (fun q => n0 ≤ q) := by
  refine gMetI [gA n0 0, gJ a, gJ b, gJ c] (by decide) (Nat.le_of_ble_eq_true rfl) ⟨rfl, rfl⟩ ?_
  intro p e s m args below meth cd Q X hq
  have X : gCx p s m args meth cd n0 D cA "ParishUnion" cX11_night 4 := X
  show G p l e R_s_X11_night2 s m args below meth cd n0 D cA 4 Q 0 0 M sz 0 [(0, gA n0 0), (1, gJ a), (2, gJ b), (3, gJ c)] []
  obtain ⟨v1, hv1, rv1⟩ := gRd I (by decide) (gsz hsz (by decide)) rc_26_3.1
  refine g_iload_n (n := 1) X 2 dX11_night_0 rfl rfl rfl ?_
  refine g_callSi (n := 4) (As := [gJ b]) (rest := []) (cs1 := 0) (ss1 := 0) X (s_X11_isParish b (by omega) hsz I C ) okX11_isParish kw_3_26 kw_3_27 ⟨rfl, rfl⟩ ⟨Nat.le_of_ble_eq_true rfl, Nat.le_of_ble_eq_true rfl⟩ rfl rfl (Nat.le_of_ble_eq_true rfl) ⟨Nat.le_of_ble_eq_true rfl, Nat.le_of_ble_eq_true rfl⟩ rfl rfl dX11_night_1 rfl (fun v2 M3 P4 => ?_)
  obtain ⟨rfl, rv2, xv2⟩ := P4
  refine g_if_ne (n := 7) (tgt := 9) X dX11_night_4 (by decide) (by omega) rfl (fun c5 => ?_) (fun c5 => ?_)
  · refine g_iload_n (n := 10) X 1 dX11_night_9 rfl rfl rfl ?_
    refine g_iconst (n := 11) X dX11_night_10 rfl ?_
    refine g_bipush (n := 13) X dX11_night_11 (by decide +kernel) rfl ?_
    refine g_callSi (n := 16) (As := [gJ a, gJ 0, gJ 7]) (rest := []) (cs1 := 0) (ss1 := 0) X (s_X11_within a (by omega) 0 (by omega) 7 (by omega) hsz I C ) okX11_within kw_3_29 kw_3_30 ⟨rfl, rfl⟩ ⟨Nat.le_of_ble_eq_true rfl, Nat.le_of_ble_eq_true rfl⟩ rfl rfl (Nat.le_of_ble_eq_true rfl) ⟨Nat.le_of_ble_eq_true rfl, Nat.le_of_ble_eq_true rfl⟩ rfl rfl dX11_night_13 rfl (fun v6 M7 P8 => ?_)
    obtain ⟨rfl, rv6, xv6⟩ := P8
    refine g_if_eq (n := 19) (tgt := 30) X dX11_night_16 (by decide) (by omega) rfl (fun c9 => ?_) (fun c9 => ?_)
    · refine g_bipush (n := 32) X dX11_night_30 (by decide +kernel) rfl ?_
      exact hq _ _ _ _ dX11_night_32 ⟨by omega, I, C, gFr.rf, Or.inl ⟨by omega, rfl, fun k => ⟨rfl, rfl, rfl⟩⟩⟩
    · refine g_iload_n (n := 20) X 3 dX11_night_19 rfl rfl rfl ?_
      refine g_iconst (n := 21) X dX11_night_20 rfl ?_
      refine g_sipush (n := 24) X dX11_night_21 (by decide +kernel) rfl ?_
      refine g_callSi (n := 27) (As := [gJ c, gJ 0, gJ 300]) (rest := []) (cs1 := 0) (ss1 := 0) X (s_X11_within c (by omega) 0 (by omega) 300 (by omega) hsz I C ) okX11_within kw_3_29 kw_3_30 ⟨rfl, rfl⟩ ⟨Nat.le_of_ble_eq_true rfl, Nat.le_of_ble_eq_true rfl⟩ rfl rfl (Nat.le_of_ble_eq_true rfl) ⟨Nat.le_of_ble_eq_true rfl, Nat.le_of_ble_eq_true rfl⟩ rfl rfl dX11_night_24 rfl (fun v10 M11 P12 => ?_)
      obtain ⟨rfl, rv10, xv10⟩ := P12
      refine g_if_ne (n := 30) (tgt := 33) X dX11_night_27 (by decide) (by omega) rfl (fun c13 => ?_) (fun c13 => ?_)
      · refine g_aload_n (n := 34) X 0 dX11_night_33 rfl rfl rfl ?_
        refine gg_11_0 (n := 37) (z := 1) X (by decide) (gsz hsz (by decide)) lay_0 kw_2_231 dX11_night_34 rfl (rf_0_0 I (gsz hsz (by decide))) (by decide) ?_
        refine gg_9_8 (n := 40) (z := 26) X (by decide) (gsz hsz (by decide)) lay_1 kw_2_123 dX11_night_37 rfl (rf_1_8 I (gsz hsz (by decide))) (by decide) ?_
        refine gg_10_3 (n := 43) (z := v1) X (by decide) (gsz hsz (by decide)) lay_26 kw_1_160 dX11_night_40 rfl hv1 ?_
        refine g_bipush (n := 45) X dX11_night_43 (by decide +kernel) rfl ?_
        refine g_icmp_lt (n := 48) (tgt := 51) X dX11_night_45 (by decide) (by omega) (by omega) rfl (fun c14 => ?_) (fun c14 => ?_)
        · refine g_aload_n (n := 52) X 0 dX11_night_51 rfl rfl rfl ?_
          refine gg_11_0 (n := 55) (z := 1) X (by decide) (gsz hsz (by decide)) lay_0 kw_2_231 dX11_night_52 rfl (rf_0_0 I (gsz hsz (by decide))) (by decide) ?_
          refine gg_9_8 (n := 58) (z := 26) X (by decide) (gsz hsz (by decide)) lay_1 kw_2_123 dX11_night_55 rfl (rf_1_8 I (gsz hsz (by decide))) (by decide) ?_
          refine g_iload_n (n := 59) X 1 dX11_night_58 rfl rfl rfl ?_
          refine g_iload_n (n := 60) X 2 dX11_night_59 rfl rfl rfl ?_
          refine g_iload_n (n := 61) X 3 dX11_night_60 rfl rfl rfl ?_
          refine g_callVv (n := 64) (As := [gJ a, gJ b, gJ c]) (rest := []) (cs1 := 0) (ss1 := 0) X (s_X10_sleep2 a (by omega) b (by omega) c (by omega) hsz I C (by have q1 := hv1; omega)) okX10_sleep kw_5_86 ⟨kw_5_87, kw_5_88⟩ ⟨rfl, rfl⟩ ⟨Nat.le_of_ble_eq_true rfl, Nat.le_of_ble_eq_true rfl⟩ rfl (by decide) (gsz hsz (by decide)) lay_26 rfl rfl (Nat.le_of_ble_eq_true rfl) ⟨Nat.le_of_ble_eq_true rfl, Nat.le_of_ble_eq_true rfl⟩ rfl rfl dX11_night_61 rfl (fun M16 P17 => ?_)
          obtain ⟨IM16, CM16, FM16, xM16⟩ := P17
          refine g_aload_n (n := 65) X 0 dX11_night_64 rfl rfl rfl ?_
          refine gg_11_0 (n := 68) (z := 1) X (by decide) (gsz hsz (by decide)) lay_0 kw_2_231 dX11_night_65 rfl (rf_0_0 IM16 (gsz hsz (by decide))) (by decide) ?_
          refine gg_9_8 (n := 71) (z := 26) X (by decide) (gsz hsz (by decide)) lay_1 kw_2_123 dX11_night_68 rfl (rf_1_8 IM16 (gsz hsz (by decide))) (by decide) ?_
          obtain ⟨v18, hv18, rv18⟩ := gRd IM16 (by decide) (gsz hsz (by decide)) rc_26_3.1
          refine gg_10_3 (n := 74) (z := v18) X (by decide) (gsz hsz (by decide)) lay_26 kw_1_160 dX11_night_71 rfl hv18 ?_
          exact hq _ _ _ _ dX11_night_74 ⟨by omega, IM16, CM16, (gFr.c gFr.rf FM16 rfl), Or.inr ⟨⟨by omega, by omega, by omega, by have q := xM16; obtain ⟨p, _, _, _, _, _, q6⟩ := q; omega⟩, xM16⟩⟩
        · refine g_bipush (n := 50) X dX11_night_48 (by decide +kernel) rfl ?_
          exact hq _ _ _ _ dX11_night_50 ⟨by omega, I, C, gFr.rf, Or.inl ⟨by omega, rfl, fun k => ⟨rfl, rfl, rfl⟩⟩⟩
      · refine g_bipush (n := 32) X dX11_night_30 (by decide +kernel) rfl ?_
        exact hq _ _ _ _ dX11_night_32 ⟨by omega, I, C, gFr.rf, Or.inl ⟨by omega, rfl, fun k => ⟨rfl, rfl, rfl⟩⟩⟩
  · refine g_iconst (n := 8) X dX11_night_7 rfl ?_
    exact hq _ _ _ _ dX11_night_8 ⟨by omega, I, C, gFr.rf, Or.inl ⟨by omega, rfl, fun k => ⟨rfl, rfl, rfl⟩⟩⟩
abbrev R_s_X12_night2 : Room := { frames := 2, cells := 0, slots := 0, locals := 42 }
set_option maxRecDepth 100000 in
set_option maxHeartbeats 4000000 in
theorem s_X12_night2 {l : Launch} {n0 : Nat} {D : va_G} {cA : Nat → ClassId} {M : gM} (a : Int) (r_a : -2147483648 ≤ a ∧ a ≤ 2147483647) (b : Int) (r_b : -2147483648 ≤ b ∧ b ≤ 2147483647) (c : Int) (r_c : -2147483648 ≤ c ∧ c ≤ 2147483647) {sz : Nat} (hsz : 206 ≤ sz) (I : gI sz M) (C : gC sz M)   : Met l yX12_night (gWsOf yX12_night cX12_night 5 (Option.some Jvm.ClassFile.FieldType.int)) R_s_X12_night2 (gPc n0 D cA [gA n0 190, gJ a, gJ b, gJ c] M sz) (gQi n0 D cA sz (fun z M1 => (-4 ≤ z ∧ z ≤ 40) ∧ gI sz M1 ∧ gC sz M1 ∧ gFr 18015498021109760 M M1 ∧ ((((¬ (0 ≤ b ∧ b ≤ 5) ∧ z = -1) ∨ ((0 ≤ b ∧ b ≤ 5) ∧ ¬ ((0 ≤ a ∧ a ≤ 7) ∧ (0 ≤ c ∧ c ≤ 300)) ∧ z = -2) ∨ ((0 ≤ b ∧ b ≤ 5) ∧ ((0 ≤ a ∧ a ≤ 7) ∧ (0 ≤ c ∧ c ≤ 300)) ∧ M 191 6 = 40 ∧ z = -4)) ∧ (M1 191 6 = M 191 6 ∧ ∀ k : Int, 0 ≤ k → k < 40 → gRN M1 k = gRN M k ∧ gRP M1 k = gRP M k ∧ gRK M1 k = gRK M k)) ∨ (((0 ≤ b ∧ b ≤ 5) ∧ ((0 ≤ a ∧ a ≤ 7) ∧ (0 ≤ c ∧ c ≤ 300)) ∧ M 191 6 < 40 ∧ z = M 191 6 + 1) ∧ (M1 191 6 = M 191 6 + 1 ∧ (∀ k : Int, 0 ≤ k → k < M 191 6 → gRN M1 k = gRN M k ∧ gRP M1 k = gRP M k ∧ gRK M1 k = gRK M k) ∧ gRN M1 (M 191 6) = a ∧ gRP M1 (M 191 6) = b ∧ gRK M1 (M 191 6) = c))))) 0 0 (fun q => n0 ≤ q) := by
  refine gMetI [gA n0 190, gJ a, gJ b, gJ c] (by decide) (Nat.le_of_ble_eq_true rfl) ⟨rfl, rfl⟩ ?_
  intro p e s m args below meth cd Q X hq
  have X : gCx p s m args meth cd n0 D cA "ParishUnionModel" cX12_night 5 := X
  show G p l e R_s_X12_night2 s m args below meth cd n0 D cA 5 Q 0 0 M sz 0 [(0, gA n0 190), (1, gJ a), (2, gJ b), (3, gJ c)] []
  obtain ⟨v1, hv1, rv1⟩ := gRd I (by decide) (gsz hsz (by decide)) (rs_NN (k := 6) (by omega)).1
  refine g_iload_n (n := 1) X 2 dX12_night_0 rfl rfl rfl ?_
  refine g_callSi (n := 4) (As := [gJ b]) (rest := []) (cs1 := 0) (ss1 := 0) X (s_X12_isParish b (by omega) hsz I C ) okX12_isParish kw_6_103 kw_6_104 ⟨rfl, rfl⟩ ⟨Nat.le_of_ble_eq_true rfl, Nat.le_of_ble_eq_true rfl⟩ rfl rfl (Nat.le_of_ble_eq_true rfl) ⟨Nat.le_of_ble_eq_true rfl, Nat.le_of_ble_eq_true rfl⟩ rfl rfl dX12_night_1 rfl (fun v2 M3 P4 => ?_)
  obtain ⟨rfl, rv2, xv2⟩ := P4
  refine g_if_ne (n := 7) (tgt := 9) X dX12_night_4 (by decide) (by omega) rfl (fun c5 => ?_) (fun c5 => ?_)
  · refine g_iload_n (n := 10) X 1 dX12_night_9 rfl rfl rfl ?_
    refine g_iconst (n := 11) X dX12_night_10 rfl ?_
    refine g_bipush (n := 13) X dX12_night_11 (by decide +kernel) rfl ?_
    refine g_callSi (n := 16) (As := [gJ a, gJ 0, gJ 7]) (rest := []) (cs1 := 0) (ss1 := 0) X (s_X12_in a (by omega) 0 (by omega) 7 (by omega) hsz I C ) okX12_in kw_6_106 kw_6_107 ⟨rfl, rfl⟩ ⟨Nat.le_of_ble_eq_true rfl, Nat.le_of_ble_eq_true rfl⟩ rfl rfl (Nat.le_of_ble_eq_true rfl) ⟨Nat.le_of_ble_eq_true rfl, Nat.le_of_ble_eq_true rfl⟩ rfl rfl dX12_night_13 rfl (fun v6 M7 P8 => ?_)
    obtain ⟨rfl, rv6, xv6⟩ := P8
    refine g_if_eq (n := 19) (tgt := 26) X dX12_night_16 (by decide) (by omega) rfl (fun c9 => ?_) (fun c9 => ?_)
    · refine g_bipush (n := 28) X dX12_night_26 (by decide +kernel) rfl ?_
      exact hq _ _ _ _ dX12_night_28 ⟨by omega, I, C, gFr.rf, Or.inl ⟨by omega, rfl, fun k h0 h1 => ⟨rfl, rfl, rfl⟩⟩⟩
    · refine g_iload_n (n := 20) X 3 dX12_night_19 rfl rfl rfl ?_
      refine g_callSi (n := 23) (As := [gJ c]) (rest := []) (cs1 := 0) (ss1 := 0) X (s_X12_isWeek c (by omega) hsz I C ) okX12_isWeek kw_6_236 kw_6_237 ⟨rfl, rfl⟩ ⟨Nat.le_of_ble_eq_true rfl, Nat.le_of_ble_eq_true rfl⟩ rfl rfl (Nat.le_of_ble_eq_true rfl) ⟨Nat.le_of_ble_eq_true rfl, Nat.le_of_ble_eq_true rfl⟩ rfl rfl dX12_night_20 rfl (fun v10 M11 P12 => ?_)
      obtain ⟨rfl, rv10, xv10⟩ := P12
      refine g_if_ne (n := 26) (tgt := 29) X dX12_night_23 (by decide) (by omega) rfl (fun c13 => ?_) (fun c13 => ?_)
      · refine g_aload_n (n := 30) X 0 dX12_night_29 rfl rfl rfl ?_
        refine gg_12_1 (n := 33) (z := 191) X (by decide) (gsz hsz (by decide)) lay_190 kw_6_27 dX12_night_30 rfl (rf_190_1 I (gsz hsz (by decide))) (by decide) ?_
        refine g_bipush (n := 35) X dX12_night_33 (by decide +kernel) rfl ?_
        refine g_iald2 (n := 36) (v := v1) X (by decide) (gsz hsz (by decide)) lay_191 (by omega) (by omega) (by decide) dX12_night_35 rfl hv1 ?_
        refine g_bipush (n := 38) X dX12_night_36 (by decide +kernel) rfl ?_
        refine g_icmp_ne (n := 41) (tgt := 44) X dX12_night_38 (by decide) (by omega) (by omega) rfl (fun c14 => ?_) (fun c14 => ?_)
        · refine g_aload_n (n := 45) X 0 dX12_night_44 rfl rfl rfl ?_
          refine gg_12_1 (n := 48) (z := 191) X (by decide) (gsz hsz (by decide)) lay_190 kw_6_27 dX12_night_45 rfl (rf_190_1 I (gsz hsz (by decide))) (by decide) ?_
          refine g_bipush (n := 50) X dX12_night_48 (by decide +kernel) rfl ?_
          refine g_iald2 (n := 51) (v := v1) X (by decide) (gsz hsz (by decide)) lay_191 (by omega) (by omega) (by decide) dX12_night_50 rfl hv1 ?_
          refine g_istore (n := 53) (L' := [(4, gJ v1), (0, gA n0 190), (1, gJ a), (2, gJ b), (3, gJ c)]) X dX12_night_51 (by decide) rfl rfl ?_
          refine g_aload_n (n := 54) X 1 dX12_night_53 rfl rfl rfl ?_
          refine gg_12_1 (n := 57) (z := 191) X (by decide) (gsz hsz (by decide)) lay_190 kw_6_27 dX12_night_54 rfl (rf_190_1 I (gsz hsz (by decide))) (by decide) ?_
          refine g_sipush (n := 60) X dX12_night_57 (by decide +kernel) rfl ?_
          refine g_iload (n := 62) X 0 dX12_night_60 rfl rfl ?_
          refine g_iadd (n := 63) (z := v1 + 2440) X dX12_night_62 (by omega) rfl ?_
          refine g_iload_n (n := 64) X 2 dX12_night_63 rfl rfl rfl ?_
          refine g_iast (n := 65) X (by decide) (gsz hsz (by decide)) lay_191 (by omega) (by omega) (by decide) dX12_night_64 rfl ?_
          refine G.nm (fun M15 e16 => ?_)
          have IM15 : gI sz M15 := gI.set I (rs_NNAME (k := v1 + 2440) (by omega)).1 (by omega) e16
          have CM15 : gC sz M15 := gC.set C (rs_NNAME (k := v1 + 2440) (by omega)).2.1 e16
          refine g_aload_n (n := 66) X 1 dX12_night_65 rfl rfl rfl ?_
          refine gg_12_1 (n := 69) (z := 191) X (by decide) (gsz hsz (by decide)) lay_190 kw_6_27 dX12_night_66 rfl (rf_190_1 IM15 (gsz hsz (by decide))) (by decide) ?_
          refine g_sipush (n := 72) X dX12_night_69 (by decide +kernel) rfl ?_
          refine g_iload (n := 74) X 0 dX12_night_72 rfl rfl ?_
          refine g_iadd (n := 75) (z := v1 + 2480) X dX12_night_74 (by omega) rfl ?_
          refine g_iload_n (n := 76) X 3 dX12_night_75 rfl rfl rfl ?_
          refine g_iast (n := 77) X (by decide) (gsz hsz (by decide)) lay_191 (by omega) (by omega) (by decide) dX12_night_76 rfl ?_
          refine G.nm (fun M17 e18 => ?_)
          have IM17 : gI sz M17 := gI.set IM15 (rs_NAT (k := v1 + 2480) (by omega)).1 (by omega) e18
          have CM17 : gC sz M17 := gC.set CM15 (rs_NAT (k := v1 + 2480) (by omega)).2.1 e18
          refine g_aload_n (n := 78) X 1 dX12_night_77 rfl rfl rfl ?_
          refine gg_12_1 (n := 81) (z := 191) X (by decide) (gsz hsz (by decide)) lay_190 kw_6_27 dX12_night_78 rfl (rf_190_1 IM17 (gsz hsz (by decide))) (by decide) ?_
          refine g_sipush (n := 84) X dX12_night_81 (by decide +kernel) rfl ?_
          refine g_iload (n := 86) X 0 dX12_night_84 rfl rfl ?_
          refine g_iadd (n := 87) (z := v1 + 2520) X dX12_night_86 (by omega) rfl ?_
          refine g_iload_n (n := 88) X 4 dX12_night_87 rfl rfl rfl ?_
          refine g_iast (n := 89) X (by decide) (gsz hsz (by decide)) lay_191 (by omega) (by omega) (by decide) dX12_night_88 rfl ?_
          refine G.nm (fun M19 e20 => ?_)
          have IM19 : gI sz M19 := gI.set IM17 (rs_NWEEK (k := v1 + 2520) (by omega)).1 (by omega) e20
          have CM19 : gC sz M19 := gC.set CM17 (rs_NWEEK (k := v1 + 2520) (by omega)).2.1 e20
          refine g_aload_n (n := 90) X 1 dX12_night_89 rfl rfl rfl ?_
          refine gg_12_1 (n := 93) (z := 191) X (by decide) (gsz hsz (by decide)) lay_190 kw_6_27 dX12_night_90 rfl (rf_190_1 IM19 (gsz hsz (by decide))) (by decide) ?_
          refine g_bipush (n := 95) X dX12_night_93 (by decide +kernel) rfl ?_
          refine g_dup2 (n := 96) X dX12_night_95 rfl rfl rfl ?_
          refine g_iald2 (n := 97) (v := v1) X (by decide) (gsz hsz (by decide)) lay_191 (by omega) (by omega) (by decide) dX12_night_96 rfl ((congrFun (congrFun e20 _) _).trans ((gset_ne (by omega)).trans ((congrFun (congrFun e18 _) _).trans ((gset_ne (by omega)).trans ((congrFun (congrFun e16 _) _).trans ((gset_ne (by omega)).trans hv1)))))) ?_
          refine g_iconst (n := 98) X dX12_night_97 rfl ?_
          refine g_iadd (n := 99) (z := v1 + 1) X dX12_night_98 (by omega) rfl ?_
          refine g_iast (n := 100) X (by decide) (gsz hsz (by decide)) lay_191 (by omega) (by omega) (by decide) dX12_night_99 rfl ?_
          refine G.nm (fun M21 e22 => ?_)
          have IM21 : gI sz M21 := gI.set IM19 (rs_NN (k := 6) (by omega)).1 (by omega) e22
          have CM21 : gC sz M21 := gC.set CM19 (rs_NN (k := 6) (by omega)).2.1 e22
          refine g_aload_n (n := 101) X 1 dX12_night_100 rfl rfl rfl ?_
          refine gg_12_1 (n := 104) (z := 191) X (by decide) (gsz hsz (by decide)) lay_190 kw_6_27 dX12_night_101 rfl (rf_190_1 IM21 (gsz hsz (by decide))) (by decide) ?_
          refine g_bipush (n := 106) X dX12_night_104 (by decide +kernel) rfl ?_
          refine g_iald2 (n := 107) (v := v1 + 1) X (by decide) (gsz hsz (by decide)) lay_191 (by omega) (by omega) (by decide) dX12_night_106 rfl ((congrFun (congrFun e22 _) _).trans (gset_eq _ _ _ _)) ?_
          exact hq _ _ _ _ dX12_night_107 ⟨by omega, IM21, CM21, (gFr.s (gFr.s (gFr.s (gFr.s gFr.rf e16 (rs_NNAME (k := v1 + 2440) (by omega)).2.2 rfl) e18 (rs_NAT (k := v1 + 2480) (by omega)).2.2 rfl) e20 (rs_NWEEK (k := v1 + 2520) (by omega)).2.2 rfl) e22 (rs_NN (k := 6) (by omega)).2.2 rfl), Or.inr ⟨⟨by omega, by omega, by omega, by have q1 := ((congrFun (congrFun e22 _) _).trans (gset_eq _ _ _ _)); omega⟩, (by have q1 := ((congrFun (congrFun e22 _) _).trans (gset_eq _ _ _ _)); omega), (fun k h0 h1 => ⟨(show M21 191 (k + 2440) = M 191 (k + 2440) from ((congrFun (congrFun e22 _) _).trans ((gset_ne (by omega)).trans ((congrFun (congrFun e20 _) _).trans ((gset_ne (by omega)).trans ((congrFun (congrFun e18 _) _).trans ((gset_ne (by omega)).trans ((congrFun (congrFun e16 _) _).trans ((gset_ne (by omega)).trans rfl))))))))), (show M21 191 (k + 2480) = M 191 (k + 2480) from ((congrFun (congrFun e22 _) _).trans ((gset_ne (by omega)).trans ((congrFun (congrFun e20 _) _).trans ((gset_ne (by omega)).trans ((congrFun (congrFun e18 _) _).trans ((gset_ne (by omega)).trans ((congrFun (congrFun e16 _) _).trans ((gset_ne (by omega)).trans rfl))))))))), (show M21 191 (k + 2520) = M 191 (k + 2520) from ((congrFun (congrFun e22 _) _).trans ((gset_ne (by omega)).trans ((congrFun (congrFun e20 _) _).trans ((gset_ne (by omega)).trans ((congrFun (congrFun e18 _) _).trans ((gset_ne (by omega)).trans ((congrFun (congrFun e16 _) _).trans ((gset_ne (by omega)).trans rfl)))))))))⟩), (show M21 191 (M 191 6 + 2440) = _ from by rw [hv1]; exact ((congrFun (congrFun e22 _) _).trans ((gset_ne (by omega)).trans ((congrFun (congrFun e20 _) _).trans ((gset_ne (by omega)).trans ((congrFun (congrFun e18 _) _).trans ((gset_ne (by omega)).trans ((congrFun (congrFun e16 _) _).trans (gset_eq _ _ _ _))))))))), (show M21 191 (M 191 6 + 2480) = _ from by rw [hv1]; exact ((congrFun (congrFun e22 _) _).trans ((gset_ne (by omega)).trans ((congrFun (congrFun e20 _) _).trans ((gset_ne (by omega)).trans ((congrFun (congrFun e18 _) _).trans (gset_eq _ _ _ _))))))), (show M21 191 (M 191 6 + 2520) = _ from by rw [hv1]; exact ((congrFun (congrFun e22 _) _).trans ((gset_ne (by omega)).trans ((congrFun (congrFun e20 _) _).trans (gset_eq _ _ _ _)))))⟩⟩
        · refine g_bipush (n := 43) X dX12_night_41 (by decide +kernel) rfl ?_
          exact hq _ _ _ _ dX12_night_43 ⟨by omega, I, C, gFr.rf, Or.inl ⟨by omega, rfl, fun k h0 h1 => ⟨rfl, rfl, rfl⟩⟩⟩
      · refine g_bipush (n := 28) X dX12_night_26 (by decide +kernel) rfl ?_
        exact hq _ _ _ _ dX12_night_28 ⟨by omega, I, C, gFr.rf, Or.inl ⟨by omega, rfl, fun k h0 h1 => ⟨rfl, rfl, rfl⟩⟩⟩
  · refine g_iconst (n := 8) X dX12_night_7 rfl ?_
    exact hq _ _ _ _ dX12_night_8 ⟨by omega, I, C, gFr.rf, Or.inl ⟨by omega, rfl, fun k h0 h1 => ⟨rfl, rfl, rfl⟩⟩⟩
abbrev R_s_X10_mayBeOne2 : Room := { frames := 1, cells := 0, slots := 0, locals := 22 }
set_option maxRecDepth 100000 in
set_option maxHeartbeats 4000000 in
theorem s_X10_mayBeOne2 {l : Launch} {n0 : Nat} {D : va_G} {cA : Nat → ClassId} {M : gM} (a : Int) (r_a : 0 ≤ a ∧ a ≤ 255) {sz : Nat} (hsz : 206 ≤ sz) (I : gI sz M) (C : gC sz M)   : Met l yX10_mayBeOne (gWsOf yX10_mayBeOne cX10_mayBeOne 6 (Option.some Jvm.ClassFile.FieldType.boolean)) R_s_X10_mayBeOne2 (gPc n0 D cA [gA n0 26, gJ a, gA n0 2] M sz) (gQi n0 D cA sz (fun z M1 => M = M1 ∧ (0 ≤ z ∧ z ≤ 1) ∧ ((z = 1 ∧ gOne (M 27) (M 28) (M 29) (M 4) (M 26 3) a) ∨ (z = 0 ∧ ¬ gOne (M 27) (M 28) (M 29) (M 4) (M 26 3) a)))) 0 0 (fun q => n0 ≤ q) := by
  refine gMetZ [gA n0 26, gJ a, gA n0 2] (by decide) (Nat.le_of_ble_eq_true rfl) ⟨rfl, rfl⟩ ?_
  intro p e s m args below meth cd Q X hq
  have X : gCx p s m args meth cd n0 D cA "ParishUnion$Vagrants" cX10_mayBeOne 6 := X
  show G p l e R_s_X10_mayBeOne2 s m args below meth cd n0 D cA 6 Q 0 0 M sz 0 [(0, gA n0 26), (1, gJ a), (2, gA n0 2)] []
  obtain ⟨v1, hv1, rv1⟩ := gRd I (by decide) (gsz hsz (by decide)) rc_26_3.1
  refine g_iconst (n := 1) X dX10_mayBeOne_0 rfl ?_
  refine g_istore_n (n := 2) (L' := [(3, gJ (-1)), (0, gA n0 26), (1, gJ a), (2, gA n0 2)]) X dX10_mayBeOne_1 rfl (by decide) rfl rfl ?_
  refine g_iconst (n := 3) X dX10_mayBeOne_2 rfl ?_
  refine g_istore (n := 5) (L' := [(4, gJ 0), (3, gJ (-1)), (0, gA n0 26), (1, gJ a), (2, gA n0 2)]) X dX10_mayBeOne_3 (by decide) rfl rfl ?_
  have j5 : ∀ (N102 : Nat) (v2 v3 : Int) , (-1 ≤ v2 ∧ v2 ≤ 39) → (0 ≤ v3 ∧ v3 ≤ 40) → (gOne (M 27) (M 28) (M 29) (M 4) v3 a) → (gBf2 (M 27) a v3 v2) → (v3 ≤ M 26 3) → (40 - v3).toNat < N102 → G p l e R_s_X10_mayBeOne2 s m args below meth cd n0 D cA 6 Q 0 0 M sz 5 [(0, gA n0 26), (1, gJ a), (2, gA n0 2), (3, gJ v2), (4, gJ v3)] [] := by
    intro N102; induction N102 with
    | zero => intro v2 v3 rv2 rv3 hO hB hI hm104; exfalso; omega
    | succ N102 ih103 =>
      intro v2 v3 rv2 rv3 hO hB hI hm104
      refine g_iload (n := 7) X 4 dX10_mayBeOne_5 rfl rfl ?_
      refine g_aload_n (n := 8) X 0 dX10_mayBeOne_7 rfl rfl rfl ?_
      refine gg_10_3 (n := 11) (z := v1) X (by decide) (gsz hsz (by decide)) lay_26 kw_1_159 dX10_mayBeOne_8 rfl hv1 ?_
      refine g_icmp_ge (n := 14) (tgt := 92) X dX10_mayBeOne_11 (by decide) (by omega) (by omega) rfl (fun c105 => ?_) (fun c105 => ?_)
      · refine g_iconst (n := 93) X dX10_mayBeOne_92 rfl ?_
        exact hq _ _ _ _ dX10_mayBeOne_93 (by omega) ⟨rfl, by omega, (Or.inl ⟨rfl, by rw [show M 26 3 = v3 by have q1 := hv1; omega]; exact hO⟩)⟩
      · refine g_iload_n (n := 15) X 1 dX10_mayBeOne_14 rfl rfl rfl ?_
        refine g_aload_n (n := 16) X 0 dX10_mayBeOne_15 rfl rfl rfl ?_
        refine gg_10_0 (n := 19) (z := 27) X (by decide) (gsz hsz (by decide)) lay_26 kw_1_156 dX10_mayBeOne_16 rfl (rf_26_0 I (gsz hsz (by decide))) (by decide) ?_
        refine g_iload (n := 21) X 4 dX10_mayBeOne_19 rfl rfl ?_
        obtain ⟨v106, hv106, rv106⟩ := gRd I (by decide) (gsz hsz (by decide)) (ra_27 v3).1
        refine g_iald2 (n := 22) (v := v106) X (by decide) (gsz hsz (by decide)) lay_27 (by omega) (by omega) (by decide) dX10_mayBeOne_21 rfl hv106 ?_
        refine g_ishrA (n := 23) X dX10_mayBeOne_22 rfl (fun v107 rv107 xv107 => ?_)
        refine g_iconst (n := 24) X dX10_mayBeOne_23 rfl ?_
        refine g_iandC (n := 25) X dX10_mayBeOne_24 (by decide) rfl (fun v108 rv108 xv108 => ?_)
        have sv108 : v108 = gSel a v106 := gSel_of xv107 xv108 rv108
        refine g_if_ne (n := 28) (tgt := 31) X dX10_mayBeOne_25 (by decide) (by omega) rfl (fun c109 => ?_) (fun c109 => ?_)
        · refine g_iload_n (n := 32) X 3 dX10_mayBeOne_31 rfl rfl rfl ?_
          refine g_iconst (n := 33) X dX10_mayBeOne_32 rfl ?_
          refine g_icmp_eq (n := 36) (tgt := 83) X dX10_mayBeOne_33 (by decide) (by omega) (by omega) rfl (fun c110 => ?_) (fun c110 => ?_)
          · refine g_iload (n := 85) X 4 dX10_mayBeOne_83 rfl rfl ?_
            refine g_istore_n (n := 86) (L' := [(3, gJ v3), (0, gA n0 26), (1, gJ a), (2, gA n0 2), (4, gJ v3)]) X dX10_mayBeOne_85 rfl (by decide) rfl rfl ?_
            refine g_iinc (n := 89) (w := v3 + 1) (L' := [(4, gJ (v3 + 1)), (3, gJ v3), (0, gA n0 26), (1, gJ a), (2, gA n0 2)]) X 4 dX10_mayBeOne_86 rfl rfl (by decide) rfl rfl ?_
            refine g_goto (tgt := 5) X dX10_mayBeOne_89 (by decide) ?_
            refine G.sub (L' := [(0, gA n0 26), (1, gJ a), (2, gA n0 2), (3, gJ v3), (4, gJ (v3 + 1))]) [2, 3, 4, 1, 0] rfl ?_
            exact ih103 v3 (v3 + 1) (by omega) (by omega) (by first | exact gOne.no hO (by rw [hv106, ← sv108]; omega) (by omega) | exact gOne.yes hO hB (Or.inl (by omega)) (by omega)) (by first | exact gBf2.no hB (by rw [hv106, ← sv108]; omega) (by omega) | exact gBf2.yes (n := v3) (by omega) (by rw [hv106, ← sv108]; omega) (by omega) (by omega)) (by have q1 := hv1; omega) (by omega)
          · refine g_aload_n (n := 37) X 2 dX10_mayBeOne_36 rfl rfl rfl ?_
            refine g_aload_n (n := 38) X 0 dX10_mayBeOne_37 rfl rfl rfl ?_
            refine gg_10_1 (n := 41) (z := 28) X (by decide) (gsz hsz (by decide)) lay_26 kw_1_157 dX10_mayBeOne_38 rfl (rf_26_1 I (gsz hsz (by decide))) (by decide) ?_
            refine g_iload_n (n := 42) X 3 dX10_mayBeOne_41 rfl rfl rfl ?_
            obtain ⟨v111, hv111, rv111⟩ := gRd I (by decide) (gsz hsz (by decide)) (ra_28 v2).1
            refine g_iald2 (n := 43) (v := v111) X (by decide) (gsz hsz (by decide)) lay_28 (by omega) (by omega) (by decide) dX10_mayBeOne_42 rfl hv111 ?_
            refine g_aload_n (n := 44) X 0 dX10_mayBeOne_43 rfl rfl rfl ?_
            refine gg_10_1 (n := 47) (z := 28) X (by decide) (gsz hsz (by decide)) lay_26 kw_1_157 dX10_mayBeOne_44 rfl (rf_26_1 I (gsz hsz (by decide))) (by decide) ?_
            refine g_iload (n := 49) X 4 dX10_mayBeOne_47 rfl rfl ?_
            obtain ⟨v112, hv112, rv112⟩ := gRd I (by decide) (gsz hsz (by decide)) (ra_28 v3).1
            refine g_iald2 (n := 50) (v := v112) X (by decide) (gsz hsz (by decide)) lay_28 (by omega) (by omega) (by decide) dX10_mayBeOne_49 rfl hv112 ?_
            refine g_callVi (n := 53) (As := [gJ v111, gJ v112]) (rest := []) (cs1 := 0) (ss1 := 0) X (s_X3_distance v111 (by omega) v112 (by omega) hsz I C ) okX3_distance kw_5_98 ⟨kw_3_41, kw_3_42⟩ ⟨rfl, rfl⟩ ⟨Nat.le_of_ble_eq_true rfl, Nat.le_of_ble_eq_true rfl⟩ rfl (by decide) (gsz hsz (by decide)) lay_2 rfl rfl (Nat.le_of_ble_eq_true rfl) ⟨Nat.le_of_ble_eq_true rfl, Nat.le_of_ble_eq_true rfl⟩ rfl rfl dX10_mayBeOne_50 rfl (fun v113 M114 P115 => ?_)
            obtain ⟨rfl, rv113, xv113⟩ := P115
            refine g_istore (n := 55) (L' := [(5, gJ v113), (0, gA n0 26), (1, gJ a), (2, gA n0 2), (3, gJ v2), (4, gJ v3)]) X dX10_mayBeOne_53 (by decide) rfl rfl ?_
            refine g_iload (n := 57) X 0 dX10_mayBeOne_55 rfl rfl ?_
            refine g_bipush (n := 59) X dX10_mayBeOne_57 (by decide +kernel) rfl ?_
            refine g_icmp_eq (n := 62) (tgt := 81) X dX10_mayBeOne_59 (by decide) (by omega) (by omega) rfl (fun c116 => ?_) (fun c116 => ?_)
            · refine g_iconst (n := 82) X dX10_mayBeOne_81 rfl ?_
              exact hq _ _ _ _ dX10_mayBeOne_82 (by omega) ⟨rfl, by omega, (Or.inr ⟨rfl, gOne.bad hB (by omega) (by have q1 := hv1; omega) (by rw [hv106, ← sv108]; omega) (fun q => by have q1 := q.1; rw [hv111, hv112, ← xv113] at q1; omega)⟩)⟩
            · refine g_aload_n (n := 63) X 1 dX10_mayBeOne_62 rfl rfl rfl ?_
              refine gg_10_2 (n := 66) (z := 29) X (by decide) (gsz hsz (by decide)) lay_26 kw_1_158 dX10_mayBeOne_63 rfl (rf_26_2 I (gsz hsz (by decide))) (by decide) ?_
              refine g_iload (n := 68) X 5 dX10_mayBeOne_66 rfl rfl ?_
              obtain ⟨v117, hv117, rv117⟩ := gRd I (by decide) (gsz hsz (by decide)) (ra_29 v3).1
              refine g_iald2 (n := 69) (v := v117) X (by decide) (gsz hsz (by decide)) lay_29 (by omega) (by omega) (by decide) dX10_mayBeOne_68 rfl hv117 ?_
              refine g_aload_n (n := 70) X 1 dX10_mayBeOne_69 rfl rfl rfl ?_
              refine gg_10_2 (n := 73) (z := 29) X (by decide) (gsz hsz (by decide)) lay_26 kw_1_158 dX10_mayBeOne_70 rfl (rf_26_2 I (gsz hsz (by decide))) (by decide) ?_
              refine g_iload_n (n := 74) X 4 dX10_mayBeOne_73 rfl rfl rfl ?_
              obtain ⟨v118, hv118, rv118⟩ := gRd I (by decide) (gsz hsz (by decide)) (ra_29 v2).1
              refine g_iald2 (n := 75) (v := v118) X (by decide) (gsz hsz (by decide)) lay_29 (by omega) (by omega) (by decide) dX10_mayBeOne_74 rfl hv118 ?_
              refine g_isub (n := 76) (z := v117 - v118) X dX10_mayBeOne_75 rfl rfl ?_
              refine g_iload (n := 78) X 0 dX10_mayBeOne_76 rfl rfl ?_
              refine g_icmp_ge (n := 81) (tgt := 83) X dX10_mayBeOne_78 (by decide) (by omega) (by omega) rfl (fun c119 => ?_) (fun c119 => ?_)
              · refine g_iload (n := 85) X 5 dX10_mayBeOne_83 rfl rfl ?_
                refine g_istore_n (n := 86) (L' := [(3, gJ v3), (5, gJ v113), (0, gA n0 26), (1, gJ a), (2, gA n0 2), (4, gJ v3)]) X dX10_mayBeOne_85 rfl (by decide) rfl rfl ?_
                refine g_iinc (n := 89) (w := v3 + 1) (L' := [(4, gJ (v3 + 1)), (3, gJ v3), (5, gJ v113), (0, gA n0 26), (1, gJ a), (2, gA n0 2)]) X 5 dX10_mayBeOne_86 rfl rfl (by decide) rfl rfl ?_
                refine g_goto (tgt := 5) X dX10_mayBeOne_89 (by decide) ?_
                refine G.sub (L' := [(0, gA n0 26), (1, gJ a), (2, gA n0 2), (3, gJ v3), (4, gJ (v3 + 1))]) [3, 4, 5, 1, 0] rfl ?_
                exact ih103 v3 (v3 + 1) (by omega) (by omega) (by first | exact gOne.no hO (by rw [hv106, ← sv108]; omega) (by omega) | exact gOne.yes hO hB (Or.inl (by omega)) (by omega) | exact gOne.yes hO hB (Or.inr (by unfold gOK; rw [hv111, hv112, hv118, hv117, ← xv113]; omega)) (by omega)) (by first | exact gBf2.no hB (by rw [hv106, ← sv108]; omega) (by omega) | exact gBf2.yes (n := v3) (by omega) (by rw [hv106, ← sv108]; omega) (by omega) (by omega)) (by have q1 := hv1; omega) (by omega)
              · refine g_iconst (n := 82) X dX10_mayBeOne_81 rfl ?_
                exact hq _ _ _ _ dX10_mayBeOne_82 (by omega) ⟨rfl, by omega, (Or.inr ⟨rfl, gOne.bad hB (by omega) (by have q1 := hv1; omega) (by rw [hv106, ← sv108]; omega) (fun q => by have q1 := q.1; have q2 := q.2; rw [hv111, hv112, ← xv113] at q1 q2; rw [hv118, hv117] at q2; omega)⟩)⟩
        · refine g_goto (tgt := 86) X dX10_mayBeOne_28 (by decide) ?_
          refine g_iinc (n := 89) (w := v3 + 1) (L' := [(4, gJ (v3 + 1)), (0, gA n0 26), (1, gJ a), (2, gA n0 2), (3, gJ v2)]) X 4 dX10_mayBeOne_86 rfl rfl (by decide) rfl rfl ?_
          refine g_goto (tgt := 5) X dX10_mayBeOne_89 (by decide) ?_
          refine G.sub (L' := [(0, gA n0 26), (1, gJ a), (2, gA n0 2), (3, gJ v2), (4, gJ (v3 + 1))]) [1, 2, 3, 4, 0] rfl ?_
          exact ih103 v2 (v3 + 1) (by omega) (by omega) (by first | exact gOne.no hO (by rw [hv106, ← sv108]; omega) (by omega) | exact gOne.yes hO hB (Or.inl (by omega)) (by omega)) (by first | exact gBf2.no hB (by rw [hv106, ← sv108]; omega) (by omega) | exact gBf2.yes (n := v3) (by omega) (by rw [hv106, ← sv108]; omega) (by omega) (by omega)) (by have q1 := hv1; omega) (by omega)
  refine G.sub (L' := [(0, gA n0 26), (1, gJ a), (2, gA n0 2), (3, gJ (-1)), (4, gJ 0)]) [2, 3, 4, 1, 0] rfl ?_
  exact j5 _ (-1) 0 (by omega) (by omega) (gOne.z rfl) (gBf2.z rfl rfl) (by have q1 := hv1; omega) (Nat.lt_succ_self _)
abbrev R_s_X12_nextNight2 : Room := { frames := 0, cells := 0, slots := 0, locals := 0 }
set_option maxRecDepth 100000 in
set_option maxHeartbeats 4000000 in
theorem s_X12_nextNight2 {l : Launch} {n0 : Nat} {D : va_G} {cA : Nat → ClassId} {M : gM} (a : Int) (r_a : 0 ≤ a ∧ a ≤ 255) (b : Int) (r_b : -1 ≤ b ∧ b ≤ 39) {sz : Nat} (hsz : 206 ≤ sz) (I : gI sz M) (C : gC sz M)   : Met l yX12_nextNight (gWsOf yX12_nextNight cX12_nextNight 7 (Option.some Jvm.ClassFile.FieldType.int)) R_s_X12_nextNight2 (gPc n0 D cA [gA n0 190, gJ a, gJ b] M sz) (gQi n0 D cA sz (fun z M1 => M = M1 ∧ (-1 ≤ z ∧ z ≤ 39) ∧ (gNxt (gRN M) (gRK M) a b (M 191 6) z))) 0 0 (fun q => n0 ≤ q) := by
  refine gMetI [gA n0 190, gJ a, gJ b] (by decide) (Nat.le_of_ble_eq_true rfl) ⟨rfl, rfl⟩ ?_
  intro p e s m args below meth cd Q X hq
  have X : gCx p s m args meth cd n0 D cA "ParishUnionModel" cX12_nextNight 7 := X
  show G p l e R_s_X12_nextNight2 s m args below meth cd n0 D cA 7 Q 0 0 M sz 0 [(0, gA n0 190), (1, gJ a), (2, gJ b)] []
  obtain ⟨v1, hv1, rv1⟩ := gRd I (by decide) (gsz hsz (by decide)) (rs_NN (k := 6) (by omega)).1
  refine g_iconst (n := 1) X dX12_nextNight_0 rfl ?_
  refine g_istore_n (n := 2) (L' := [(3, gJ (-1)), (0, gA n0 190), (1, gJ a), (2, gJ b)]) X dX12_nextNight_1 rfl (by decide) rfl rfl ?_
  refine g_iconst (n := 3) X dX12_nextNight_2 rfl ?_
  refine g_istore (n := 5) (L' := [(4, gJ 0), (3, gJ (-1)), (0, gA n0 190), (1, gJ a), (2, gJ b)]) X dX12_nextNight_3 (by decide) rfl rfl ?_
  have j5 : ∀ (N420 : Nat) (v2 v3 : Int) , (-1 ≤ v2 ∧ v2 ≤ 39) → (0 ≤ v3 ∧ v3 ≤ 40) → (gNxt (gRN M) (gRK M) a b v3 v2) → (v3 ≤ M 191 6) → (40 - v3).toNat < N420 → G p l e R_s_X12_nextNight2 s m args below meth cd n0 D cA 7 Q 0 0 M sz 5 [(0, gA n0 190), (1, gJ a), (2, gJ b), (3, gJ v2), (4, gJ v3)] [] := by
    intro N420; induction N420 with
    | zero => intro v2 v3 rv2 rv3 hN hI hm422; exfalso; omega
    | succ N420 ih421 =>
      intro v2 v3 rv2 rv3 hN hI hm422
      refine g_iload (n := 7) X 4 dX12_nextNight_5 rfl rfl ?_
      refine g_aload_n (n := 8) X 0 dX12_nextNight_7 rfl rfl rfl ?_
      refine gg_12_1 (n := 11) (z := 191) X (by decide) (gsz hsz (by decide)) lay_190 kw_6_27 dX12_nextNight_8 rfl (rf_190_1 I (gsz hsz (by decide))) (by decide) ?_
      refine g_bipush (n := 13) X dX12_nextNight_11 (by decide +kernel) rfl ?_
      refine g_iald2 (n := 14) (v := v1) X (by decide) (gsz hsz (by decide)) lay_191 (by omega) (by omega) (by decide) dX12_nextNight_13 rfl hv1 ?_
      refine g_icmp_ge (n := 17) (tgt := 161) X dX12_nextNight_14 (by decide) (by omega) (by omega) rfl (fun c423 => ?_) (fun c423 => ?_)
      · refine g_iload_n (n := 162) X 3 dX12_nextNight_161 rfl rfl rfl ?_
        exact hq _ _ _ _ dX12_nextNight_162 ⟨rfl, by omega, (by rw [show M 191 6 = v3 by have q1 := hv1; omega]; exact hN)⟩
      · refine g_iload_n (n := 18) X 1 dX12_nextNight_17 rfl rfl rfl ?_
        refine g_aload_n (n := 19) X 0 dX12_nextNight_18 rfl rfl rfl ?_
        refine gg_12_1 (n := 22) (z := 191) X (by decide) (gsz hsz (by decide)) lay_190 kw_6_27 dX12_nextNight_19 rfl (rf_190_1 I (gsz hsz (by decide))) (by decide) ?_
        refine g_sipush (n := 25) X dX12_nextNight_22 (by decide +kernel) rfl ?_
        refine g_iload (n := 27) X 4 dX12_nextNight_25 rfl rfl ?_
        refine g_iadd (n := 28) (z := v3 + 2440) X dX12_nextNight_27 (by omega) rfl ?_
        obtain ⟨v424, hv424, rv424⟩ := gRd I (by decide) (gsz hsz (by decide)) (rs_NNAME (k := v3 + 2440) (by omega)).1
        refine g_iald2 (n := 29) (v := v424) X (by decide) (gsz hsz (by decide)) lay_191 (by omega) (by omega) (by decide) dX12_nextNight_28 rfl hv424 ?_
        refine g_ishrA (n := 30) X dX12_nextNight_29 rfl (fun v425 rv425 xv425 => ?_)
        refine g_iconst (n := 31) X dX12_nextNight_30 rfl ?_
        refine g_iandC (n := 32) X dX12_nextNight_31 (by decide) rfl (fun v426 rv426 xv426 => ?_)
        have sv426 : v426 = gSel a v424 := gSel_of xv425 xv426 rv426
        refine g_iconst (n := 33) X dX12_nextNight_32 rfl ?_
        refine g_icmp_ne (n := 36) (tgt := 40) X dX12_nextNight_33 (by decide) (by omega) (by omega) rfl (fun c427 => ?_) (fun c427 => ?_)
        · refine g_iconst (n := 41) X dX12_nextNight_40 rfl ?_
          refine g_istore (n := 43) (L' := [(5, gJ 0), (0, gA n0 190), (1, gJ a), (2, gJ b), (3, gJ v2), (4, gJ v3)]) X dX12_nextNight_41 (by decide) rfl rfl ?_
          refine g_iload_n (n := 44) X 3 dX12_nextNight_43 rfl rfl rfl ?_
          refine g_iconst (n := 45) X dX12_nextNight_44 rfl ?_
          refine g_icmp_eq (n := 48) (tgt := 102) X dX12_nextNight_45 (by decide) (by omega) (by omega) rfl (fun c428 => ?_) (fun c428 => ?_)
          · refine g_iconst (n := 103) X dX12_nextNight_102 rfl ?_
            refine g_goto (tgt := 107) X dX12_nextNight_103 (by decide) ?_
            refine g_istore (n := 109) (L' := [(6, gJ 1), (5, gJ 0), (0, gA n0 190), (1, gJ a), (2, gJ b), (3, gJ v2), (4, gJ v3)]) X dX12_nextNight_107 (by decide) rfl rfl ?_
            refine g_iload (n := 111) X 1 dX12_nextNight_109 rfl rfl ?_
            refine g_if_eq (n := 114) (tgt := 153) X dX12_nextNight_111 (by decide) (by omega) rfl (fun c429 => ?_) (fun c429 => by exfalso; omega)
            refine g_iload_n (n := 154) X 5 dX12_nextNight_153 rfl rfl rfl ?_
            refine g_istore_n (n := 155) (L' := [(3, gJ v2), (6, gJ 1), (5, gJ 0), (0, gA n0 190), (1, gJ a), (2, gJ b), (4, gJ v3)]) X dX12_nextNight_154 rfl (by decide) rfl rfl ?_
            refine g_iinc (n := 158) (w := v3 + 1) (L' := [(4, gJ (v3 + 1)), (3, gJ v2), (6, gJ 1), (5, gJ 0), (0, gA n0 190), (1, gJ a), (2, gJ b)]) X 6 dX12_nextNight_155 rfl rfl (by decide) rfl rfl ?_
            refine g_goto (tgt := 5) X dX12_nextNight_158 (by decide) ?_
            refine G.sub (L' := [(0, gA n0 190), (1, gJ a), (2, gJ b), (3, gJ v2), (4, gJ (v3 + 1))]) [4, 5, 6, 1, 0] rfl ?_
            exact ih421 v2 (v3 + 1) (by omega) (by omega) (by first | exact gNxt.no hN (fun q => by have q1 := q.1; have q2 := q.2; unfold gRN at q1; unfold gLt gKy gRK at q2; rw [hv424, ← sv426] at q1; omega) (by omega) (by omega) | exact gNxt.keep hN (by omega) (by omega) (by unfold gRK; omega) (by omega) (by omega) | exact gNxt.take hN (by omega) (by omega) (by show gSel a (gRN M v3) = 1; unfold gRN; rw [hv424, ← sv426]; omega) (by unfold gLt gKy gRK; omega) (by unfold gRK; omega) (by omega) (by omega)) (by have q1 := hv1; omega) (by omega)
          · refine g_aload_n (n := 49) X 1 dX12_nextNight_48 rfl rfl rfl ?_
            refine gg_12_1 (n := 52) (z := 191) X (by decide) (gsz hsz (by decide)) lay_190 kw_6_27 dX12_nextNight_49 rfl (rf_190_1 I (gsz hsz (by decide))) (by decide) ?_
            refine g_sipush (n := 55) X dX12_nextNight_52 (by decide +kernel) rfl ?_
            refine g_iload (n := 57) X 5 dX12_nextNight_55 rfl rfl ?_
            refine g_iadd (n := 58) (z := v3 + 2520) X dX12_nextNight_57 (by omega) rfl ?_
            obtain ⟨v430, hv430, rv430⟩ := gRd I (by decide) (gsz hsz (by decide)) (rs_NWEEK (k := v3 + 2520) (by omega)).1
            refine g_iald2 (n := 59) (v := v430) X (by decide) (gsz hsz (by decide)) lay_191 (by omega) (by omega) (by decide) dX12_nextNight_58 rfl hv430 ?_
            refine g_aload_n (n := 60) X 1 dX12_nextNight_59 rfl rfl rfl ?_
            refine gg_12_1 (n := 63) (z := 191) X (by decide) (gsz hsz (by decide)) lay_190 kw_6_27 dX12_nextNight_60 rfl (rf_190_1 I (gsz hsz (by decide))) (by decide) ?_
            refine g_sipush (n := 66) X dX12_nextNight_63 (by decide +kernel) rfl ?_
            refine g_iload_n (n := 67) X 3 dX12_nextNight_66 rfl rfl rfl ?_
            refine g_iadd (n := 68) (z := b + 2520) X dX12_nextNight_67 (by omega) rfl ?_
            obtain ⟨v431, hv431, rv431⟩ := gRd I (by decide) (gsz hsz (by decide)) (rs_NWEEK (k := b + 2520) (by omega)).1
            refine g_iald2 (n := 69) (v := v431) X (by decide) (gsz hsz (by decide)) lay_191 (by omega) (by omega) (by decide) dX12_nextNight_68 rfl hv431 ?_
            refine g_icmp_gt (n := 72) (tgt := 102) X dX12_nextNight_69 (by decide) (by omega) (by omega) rfl (fun c432 => ?_) (fun c432 => ?_)
            · refine g_iconst (n := 103) X dX12_nextNight_102 rfl ?_
              refine g_goto (tgt := 107) X dX12_nextNight_103 (by decide) ?_
              refine g_istore (n := 109) (L' := [(6, gJ 1), (5, gJ 0), (0, gA n0 190), (1, gJ a), (2, gJ b), (3, gJ v2), (4, gJ v3)]) X dX12_nextNight_107 (by decide) rfl rfl ?_
              refine g_iload (n := 111) X 1 dX12_nextNight_109 rfl rfl ?_
              refine g_if_eq (n := 114) (tgt := 153) X dX12_nextNight_111 (by decide) (by omega) rfl (fun c433 => ?_) (fun c433 => by exfalso; omega)
              refine g_iload_n (n := 154) X 5 dX12_nextNight_153 rfl rfl rfl ?_
              refine g_istore_n (n := 155) (L' := [(3, gJ v2), (6, gJ 1), (5, gJ 0), (0, gA n0 190), (1, gJ a), (2, gJ b), (4, gJ v3)]) X dX12_nextNight_154 rfl (by decide) rfl rfl ?_
              refine g_iinc (n := 158) (w := v3 + 1) (L' := [(4, gJ (v3 + 1)), (3, gJ v2), (6, gJ 1), (5, gJ 0), (0, gA n0 190), (1, gJ a), (2, gJ b)]) X 6 dX12_nextNight_155 rfl rfl (by decide) rfl rfl ?_
              refine g_goto (tgt := 5) X dX12_nextNight_158 (by decide) ?_
              refine G.sub (L' := [(0, gA n0 190), (1, gJ a), (2, gJ b), (3, gJ v2), (4, gJ (v3 + 1))]) [4, 5, 6, 1, 0] rfl ?_
              exact ih421 v2 (v3 + 1) (by omega) (by omega) (by first | exact gNxt.no hN (fun q => by have q1 := q.1; have q2 := q.2; unfold gRN at q1; unfold gLt gKy gRK at q2; rw [hv424, ← sv426] at q1; omega) (by omega) (by omega) | exact gNxt.keep hN (by omega) (by omega) (by unfold gRK; omega) (by omega) (by omega) | exact gNxt.take hN (by omega) (by omega) (by show gSel a (gRN M v3) = 1; unfold gRN; rw [hv424, ← sv426]; omega) (by unfold gLt gKy gRK; omega) (by unfold gRK; omega) (by omega) (by omega)) (by have q1 := hv1; omega) (by omega)
            · refine g_aload_n (n := 73) X 1 dX12_nextNight_72 rfl rfl rfl ?_
              refine gg_12_1 (n := 76) (z := 191) X (by decide) (gsz hsz (by decide)) lay_190 kw_6_27 dX12_nextNight_73 rfl (rf_190_1 I (gsz hsz (by decide))) (by decide) ?_
              refine g_sipush (n := 79) X dX12_nextNight_76 (by decide +kernel) rfl ?_
              refine g_iload (n := 81) X 5 dX12_nextNight_79 rfl rfl ?_
              refine g_iadd (n := 82) (z := v3 + 2520) X dX12_nextNight_81 (by omega) rfl ?_
              refine g_iald2 (n := 83) (v := v430) X (by decide) (gsz hsz (by decide)) lay_191 (by omega) (by omega) (by decide) dX12_nextNight_82 rfl hv430 ?_
              refine g_aload_n (n := 84) X 1 dX12_nextNight_83 rfl rfl rfl ?_
              refine gg_12_1 (n := 87) (z := 191) X (by decide) (gsz hsz (by decide)) lay_190 kw_6_27 dX12_nextNight_84 rfl (rf_190_1 I (gsz hsz (by decide))) (by decide) ?_
              refine g_sipush (n := 90) X dX12_nextNight_87 (by decide +kernel) rfl ?_
              refine g_iload_n (n := 91) X 3 dX12_nextNight_90 rfl rfl rfl ?_
              refine g_iadd (n := 92) (z := b + 2520) X dX12_nextNight_91 (by omega) rfl ?_
              refine g_iald2 (n := 93) (v := v431) X (by decide) (gsz hsz (by decide)) lay_191 (by omega) (by omega) (by decide) dX12_nextNight_92 rfl hv431 ?_
              refine g_icmp_ne (n := 96) (tgt := 106) X dX12_nextNight_93 (by decide) (by omega) (by omega) rfl (fun c434 => ?_) (fun c434 => ?_)
              · refine g_iconst (n := 107) X dX12_nextNight_106 rfl ?_
                refine g_istore (n := 109) (L' := [(6, gJ 0), (5, gJ 0), (0, gA n0 190), (1, gJ a), (2, gJ b), (3, gJ v2), (4, gJ v3)]) X dX12_nextNight_107 (by decide) rfl rfl ?_
                refine g_iload (n := 111) X 1 dX12_nextNight_109 rfl rfl ?_
                refine g_if_eq (n := 114) (tgt := 153) X dX12_nextNight_111 (by decide) (by omega) rfl (fun c435 => ?_) (fun c435 => by exfalso; omega)
                refine g_iload_n (n := 154) X 5 dX12_nextNight_153 rfl rfl rfl ?_
                refine g_istore_n (n := 155) (L' := [(3, gJ v2), (6, gJ 0), (5, gJ 0), (0, gA n0 190), (1, gJ a), (2, gJ b), (4, gJ v3)]) X dX12_nextNight_154 rfl (by decide) rfl rfl ?_
                refine g_iinc (n := 158) (w := v3 + 1) (L' := [(4, gJ (v3 + 1)), (3, gJ v2), (6, gJ 0), (5, gJ 0), (0, gA n0 190), (1, gJ a), (2, gJ b)]) X 6 dX12_nextNight_155 rfl rfl (by decide) rfl rfl ?_
                refine g_goto (tgt := 5) X dX12_nextNight_158 (by decide) ?_
                refine G.sub (L' := [(0, gA n0 190), (1, gJ a), (2, gJ b), (3, gJ v2), (4, gJ (v3 + 1))]) [4, 5, 6, 1, 0] rfl ?_
                exact ih421 v2 (v3 + 1) (by omega) (by omega) (by first | exact gNxt.no hN (fun q => by have q1 := q.1; have q2 := q.2; unfold gRN at q1; unfold gLt gKy gRK at q2; rw [hv424, ← sv426] at q1; omega) (by omega) (by omega) | exact gNxt.keep hN (by omega) (by omega) (by unfold gRK; omega) (by omega) (by omega) | exact gNxt.take hN (by omega) (by omega) (by show gSel a (gRN M v3) = 1; unfold gRN; rw [hv424, ← sv426]; omega) (by unfold gLt gKy gRK; omega) (by unfold gRK; omega) (by omega) (by omega)) (by have q1 := hv1; omega) (by omega)
              · refine g_iload (n := 98) X 5 dX12_nextNight_96 rfl rfl ?_
                refine g_iload_n (n := 99) X 3 dX12_nextNight_98 rfl rfl rfl ?_
                refine g_icmp_le (n := 102) (tgt := 106) X dX12_nextNight_99 (by decide) (by omega) (by omega) rfl (fun c436 => ?_) (fun c436 => ?_)
                · refine g_iconst (n := 107) X dX12_nextNight_106 rfl ?_
                  refine g_istore (n := 109) (L' := [(6, gJ 0), (5, gJ 0), (0, gA n0 190), (1, gJ a), (2, gJ b), (3, gJ v2), (4, gJ v3)]) X dX12_nextNight_107 (by decide) rfl rfl ?_
                  refine g_iload (n := 111) X 1 dX12_nextNight_109 rfl rfl ?_
                  refine g_if_eq (n := 114) (tgt := 153) X dX12_nextNight_111 (by decide) (by omega) rfl (fun c437 => ?_) (fun c437 => by exfalso; omega)
                  refine g_iload_n (n := 154) X 5 dX12_nextNight_153 rfl rfl rfl ?_
                  refine g_istore_n (n := 155) (L' := [(3, gJ v2), (6, gJ 0), (5, gJ 0), (0, gA n0 190), (1, gJ a), (2, gJ b), (4, gJ v3)]) X dX12_nextNight_154 rfl (by decide) rfl rfl ?_
                  refine g_iinc (n := 158) (w := v3 + 1) (L' := [(4, gJ (v3 + 1)), (3, gJ v2), (6, gJ 0), (5, gJ 0), (0, gA n0 190), (1, gJ a), (2, gJ b)]) X 6 dX12_nextNight_155 rfl rfl (by decide) rfl rfl ?_
                  refine g_goto (tgt := 5) X dX12_nextNight_158 (by decide) ?_
                  refine G.sub (L' := [(0, gA n0 190), (1, gJ a), (2, gJ b), (3, gJ v2), (4, gJ (v3 + 1))]) [4, 5, 6, 1, 0] rfl ?_
                  exact ih421 v2 (v3 + 1) (by omega) (by omega) (by first | exact gNxt.no hN (fun q => by have q1 := q.1; have q2 := q.2; unfold gRN at q1; unfold gLt gKy gRK at q2; rw [hv424, ← sv426] at q1; omega) (by omega) (by omega) | exact gNxt.keep hN (by omega) (by omega) (by unfold gRK; omega) (by omega) (by omega) | exact gNxt.take hN (by omega) (by omega) (by show gSel a (gRN M v3) = 1; unfold gRN; rw [hv424, ← sv426]; omega) (by unfold gLt gKy gRK; omega) (by unfold gRK; omega) (by omega) (by omega)) (by have q1 := hv1; omega) (by omega)
                · refine g_iconst (n := 103) X dX12_nextNight_102 rfl ?_
                  refine g_goto (tgt := 107) X dX12_nextNight_103 (by decide) ?_
                  refine g_istore (n := 109) (L' := [(6, gJ 1), (5, gJ 0), (0, gA n0 190), (1, gJ a), (2, gJ b), (3, gJ v2), (4, gJ v3)]) X dX12_nextNight_107 (by decide) rfl rfl ?_
                  refine g_iload (n := 111) X 1 dX12_nextNight_109 rfl rfl ?_
                  refine g_if_eq (n := 114) (tgt := 153) X dX12_nextNight_111 (by decide) (by omega) rfl (fun c438 => ?_) (fun c438 => by exfalso; omega)
                  refine g_iload_n (n := 154) X 5 dX12_nextNight_153 rfl rfl rfl ?_
                  refine g_istore_n (n := 155) (L' := [(3, gJ v2), (6, gJ 1), (5, gJ 0), (0, gA n0 190), (1, gJ a), (2, gJ b), (4, gJ v3)]) X dX12_nextNight_154 rfl (by decide) rfl rfl ?_
                  refine g_iinc (n := 158) (w := v3 + 1) (L' := [(4, gJ (v3 + 1)), (3, gJ v2), (6, gJ 1), (5, gJ 0), (0, gA n0 190), (1, gJ a), (2, gJ b)]) X 6 dX12_nextNight_155 rfl rfl (by decide) rfl rfl ?_
                  refine g_goto (tgt := 5) X dX12_nextNight_158 (by decide) ?_
                  refine G.sub (L' := [(0, gA n0 190), (1, gJ a), (2, gJ b), (3, gJ v2), (4, gJ (v3 + 1))]) [4, 5, 6, 1, 0] rfl ?_
                  exact ih421 v2 (v3 + 1) (by omega) (by omega) (by first | exact gNxt.no hN (fun q => by have q1 := q.1; have q2 := q.2; unfold gRN at q1; unfold gLt gKy gRK at q2; rw [hv424, ← sv426] at q1; omega) (by omega) (by omega) | exact gNxt.keep hN (by omega) (by omega) (by unfold gRK; omega) (by omega) (by omega) | exact gNxt.take hN (by omega) (by omega) (by show gSel a (gRN M v3) = 1; unfold gRN; rw [hv424, ← sv426]; omega) (by unfold gLt gKy gRK; omega) (by unfold gRK; omega) (by omega) (by omega)) (by have q1 := hv1; omega) (by omega)
        · refine g_iconst (n := 37) X dX12_nextNight_36 rfl ?_
          refine g_goto (tgt := 41) X dX12_nextNight_37 (by decide) ?_
          refine g_istore (n := 43) (L' := [(5, gJ 1), (0, gA n0 190), (1, gJ a), (2, gJ b), (3, gJ v2), (4, gJ v3)]) X dX12_nextNight_41 (by decide) rfl rfl ?_
          refine g_iload_n (n := 44) X 3 dX12_nextNight_43 rfl rfl rfl ?_
          refine g_iconst (n := 45) X dX12_nextNight_44 rfl ?_
          refine g_icmp_eq (n := 48) (tgt := 102) X dX12_nextNight_45 (by decide) (by omega) (by omega) rfl (fun c439 => ?_) (fun c439 => ?_)
          · refine g_iconst (n := 103) X dX12_nextNight_102 rfl ?_
            refine g_goto (tgt := 107) X dX12_nextNight_103 (by decide) ?_
            refine g_istore (n := 109) (L' := [(6, gJ 1), (5, gJ 1), (0, gA n0 190), (1, gJ a), (2, gJ b), (3, gJ v2), (4, gJ v3)]) X dX12_nextNight_107 (by decide) rfl rfl ?_
            refine g_iload (n := 111) X 1 dX12_nextNight_109 rfl rfl ?_
            refine g_if_eq (n := 114) (tgt := 153) X dX12_nextNight_111 (by decide) (by omega) rfl (fun c440 => by exfalso; omega) (fun c440 => ?_)
            refine g_iload (n := 116) X 0 dX12_nextNight_114 rfl rfl ?_
            refine g_if_eq (n := 119) (tgt := 153) X dX12_nextNight_116 (by decide) (by omega) rfl (fun c441 => by exfalso; omega) (fun c441 => ?_)
            refine g_iload_n (n := 120) X 5 dX12_nextNight_119 rfl rfl rfl ?_
            refine g_iconst (n := 121) X dX12_nextNight_120 rfl ?_
            refine g_icmp_eq (n := 124) (tgt := 148) X dX12_nextNight_121 (by decide) (by omega) (by omega) rfl (fun c442 => ?_) (fun c442 => ?_)
            · refine g_iload (n := 150) X 6 dX12_nextNight_148 rfl rfl ?_
              refine g_goto (tgt := 154) X dX12_nextNight_150 (by decide) ?_
              refine g_istore_n (n := 155) (L' := [(3, gJ v3), (6, gJ 1), (5, gJ 1), (0, gA n0 190), (1, gJ a), (2, gJ b), (4, gJ v3)]) X dX12_nextNight_154 rfl (by decide) rfl rfl ?_
              refine g_iinc (n := 158) (w := v3 + 1) (L' := [(4, gJ (v3 + 1)), (3, gJ v3), (6, gJ 1), (5, gJ 1), (0, gA n0 190), (1, gJ a), (2, gJ b)]) X 6 dX12_nextNight_155 rfl rfl (by decide) rfl rfl ?_
              refine g_goto (tgt := 5) X dX12_nextNight_158 (by decide) ?_
              refine G.sub (L' := [(0, gA n0 190), (1, gJ a), (2, gJ b), (3, gJ v3), (4, gJ (v3 + 1))]) [4, 5, 6, 1, 0] rfl ?_
              exact ih421 v3 (v3 + 1) (by omega) (by omega) (by first | exact gNxt.no hN (fun q => by have q1 := q.1; have q2 := q.2; unfold gRN at q1; unfold gLt gKy gRK at q2; rw [hv424, ← sv426] at q1; omega) (by omega) (by omega) | exact gNxt.keep hN (by omega) (by omega) (by unfold gRK; omega) (by omega) (by omega) | exact gNxt.take hN (by omega) (by omega) (by show gSel a (gRN M v3) = 1; unfold gRN; rw [hv424, ← sv426]; omega) (by unfold gLt gKy gRK; omega) (by unfold gRK; omega) (by omega) (by omega)) (by have q1 := hv1; omega) (by omega)
            · refine g_aload_n (n := 125) X 2 dX12_nextNight_124 rfl rfl rfl ?_
              refine gg_12_1 (n := 128) (z := 191) X (by decide) (gsz hsz (by decide)) lay_190 kw_6_27 dX12_nextNight_125 rfl (rf_190_1 I (gsz hsz (by decide))) (by decide) ?_
              refine g_sipush (n := 131) X dX12_nextNight_128 (by decide +kernel) rfl ?_
              refine g_iload (n := 133) X 6 dX12_nextNight_131 rfl rfl ?_
              refine g_iadd (n := 134) (z := v3 + 2520) X dX12_nextNight_133 (by omega) rfl ?_
              obtain ⟨v443, hv443, rv443⟩ := gRd I (by decide) (gsz hsz (by decide)) (rs_NWEEK (k := v3 + 2520) (by omega)).1
              refine g_iald2 (n := 135) (v := v443) X (by decide) (gsz hsz (by decide)) lay_191 (by omega) (by omega) (by decide) dX12_nextNight_134 rfl hv443 ?_
              refine g_aload_n (n := 136) X 2 dX12_nextNight_135 rfl rfl rfl ?_
              refine gg_12_1 (n := 139) (z := 191) X (by decide) (gsz hsz (by decide)) lay_190 kw_6_27 dX12_nextNight_136 rfl (rf_190_1 I (gsz hsz (by decide))) (by decide) ?_
              refine g_sipush (n := 142) X dX12_nextNight_139 (by decide +kernel) rfl ?_
              refine g_iload_n (n := 143) X 5 dX12_nextNight_142 rfl rfl rfl ?_
              refine g_iadd (n := 144) (z := v2 + 2520) X dX12_nextNight_143 (by omega) rfl ?_
              obtain ⟨v444, hv444, rv444⟩ := gRd I (by decide) (gsz hsz (by decide)) (rs_NWEEK (k := v2 + 2520) (by omega)).1
              refine g_iald2 (n := 145) (v := v444) X (by decide) (gsz hsz (by decide)) lay_191 (by omega) (by omega) (by decide) dX12_nextNight_144 rfl hv444 ?_
              refine g_icmp_ge (n := 148) (tgt := 153) X dX12_nextNight_145 (by decide) (by omega) (by omega) rfl (fun c445 => ?_) (fun c445 => ?_)
              · refine g_iload_n (n := 154) X 5 dX12_nextNight_153 rfl rfl rfl ?_
                refine g_istore_n (n := 155) (L' := [(3, gJ v2), (6, gJ 1), (5, gJ 1), (0, gA n0 190), (1, gJ a), (2, gJ b), (4, gJ v3)]) X dX12_nextNight_154 rfl (by decide) rfl rfl ?_
                refine g_iinc (n := 158) (w := v3 + 1) (L' := [(4, gJ (v3 + 1)), (3, gJ v2), (6, gJ 1), (5, gJ 1), (0, gA n0 190), (1, gJ a), (2, gJ b)]) X 6 dX12_nextNight_155 rfl rfl (by decide) rfl rfl ?_
                refine g_goto (tgt := 5) X dX12_nextNight_158 (by decide) ?_
                refine G.sub (L' := [(0, gA n0 190), (1, gJ a), (2, gJ b), (3, gJ v2), (4, gJ (v3 + 1))]) [4, 5, 6, 1, 0] rfl ?_
                exact ih421 v2 (v3 + 1) (by omega) (by omega) (by first | exact gNxt.no hN (fun q => by have q1 := q.1; have q2 := q.2; unfold gRN at q1; unfold gLt gKy gRK at q2; rw [hv424, ← sv426] at q1; omega) (by omega) (by omega) | exact gNxt.keep hN (by omega) (by omega) (by unfold gRK; omega) (by omega) (by omega) | exact gNxt.take hN (by omega) (by omega) (by show gSel a (gRN M v3) = 1; unfold gRN; rw [hv424, ← sv426]; omega) (by unfold gLt gKy gRK; omega) (by unfold gRK; omega) (by omega) (by omega)) (by have q1 := hv1; omega) (by omega)
              · refine g_iload (n := 150) X 6 dX12_nextNight_148 rfl rfl ?_
                refine g_goto (tgt := 154) X dX12_nextNight_150 (by decide) ?_
                refine g_istore_n (n := 155) (L' := [(3, gJ v3), (6, gJ 1), (5, gJ 1), (0, gA n0 190), (1, gJ a), (2, gJ b), (4, gJ v3)]) X dX12_nextNight_154 rfl (by decide) rfl rfl ?_
                refine g_iinc (n := 158) (w := v3 + 1) (L' := [(4, gJ (v3 + 1)), (3, gJ v3), (6, gJ 1), (5, gJ 1), (0, gA n0 190), (1, gJ a), (2, gJ b)]) X 6 dX12_nextNight_155 rfl rfl (by decide) rfl rfl ?_
                refine g_goto (tgt := 5) X dX12_nextNight_158 (by decide) ?_
                refine G.sub (L' := [(0, gA n0 190), (1, gJ a), (2, gJ b), (3, gJ v3), (4, gJ (v3 + 1))]) [4, 5, 6, 1, 0] rfl ?_
                exact ih421 v3 (v3 + 1) (by omega) (by omega) (by first | exact gNxt.no hN (fun q => by have q1 := q.1; have q2 := q.2; unfold gRN at q1; unfold gLt gKy gRK at q2; rw [hv424, ← sv426] at q1; omega) (by omega) (by omega) | exact gNxt.keep hN (by omega) (by omega) (by unfold gRK; omega) (by omega) (by omega) | exact gNxt.take hN (by omega) (by omega) (by show gSel a (gRN M v3) = 1; unfold gRN; rw [hv424, ← sv426]; omega) (by unfold gLt gKy gRK; omega) (by unfold gRK; omega) (by omega) (by omega)) (by have q1 := hv1; omega) (by omega)
          · refine g_aload_n (n := 49) X 1 dX12_nextNight_48 rfl rfl rfl ?_
            refine gg_12_1 (n := 52) (z := 191) X (by decide) (gsz hsz (by decide)) lay_190 kw_6_27 dX12_nextNight_49 rfl (rf_190_1 I (gsz hsz (by decide))) (by decide) ?_
            refine g_sipush (n := 55) X dX12_nextNight_52 (by decide +kernel) rfl ?_
            refine g_iload (n := 57) X 5 dX12_nextNight_55 rfl rfl ?_
            refine g_iadd (n := 58) (z := v3 + 2520) X dX12_nextNight_57 (by omega) rfl ?_
            obtain ⟨v446, hv446, rv446⟩ := gRd I (by decide) (gsz hsz (by decide)) (rs_NWEEK (k := v3 + 2520) (by omega)).1
            refine g_iald2 (n := 59) (v := v446) X (by decide) (gsz hsz (by decide)) lay_191 (by omega) (by omega) (by decide) dX12_nextNight_58 rfl hv446 ?_
            refine g_aload_n (n := 60) X 1 dX12_nextNight_59 rfl rfl rfl ?_
            refine gg_12_1 (n := 63) (z := 191) X (by decide) (gsz hsz (by decide)) lay_190 kw_6_27 dX12_nextNight_60 rfl (rf_190_1 I (gsz hsz (by decide))) (by decide) ?_
            refine g_sipush (n := 66) X dX12_nextNight_63 (by decide +kernel) rfl ?_
            refine g_iload_n (n := 67) X 3 dX12_nextNight_66 rfl rfl rfl ?_
            refine g_iadd (n := 68) (z := b + 2520) X dX12_nextNight_67 (by omega) rfl ?_
            obtain ⟨v447, hv447, rv447⟩ := gRd I (by decide) (gsz hsz (by decide)) (rs_NWEEK (k := b + 2520) (by omega)).1
            refine g_iald2 (n := 69) (v := v447) X (by decide) (gsz hsz (by decide)) lay_191 (by omega) (by omega) (by decide) dX12_nextNight_68 rfl hv447 ?_
            refine g_icmp_gt (n := 72) (tgt := 102) X dX12_nextNight_69 (by decide) (by omega) (by omega) rfl (fun c448 => ?_) (fun c448 => ?_)
            · refine g_iconst (n := 103) X dX12_nextNight_102 rfl ?_
              refine g_goto (tgt := 107) X dX12_nextNight_103 (by decide) ?_
              refine g_istore (n := 109) (L' := [(6, gJ 1), (5, gJ 1), (0, gA n0 190), (1, gJ a), (2, gJ b), (3, gJ v2), (4, gJ v3)]) X dX12_nextNight_107 (by decide) rfl rfl ?_
              refine g_iload (n := 111) X 1 dX12_nextNight_109 rfl rfl ?_
              refine g_if_eq (n := 114) (tgt := 153) X dX12_nextNight_111 (by decide) (by omega) rfl (fun c449 => by exfalso; omega) (fun c449 => ?_)
              refine g_iload (n := 116) X 0 dX12_nextNight_114 rfl rfl ?_
              refine g_if_eq (n := 119) (tgt := 153) X dX12_nextNight_116 (by decide) (by omega) rfl (fun c450 => by exfalso; omega) (fun c450 => ?_)
              refine g_iload_n (n := 120) X 5 dX12_nextNight_119 rfl rfl rfl ?_
              refine g_iconst (n := 121) X dX12_nextNight_120 rfl ?_
              refine g_icmp_eq (n := 124) (tgt := 148) X dX12_nextNight_121 (by decide) (by omega) (by omega) rfl (fun c451 => ?_) (fun c451 => ?_)
              · refine g_iload (n := 150) X 6 dX12_nextNight_148 rfl rfl ?_
                refine g_goto (tgt := 154) X dX12_nextNight_150 (by decide) ?_
                refine g_istore_n (n := 155) (L' := [(3, gJ v3), (6, gJ 1), (5, gJ 1), (0, gA n0 190), (1, gJ a), (2, gJ b), (4, gJ v3)]) X dX12_nextNight_154 rfl (by decide) rfl rfl ?_
                refine g_iinc (n := 158) (w := v3 + 1) (L' := [(4, gJ (v3 + 1)), (3, gJ v3), (6, gJ 1), (5, gJ 1), (0, gA n0 190), (1, gJ a), (2, gJ b)]) X 6 dX12_nextNight_155 rfl rfl (by decide) rfl rfl ?_
                refine g_goto (tgt := 5) X dX12_nextNight_158 (by decide) ?_
                refine G.sub (L' := [(0, gA n0 190), (1, gJ a), (2, gJ b), (3, gJ v3), (4, gJ (v3 + 1))]) [4, 5, 6, 1, 0] rfl ?_
                exact ih421 v3 (v3 + 1) (by omega) (by omega) (by first | exact gNxt.no hN (fun q => by have q1 := q.1; have q2 := q.2; unfold gRN at q1; unfold gLt gKy gRK at q2; rw [hv424, ← sv426] at q1; omega) (by omega) (by omega) | exact gNxt.keep hN (by omega) (by omega) (by unfold gRK; omega) (by omega) (by omega) | exact gNxt.take hN (by omega) (by omega) (by show gSel a (gRN M v3) = 1; unfold gRN; rw [hv424, ← sv426]; omega) (by unfold gLt gKy gRK; omega) (by unfold gRK; omega) (by omega) (by omega)) (by have q1 := hv1; omega) (by omega)
              · refine g_aload_n (n := 125) X 2 dX12_nextNight_124 rfl rfl rfl ?_
                refine gg_12_1 (n := 128) (z := 191) X (by decide) (gsz hsz (by decide)) lay_190 kw_6_27 dX12_nextNight_125 rfl (rf_190_1 I (gsz hsz (by decide))) (by decide) ?_
                refine g_sipush (n := 131) X dX12_nextNight_128 (by decide +kernel) rfl ?_
                refine g_iload (n := 133) X 6 dX12_nextNight_131 rfl rfl ?_
                refine g_iadd (n := 134) (z := v3 + 2520) X dX12_nextNight_133 (by omega) rfl ?_
                refine g_iald2 (n := 135) (v := v446) X (by decide) (gsz hsz (by decide)) lay_191 (by omega) (by omega) (by decide) dX12_nextNight_134 rfl hv446 ?_
                refine g_aload_n (n := 136) X 2 dX12_nextNight_135 rfl rfl rfl ?_
                refine gg_12_1 (n := 139) (z := 191) X (by decide) (gsz hsz (by decide)) lay_190 kw_6_27 dX12_nextNight_136 rfl (rf_190_1 I (gsz hsz (by decide))) (by decide) ?_
                refine g_sipush (n := 142) X dX12_nextNight_139 (by decide +kernel) rfl ?_
                refine g_iload_n (n := 143) X 5 dX12_nextNight_142 rfl rfl rfl ?_
                refine g_iadd (n := 144) (z := v2 + 2520) X dX12_nextNight_143 (by omega) rfl ?_
                obtain ⟨v452, hv452, rv452⟩ := gRd I (by decide) (gsz hsz (by decide)) (rs_NWEEK (k := v2 + 2520) (by omega)).1
                refine g_iald2 (n := 145) (v := v452) X (by decide) (gsz hsz (by decide)) lay_191 (by omega) (by omega) (by decide) dX12_nextNight_144 rfl hv452 ?_
                refine g_icmp_ge (n := 148) (tgt := 153) X dX12_nextNight_145 (by decide) (by omega) (by omega) rfl (fun c453 => ?_) (fun c453 => ?_)
                · refine g_iload_n (n := 154) X 5 dX12_nextNight_153 rfl rfl rfl ?_
                  refine g_istore_n (n := 155) (L' := [(3, gJ v2), (6, gJ 1), (5, gJ 1), (0, gA n0 190), (1, gJ a), (2, gJ b), (4, gJ v3)]) X dX12_nextNight_154 rfl (by decide) rfl rfl ?_
                  refine g_iinc (n := 158) (w := v3 + 1) (L' := [(4, gJ (v3 + 1)), (3, gJ v2), (6, gJ 1), (5, gJ 1), (0, gA n0 190), (1, gJ a), (2, gJ b)]) X 6 dX12_nextNight_155 rfl rfl (by decide) rfl rfl ?_
                  refine g_goto (tgt := 5) X dX12_nextNight_158 (by decide) ?_
                  refine G.sub (L' := [(0, gA n0 190), (1, gJ a), (2, gJ b), (3, gJ v2), (4, gJ (v3 + 1))]) [4, 5, 6, 1, 0] rfl ?_
                  exact ih421 v2 (v3 + 1) (by omega) (by omega) (by first | exact gNxt.no hN (fun q => by have q1 := q.1; have q2 := q.2; unfold gRN at q1; unfold gLt gKy gRK at q2; rw [hv424, ← sv426] at q1; omega) (by omega) (by omega) | exact gNxt.keep hN (by omega) (by omega) (by unfold gRK; omega) (by omega) (by omega) | exact gNxt.take hN (by omega) (by omega) (by show gSel a (gRN M v3) = 1; unfold gRN; rw [hv424, ← sv426]; omega) (by unfold gLt gKy gRK; omega) (by unfold gRK; omega) (by omega) (by omega)) (by have q1 := hv1; omega) (by omega)
                · refine g_iload (n := 150) X 6 dX12_nextNight_148 rfl rfl ?_
                  refine g_goto (tgt := 154) X dX12_nextNight_150 (by decide) ?_
                  refine g_istore_n (n := 155) (L' := [(3, gJ v3), (6, gJ 1), (5, gJ 1), (0, gA n0 190), (1, gJ a), (2, gJ b), (4, gJ v3)]) X dX12_nextNight_154 rfl (by decide) rfl rfl ?_
                  refine g_iinc (n := 158) (w := v3 + 1) (L' := [(4, gJ (v3 + 1)), (3, gJ v3), (6, gJ 1), (5, gJ 1), (0, gA n0 190), (1, gJ a), (2, gJ b)]) X 6 dX12_nextNight_155 rfl rfl (by decide) rfl rfl ?_
                  refine g_goto (tgt := 5) X dX12_nextNight_158 (by decide) ?_
                  refine G.sub (L' := [(0, gA n0 190), (1, gJ a), (2, gJ b), (3, gJ v3), (4, gJ (v3 + 1))]) [4, 5, 6, 1, 0] rfl ?_
                  exact ih421 v3 (v3 + 1) (by omega) (by omega) (by first | exact gNxt.no hN (fun q => by have q1 := q.1; have q2 := q.2; unfold gRN at q1; unfold gLt gKy gRK at q2; rw [hv424, ← sv426] at q1; omega) (by omega) (by omega) | exact gNxt.keep hN (by omega) (by omega) (by unfold gRK; omega) (by omega) (by omega) | exact gNxt.take hN (by omega) (by omega) (by show gSel a (gRN M v3) = 1; unfold gRN; rw [hv424, ← sv426]; omega) (by unfold gLt gKy gRK; omega) (by unfold gRK; omega) (by omega) (by omega)) (by have q1 := hv1; omega) (by omega)
            · refine g_aload_n (n := 73) X 1 dX12_nextNight_72 rfl rfl rfl ?_
              refine gg_12_1 (n := 76) (z := 191) X (by decide) (gsz hsz (by decide)) lay_190 kw_6_27 dX12_nextNight_73 rfl (rf_190_1 I (gsz hsz (by decide))) (by decide) ?_
              refine g_sipush (n := 79) X dX12_nextNight_76 (by decide +kernel) rfl ?_
              refine g_iload (n := 81) X 5 dX12_nextNight_79 rfl rfl ?_
              refine g_iadd (n := 82) (z := v3 + 2520) X dX12_nextNight_81 (by omega) rfl ?_
              refine g_iald2 (n := 83) (v := v446) X (by decide) (gsz hsz (by decide)) lay_191 (by omega) (by omega) (by decide) dX12_nextNight_82 rfl hv446 ?_
              refine g_aload_n (n := 84) X 1 dX12_nextNight_83 rfl rfl rfl ?_
              refine gg_12_1 (n := 87) (z := 191) X (by decide) (gsz hsz (by decide)) lay_190 kw_6_27 dX12_nextNight_84 rfl (rf_190_1 I (gsz hsz (by decide))) (by decide) ?_
              refine g_sipush (n := 90) X dX12_nextNight_87 (by decide +kernel) rfl ?_
              refine g_iload_n (n := 91) X 3 dX12_nextNight_90 rfl rfl rfl ?_
              refine g_iadd (n := 92) (z := b + 2520) X dX12_nextNight_91 (by omega) rfl ?_
              refine g_iald2 (n := 93) (v := v447) X (by decide) (gsz hsz (by decide)) lay_191 (by omega) (by omega) (by decide) dX12_nextNight_92 rfl hv447 ?_
              refine g_icmp_ne (n := 96) (tgt := 106) X dX12_nextNight_93 (by decide) (by omega) (by omega) rfl (fun c454 => ?_) (fun c454 => ?_)
              · refine g_iconst (n := 107) X dX12_nextNight_106 rfl ?_
                refine g_istore (n := 109) (L' := [(6, gJ 0), (5, gJ 1), (0, gA n0 190), (1, gJ a), (2, gJ b), (3, gJ v2), (4, gJ v3)]) X dX12_nextNight_107 (by decide) rfl rfl ?_
                refine g_iload (n := 111) X 1 dX12_nextNight_109 rfl rfl ?_
                refine g_if_eq (n := 114) (tgt := 153) X dX12_nextNight_111 (by decide) (by omega) rfl (fun c455 => by exfalso; omega) (fun c455 => ?_)
                refine g_iload (n := 116) X 0 dX12_nextNight_114 rfl rfl ?_
                refine g_if_eq (n := 119) (tgt := 153) X dX12_nextNight_116 (by decide) (by omega) rfl (fun c456 => ?_) (fun c456 => by exfalso; omega)
                refine g_iload_n (n := 154) X 5 dX12_nextNight_153 rfl rfl rfl ?_
                refine g_istore_n (n := 155) (L' := [(3, gJ v2), (6, gJ 0), (5, gJ 1), (0, gA n0 190), (1, gJ a), (2, gJ b), (4, gJ v3)]) X dX12_nextNight_154 rfl (by decide) rfl rfl ?_
                refine g_iinc (n := 158) (w := v3 + 1) (L' := [(4, gJ (v3 + 1)), (3, gJ v2), (6, gJ 0), (5, gJ 1), (0, gA n0 190), (1, gJ a), (2, gJ b)]) X 6 dX12_nextNight_155 rfl rfl (by decide) rfl rfl ?_
                refine g_goto (tgt := 5) X dX12_nextNight_158 (by decide) ?_
                refine G.sub (L' := [(0, gA n0 190), (1, gJ a), (2, gJ b), (3, gJ v2), (4, gJ (v3 + 1))]) [4, 5, 6, 1, 0] rfl ?_
                exact ih421 v2 (v3 + 1) (by omega) (by omega) (by first | exact gNxt.no hN (fun q => by have q1 := q.1; have q2 := q.2; unfold gRN at q1; unfold gLt gKy gRK at q2; rw [hv424, ← sv426] at q1; omega) (by omega) (by omega) | exact gNxt.keep hN (by omega) (by omega) (by unfold gRK; omega) (by omega) (by omega) | exact gNxt.take hN (by omega) (by omega) (by show gSel a (gRN M v3) = 1; unfold gRN; rw [hv424, ← sv426]; omega) (by unfold gLt gKy gRK; omega) (by unfold gRK; omega) (by omega) (by omega)) (by have q1 := hv1; omega) (by omega)
              · refine g_iload (n := 98) X 5 dX12_nextNight_96 rfl rfl ?_
                refine g_iload_n (n := 99) X 3 dX12_nextNight_98 rfl rfl rfl ?_
                refine g_icmp_le (n := 102) (tgt := 106) X dX12_nextNight_99 (by decide) (by omega) (by omega) rfl (fun c457 => ?_) (fun c457 => ?_)
                · refine g_iconst (n := 107) X dX12_nextNight_106 rfl ?_
                  refine g_istore (n := 109) (L' := [(6, gJ 0), (5, gJ 1), (0, gA n0 190), (1, gJ a), (2, gJ b), (3, gJ v2), (4, gJ v3)]) X dX12_nextNight_107 (by decide) rfl rfl ?_
                  refine g_iload (n := 111) X 1 dX12_nextNight_109 rfl rfl ?_
                  refine g_if_eq (n := 114) (tgt := 153) X dX12_nextNight_111 (by decide) (by omega) rfl (fun c458 => by exfalso; omega) (fun c458 => ?_)
                  refine g_iload (n := 116) X 0 dX12_nextNight_114 rfl rfl ?_
                  refine g_if_eq (n := 119) (tgt := 153) X dX12_nextNight_116 (by decide) (by omega) rfl (fun c459 => ?_) (fun c459 => by exfalso; omega)
                  refine g_iload_n (n := 154) X 5 dX12_nextNight_153 rfl rfl rfl ?_
                  refine g_istore_n (n := 155) (L' := [(3, gJ v2), (6, gJ 0), (5, gJ 1), (0, gA n0 190), (1, gJ a), (2, gJ b), (4, gJ v3)]) X dX12_nextNight_154 rfl (by decide) rfl rfl ?_
                  refine g_iinc (n := 158) (w := v3 + 1) (L' := [(4, gJ (v3 + 1)), (3, gJ v2), (6, gJ 0), (5, gJ 1), (0, gA n0 190), (1, gJ a), (2, gJ b)]) X 6 dX12_nextNight_155 rfl rfl (by decide) rfl rfl ?_
                  refine g_goto (tgt := 5) X dX12_nextNight_158 (by decide) ?_
                  refine G.sub (L' := [(0, gA n0 190), (1, gJ a), (2, gJ b), (3, gJ v2), (4, gJ (v3 + 1))]) [4, 5, 6, 1, 0] rfl ?_
                  exact ih421 v2 (v3 + 1) (by omega) (by omega) (by first | exact gNxt.no hN (fun q => by have q1 := q.1; have q2 := q.2; unfold gRN at q1; unfold gLt gKy gRK at q2; rw [hv424, ← sv426] at q1; omega) (by omega) (by omega) | exact gNxt.keep hN (by omega) (by omega) (by unfold gRK; omega) (by omega) (by omega) | exact gNxt.take hN (by omega) (by omega) (by show gSel a (gRN M v3) = 1; unfold gRN; rw [hv424, ← sv426]; omega) (by unfold gLt gKy gRK; omega) (by unfold gRK; omega) (by omega) (by omega)) (by have q1 := hv1; omega) (by omega)
                · refine g_iconst (n := 103) X dX12_nextNight_102 rfl ?_
                  refine g_goto (tgt := 107) X dX12_nextNight_103 (by decide) ?_
                  refine g_istore (n := 109) (L' := [(6, gJ 1), (5, gJ 1), (0, gA n0 190), (1, gJ a), (2, gJ b), (3, gJ v2), (4, gJ v3)]) X dX12_nextNight_107 (by decide) rfl rfl ?_
                  refine g_iload (n := 111) X 1 dX12_nextNight_109 rfl rfl ?_
                  refine g_if_eq (n := 114) (tgt := 153) X dX12_nextNight_111 (by decide) (by omega) rfl (fun c460 => by exfalso; omega) (fun c460 => ?_)
                  refine g_iload (n := 116) X 0 dX12_nextNight_114 rfl rfl ?_
                  refine g_if_eq (n := 119) (tgt := 153) X dX12_nextNight_116 (by decide) (by omega) rfl (fun c461 => by exfalso; omega) (fun c461 => ?_)
                  refine g_iload_n (n := 120) X 5 dX12_nextNight_119 rfl rfl rfl ?_
                  refine g_iconst (n := 121) X dX12_nextNight_120 rfl ?_
                  refine g_icmp_eq (n := 124) (tgt := 148) X dX12_nextNight_121 (by decide) (by omega) (by omega) rfl (fun c462 => ?_) (fun c462 => ?_)
                  · refine g_iload (n := 150) X 6 dX12_nextNight_148 rfl rfl ?_
                    refine g_goto (tgt := 154) X dX12_nextNight_150 (by decide) ?_
                    refine g_istore_n (n := 155) (L' := [(3, gJ v3), (6, gJ 1), (5, gJ 1), (0, gA n0 190), (1, gJ a), (2, gJ b), (4, gJ v3)]) X dX12_nextNight_154 rfl (by decide) rfl rfl ?_
                    refine g_iinc (n := 158) (w := v3 + 1) (L' := [(4, gJ (v3 + 1)), (3, gJ v3), (6, gJ 1), (5, gJ 1), (0, gA n0 190), (1, gJ a), (2, gJ b)]) X 6 dX12_nextNight_155 rfl rfl (by decide) rfl rfl ?_
                    refine g_goto (tgt := 5) X dX12_nextNight_158 (by decide) ?_
                    refine G.sub (L' := [(0, gA n0 190), (1, gJ a), (2, gJ b), (3, gJ v3), (4, gJ (v3 + 1))]) [4, 5, 6, 1, 0] rfl ?_
                    exact ih421 v3 (v3 + 1) (by omega) (by omega) (by first | exact gNxt.no hN (fun q => by have q1 := q.1; have q2 := q.2; unfold gRN at q1; unfold gLt gKy gRK at q2; rw [hv424, ← sv426] at q1; omega) (by omega) (by omega) | exact gNxt.keep hN (by omega) (by omega) (by unfold gRK; omega) (by omega) (by omega) | exact gNxt.take hN (by omega) (by omega) (by show gSel a (gRN M v3) = 1; unfold gRN; rw [hv424, ← sv426]; omega) (by unfold gLt gKy gRK; omega) (by unfold gRK; omega) (by omega) (by omega)) (by have q1 := hv1; omega) (by omega)
                  · refine g_aload_n (n := 125) X 2 dX12_nextNight_124 rfl rfl rfl ?_
                    refine gg_12_1 (n := 128) (z := 191) X (by decide) (gsz hsz (by decide)) lay_190 kw_6_27 dX12_nextNight_125 rfl (rf_190_1 I (gsz hsz (by decide))) (by decide) ?_
                    refine g_sipush (n := 131) X dX12_nextNight_128 (by decide +kernel) rfl ?_
                    refine g_iload (n := 133) X 6 dX12_nextNight_131 rfl rfl ?_
                    refine g_iadd (n := 134) (z := v3 + 2520) X dX12_nextNight_133 (by omega) rfl ?_
                    refine g_iald2 (n := 135) (v := v446) X (by decide) (gsz hsz (by decide)) lay_191 (by omega) (by omega) (by decide) dX12_nextNight_134 rfl hv446 ?_
                    refine g_aload_n (n := 136) X 2 dX12_nextNight_135 rfl rfl rfl ?_
                    refine gg_12_1 (n := 139) (z := 191) X (by decide) (gsz hsz (by decide)) lay_190 kw_6_27 dX12_nextNight_136 rfl (rf_190_1 I (gsz hsz (by decide))) (by decide) ?_
                    refine g_sipush (n := 142) X dX12_nextNight_139 (by decide +kernel) rfl ?_
                    refine g_iload_n (n := 143) X 5 dX12_nextNight_142 rfl rfl rfl ?_
                    refine g_iadd (n := 144) (z := v2 + 2520) X dX12_nextNight_143 (by omega) rfl ?_
                    obtain ⟨v463, hv463, rv463⟩ := gRd I (by decide) (gsz hsz (by decide)) (rs_NWEEK (k := v2 + 2520) (by omega)).1
                    refine g_iald2 (n := 145) (v := v463) X (by decide) (gsz hsz (by decide)) lay_191 (by omega) (by omega) (by decide) dX12_nextNight_144 rfl hv463 ?_
                    refine g_icmp_ge (n := 148) (tgt := 153) X dX12_nextNight_145 (by decide) (by omega) (by omega) rfl (fun c464 => ?_) (fun c464 => ?_)
                    · refine g_iload_n (n := 154) X 5 dX12_nextNight_153 rfl rfl rfl ?_
                      refine g_istore_n (n := 155) (L' := [(3, gJ v2), (6, gJ 1), (5, gJ 1), (0, gA n0 190), (1, gJ a), (2, gJ b), (4, gJ v3)]) X dX12_nextNight_154 rfl (by decide) rfl rfl ?_
                      refine g_iinc (n := 158) (w := v3 + 1) (L' := [(4, gJ (v3 + 1)), (3, gJ v2), (6, gJ 1), (5, gJ 1), (0, gA n0 190), (1, gJ a), (2, gJ b)]) X 6 dX12_nextNight_155 rfl rfl (by decide) rfl rfl ?_
                      refine g_goto (tgt := 5) X dX12_nextNight_158 (by decide) ?_
                      refine G.sub (L' := [(0, gA n0 190), (1, gJ a), (2, gJ b), (3, gJ v2), (4, gJ (v3 + 1))]) [4, 5, 6, 1, 0] rfl ?_
                      exact ih421 v2 (v3 + 1) (by omega) (by omega) (by first | exact gNxt.no hN (fun q => by have q1 := q.1; have q2 := q.2; unfold gRN at q1; unfold gLt gKy gRK at q2; rw [hv424, ← sv426] at q1; omega) (by omega) (by omega) | exact gNxt.keep hN (by omega) (by omega) (by unfold gRK; omega) (by omega) (by omega) | exact gNxt.take hN (by omega) (by omega) (by show gSel a (gRN M v3) = 1; unfold gRN; rw [hv424, ← sv426]; omega) (by unfold gLt gKy gRK; omega) (by unfold gRK; omega) (by omega) (by omega)) (by have q1 := hv1; omega) (by omega)
                    · refine g_iload (n := 150) X 6 dX12_nextNight_148 rfl rfl ?_
                      refine g_goto (tgt := 154) X dX12_nextNight_150 (by decide) ?_
                      refine g_istore_n (n := 155) (L' := [(3, gJ v3), (6, gJ 1), (5, gJ 1), (0, gA n0 190), (1, gJ a), (2, gJ b), (4, gJ v3)]) X dX12_nextNight_154 rfl (by decide) rfl rfl ?_
                      refine g_iinc (n := 158) (w := v3 + 1) (L' := [(4, gJ (v3 + 1)), (3, gJ v3), (6, gJ 1), (5, gJ 1), (0, gA n0 190), (1, gJ a), (2, gJ b)]) X 6 dX12_nextNight_155 rfl rfl (by decide) rfl rfl ?_
                      refine g_goto (tgt := 5) X dX12_nextNight_158 (by decide) ?_
                      refine G.sub (L' := [(0, gA n0 190), (1, gJ a), (2, gJ b), (3, gJ v3), (4, gJ (v3 + 1))]) [4, 5, 6, 1, 0] rfl ?_
                      exact ih421 v3 (v3 + 1) (by omega) (by omega) (by first | exact gNxt.no hN (fun q => by have q1 := q.1; have q2 := q.2; unfold gRN at q1; unfold gLt gKy gRK at q2; rw [hv424, ← sv426] at q1; omega) (by omega) (by omega) | exact gNxt.keep hN (by omega) (by omega) (by unfold gRK; omega) (by omega) (by omega) | exact gNxt.take hN (by omega) (by omega) (by show gSel a (gRN M v3) = 1; unfold gRN; rw [hv424, ← sv426]; omega) (by unfold gLt gKy gRK; omega) (by unfold gRK; omega) (by omega) (by omega)) (by have q1 := hv1; omega) (by omega)
  refine G.sub (L' := [(0, gA n0 190), (1, gJ a), (2, gJ b), (3, gJ (-1)), (4, gJ 0)]) [2, 3, 4, 1, 0] rfl ?_
  exact j5 _ (-1) 0 (by omega) (by omega) (gNxt.z rfl rfl) (by have q1 := hv1; omega) (Nat.lt_succ_self _)
abbrev R_s_X12_isOne2 : Room := { frames := 1, cells := 0, slots := 0, locals := 26 }
set_option maxRecDepth 100000 in
set_option maxHeartbeats 4000000 in
theorem s_X12_isOne2 {l : Launch} {n0 : Nat} {D : va_G} {cA : Nat → ClassId} {M : gM} (a : Int) (r_a : 0 ≤ a ∧ a ≤ 255) {sz : Nat} (hsz : 206 ≤ sz) (I : gI sz M) (C : gC sz M)   : Met l yX12_isOne (gWsOf yX12_isOne cX12_isOne 6 (Option.some Jvm.ClassFile.FieldType.boolean)) R_s_X12_isOne2 (gPc n0 D cA [gA n0 190, gJ a] M sz) (gQi n0 D cA sz (fun z M1 => M = M1 ∧ (0 ≤ z ∧ z ≤ 1) ∧ ((z = 1 ∧ gOneR (gRN M) (gRP M) (gRK M) (gWRf M) (M 191 6) a) ∨ (z = 0 ∧ ¬ gOneR (gRN M) (gRP M) (gRK M) (gWRf M) (M 191 6) a)))) 0 0 (fun q => n0 ≤ q) := by
  refine gMetZ [gA n0 190, gJ a] (by decide) (Nat.le_of_ble_eq_true rfl) ⟨rfl, rfl⟩ ?_
  intro p e s m args below meth cd Q X hq
  have X : gCx p s m args meth cd n0 D cA "ParishUnionModel" cX12_isOne 6 := X
  show G p l e R_s_X12_isOne2 s m args below meth cd n0 D cA 6 Q 0 0 M sz 0 [(0, gA n0 190), (1, gJ a)] []
  obtain ⟨v1, hv1, rv1⟩ := gRd I (by decide) (gsz hsz (by decide)) (rs_NN (k := 6) (by omega)).1
  refine g_aload_n (n := 1) X 0 dX12_isOne_0 rfl rfl rfl ?_
  refine g_iload_n (n := 2) X 1 dX12_isOne_1 rfl rfl rfl ?_
  refine g_iconst (n := 3) X dX12_isOne_2 rfl ?_
  refine g_callVi (n := 6) (As := [gJ a, gJ (-1)]) (rest := []) (cs1 := 0) (ss1 := 0) X (s_X12_nextNight2 a (by omega) (-1) (by omega) hsz I C ) okX12_nextNight kw_7_212 ⟨kw_7_214, kw_0_86⟩ ⟨rfl, rfl⟩ ⟨Nat.le_of_ble_eq_true rfl, Nat.le_of_ble_eq_true rfl⟩ rfl (by decide) (gsz hsz (by decide)) lay_190 rfl rfl (Nat.le_of_ble_eq_true rfl) ⟨Nat.le_of_ble_eq_true rfl, Nat.le_of_ble_eq_true rfl⟩ rfl rfl dX12_isOne_3 rfl (fun v2 M3 P4 => ?_)
  obtain ⟨rfl, rv2, xv2⟩ := P4
  refine g_istore_n (n := 7) (L' := [(2, gJ v2), (0, gA n0 190), (1, gJ a)]) X dX12_isOne_6 rfl (by decide) rfl rfl ?_
  refine g_iconst (n := 8) X dX12_isOne_7 rfl ?_
  refine g_istore_n (n := 9) (L' := [(3, gJ 1), (2, gJ v2), (0, gA n0 190), (1, gJ a)]) X dX12_isOne_8 rfl (by decide) rfl rfl ?_
  have j8 : ∀ (N26 : Nat) (v5 v6 : Int) , (-1 ≤ v5 ∧ v5 ≤ 39) → (0 ≤ v6 ∧ v6 ≤ 1) → (gAt (gRN M) (gRP M) (gRK M) (gWRf M) (M 191 6) a v5 v6) → (gNK (M 191 (v5 + 2520)) v5).toNat < N26 → G p l e R_s_X12_isOne2 s m args below meth cd n0 D cA 6 Q 0 0 M sz 9 [(0, gA n0 190), (1, gJ a), (2, gJ v5), (3, gJ v6)] [] := by
    intro N26; induction N26 with
    | zero => intro v5 v6 rv5 rv6 hA hm28; exfalso; omega
    | succ N26 ih27 =>
      intro v5 v6 rv5 rv6 hA hm28
      obtain ⟨v29, hv29, rv29⟩ := rsp_2480_2560 (k := v5 + 2520) I (gsz hsz (by decide)) (by omega)
      refine g_iload_n (n := 10) X 2 dX12_isOne_9 rfl rfl rfl ?_
      refine g_iconst (n := 11) X dX12_isOne_10 rfl ?_
      refine g_icmp_eq (n := 14) (tgt := 115) X dX12_isOne_11 (by decide) (by omega) (by omega) rfl (fun c30 => ?_) (fun c30 => ?_)
      · refine g_iload_n (n := 116) X 3 dX12_isOne_115 rfl rfl rfl ?_
        exact hq _ _ _ _ dX12_isOne_116 (by omega) ⟨rfl, by omega, (by rcases hA with ⟨q, h | h⟩ | ⟨q, h⟩; (exact Or.inl ⟨by omega, h.2⟩); (exfalso; have := h.1; omega); (exact Or.inr ⟨by omega, h⟩))⟩
      · refine g_iload_n (n := 15) X 3 dX12_isOne_14 rfl rfl rfl ?_
        refine g_if_eq (n := 18) (tgt := 115) X dX12_isOne_15 (by decide) (by omega) rfl (fun c31 => ?_) (fun c31 => ?_)
        · refine g_iload_n (n := 116) X 3 dX12_isOne_115 rfl rfl rfl ?_
          exact hq _ _ _ _ dX12_isOne_116 (by omega) ⟨rfl, by omega, (by rcases hA with ⟨q, h | h⟩ | ⟨q, h⟩; (exact Or.inl ⟨by omega, h.2⟩); (exfalso; have := h.1; omega); (exact Or.inr ⟨by omega, h⟩))⟩
        · refine g_aload_n (n := 19) X 0 dX12_isOne_18 rfl rfl rfl ?_
          refine g_iload_n (n := 20) X 1 dX12_isOne_19 rfl rfl rfl ?_
          refine g_iload_n (n := 21) X 2 dX12_isOne_20 rfl rfl rfl ?_
          refine g_callVi (n := 24) (As := [gJ a, gJ v5]) (rest := []) (cs1 := 0) (ss1 := 0) X (s_X12_nextNight2 a (by omega) v5 (by omega) hsz I C ) okX12_nextNight kw_7_212 ⟨kw_7_214, kw_0_86⟩ ⟨rfl, rfl⟩ ⟨Nat.le_of_ble_eq_true rfl, Nat.le_of_ble_eq_true rfl⟩ rfl (by decide) (gsz hsz (by decide)) lay_190 rfl rfl (Nat.le_of_ble_eq_true rfl) ⟨Nat.le_of_ble_eq_true rfl, Nat.le_of_ble_eq_true rfl⟩ rfl rfl dX12_isOne_21 rfl (fun v32 M33 P34 => ?_)
          obtain ⟨rfl, rv32, xv32⟩ := P34
          refine g_istore (n := 26) (L' := [(4, gJ v32), (0, gA n0 190), (1, gJ a), (2, gJ v5), (3, gJ v6)]) X dX12_isOne_24 (by decide) rfl rfl ?_
          refine g_iload (n := 28) X 0 dX12_isOne_26 rfl rfl ?_
          refine g_iconst (n := 29) X dX12_isOne_28 rfl ?_
          refine g_icmp_ne (n := 32) (tgt := 36) X dX12_isOne_29 (by decide) (by omega) (by omega) rfl (fun c35 => ?_) (fun c35 => ?_)
          · refine g_aload_n (n := 37) X 1 dX12_isOne_36 rfl rfl rfl ?_
            refine g_aload_n (n := 38) X 1 dX12_isOne_37 rfl rfl rfl ?_
            refine gg_12_1 (n := 41) (z := 191) X (by decide) (gsz hsz (by decide)) lay_190 kw_6_27 dX12_isOne_38 rfl (rf_190_1 I (gsz hsz (by decide))) (by decide) ?_
            refine g_sipush (n := 44) X dX12_isOne_41 (by decide +kernel) rfl ?_
            refine g_iload_n (n := 45) X 3 dX12_isOne_44 rfl rfl rfl ?_
            refine g_iadd (n := 46) (z := v5 + 2480) X dX12_isOne_45 (by omega) rfl ?_
            obtain ⟨v36, hv36, rv36⟩ := gRd I (by decide) (gsz hsz (by decide)) (rs_NAT (k := v5 + 2480) (by omega)).1
            refine g_iald2 (n := 47) (v := v36) X (by decide) (gsz hsz (by decide)) lay_191 (by omega) (by omega) (by decide) dX12_isOne_46 rfl hv36 ?_
            refine g_aload_n (n := 48) X 1 dX12_isOne_47 rfl rfl rfl ?_
            refine gg_12_1 (n := 51) (z := 191) X (by decide) (gsz hsz (by decide)) lay_190 kw_6_27 dX12_isOne_48 rfl (rf_190_1 I (gsz hsz (by decide))) (by decide) ?_
            refine g_sipush (n := 54) X dX12_isOne_51 (by decide +kernel) rfl ?_
            refine g_iload (n := 56) X 0 dX12_isOne_54 rfl rfl ?_
            refine g_iadd (n := 57) (z := v32 + 2480) X dX12_isOne_56 (by omega) rfl ?_
            obtain ⟨v37, hv37, rv37⟩ := gRd I (by decide) (gsz hsz (by decide)) (rs_NAT (k := v32 + 2480) (by omega)).1
            refine g_iald2 (n := 58) (v := v37) X (by decide) (gsz hsz (by decide)) lay_191 (by omega) (by omega) (by decide) dX12_isOne_57 rfl hv37 ?_
            refine g_callVi (n := 61) (As := [gJ v36, gJ v37]) (rest := []) (cs1 := 0) (ss1 := 0) X (s_X12_farOf2 v36 (by omega) v37 (by omega) hsz I C ) okX12_farOf kw_6_113 ⟨kw_6_115, kw_0_39⟩ ⟨rfl, rfl⟩ ⟨Nat.le_of_ble_eq_true rfl, Nat.le_of_ble_eq_true rfl⟩ rfl (by decide) (gsz hsz (by decide)) lay_190 rfl rfl (Nat.le_of_ble_eq_true rfl) ⟨Nat.le_of_ble_eq_true rfl, Nat.le_of_ble_eq_true rfl⟩ rfl rfl dX12_isOne_58 rfl (fun v38 M39 P40 => ?_)
            obtain ⟨rfl, rv38, xv38⟩ := P40
            refine g_istore (n := 63) (L' := [(5, gJ v38), (4, gJ v32), (0, gA n0 190), (1, gJ a), (2, gJ v5), (3, gJ v6)]) X dX12_isOne_61 (by decide) rfl rfl ?_
            refine g_iload (n := 65) X 1 dX12_isOne_63 rfl rfl ?_
            refine g_iconst (n := 66) X dX12_isOne_65 rfl ?_
            refine g_icmp_eq (n := 69) (tgt := 103) X dX12_isOne_66 (by decide) (by omega) (by omega) rfl (fun c41 => by exfalso; omega) (fun c41 => ?_)
            refine g_iload (n := 71) X 0 dX12_isOne_69 rfl rfl ?_
            refine g_bipush (n := 73) X dX12_isOne_71 (by decide +kernel) rfl ?_
            refine g_icmp_ge (n := 76) (tgt := 107) X dX12_isOne_73 (by decide) (by omega) (by omega) rfl (fun c42 => ?_) (fun c42 => ?_)
            · refine g_iconst (n := 108) X dX12_isOne_107 rfl ?_
              refine g_istore_n (n := 109) (L' := [(3, gJ 0), (5, gJ v38), (4, gJ v32), (0, gA n0 190), (1, gJ a), (2, gJ v5)]) X dX12_isOne_108 rfl (by decide) rfl rfl ?_
              refine g_iload (n := 111) X 2 dX12_isOne_109 rfl rfl ?_
              refine g_istore_n (n := 112) (L' := [(2, gJ v32), (3, gJ 0), (5, gJ v38), (4, gJ v32), (0, gA n0 190), (1, gJ a)]) X dX12_isOne_111 rfl (by decide) rfl rfl ?_
              refine g_goto (tgt := 9) X dX12_isOne_112 (by decide) ?_
              refine G.sub (L' := [(0, gA n0 190), (1, gJ a), (2, gJ v32), (3, gJ 0)]) [4, 5, 0, 1] rfl ?_
              exact ih27 v32 0 (by omega) (by omega) (by first | exact Or.inl ⟨by omega, Or.inl ⟨by omega, gAt.last ((hA.resolve_right (fun q => absurd q.1 (by omega))).2.resolve_left (fun q => absurd q.1 (by omega))) (by have q := xv32; rw [show v32 = -1 by omega] at q; exact q)⟩⟩ | exact Or.inr ⟨by omega, gAt.bad ((hA.resolve_right (fun q => absurd q.1 (by omega))).2.resolve_left (fun q => absurd q.1 (by omega))) xv32 (by omega) (fun q => by have q1 := q.1; unfold gRP gWRf at q1; rw [hv36, hv37, show v36 * 6 + v37 + 24 = 24 + 6 * v36 + v37 by omega, ← xv38] at q1; omega)⟩) (by have hx := gNK_lt (x := M 191 (v5 + 2520)) (k := v5) (x' := M 191 (v32 + 2520)) (k' := v32) (by omega) (by omega) (by rcases xv32 with ⟨q, _⟩ | ⟨q, _, l, _⟩; (exact Or.inl (by omega)); (unfold gLt gKy gRK at l; omega)); omega)
            · refine g_aload_n (n := 77) X 2 dX12_isOne_76 rfl rfl rfl ?_
              refine gg_12_1 (n := 80) (z := 191) X (by decide) (gsz hsz (by decide)) lay_190 kw_6_27 dX12_isOne_77 rfl (rf_190_1 I (gsz hsz (by decide))) (by decide) ?_
              refine g_sipush (n := 83) X dX12_isOne_80 (by decide +kernel) rfl ?_
              refine g_iload (n := 85) X 1 dX12_isOne_83 rfl rfl ?_
              refine g_iadd (n := 86) (z := v32 + 2520) X dX12_isOne_85 (by omega) rfl ?_
              obtain ⟨v43, hv43, rv43⟩ := gRd I (by decide) (gsz hsz (by decide)) (rs_NWEEK (k := v32 + 2520) (by omega)).1
              refine g_iald2 (n := 87) (v := v43) X (by decide) (gsz hsz (by decide)) lay_191 (by omega) (by omega) (by decide) dX12_isOne_86 rfl hv43 ?_
              refine g_aload_n (n := 88) X 2 dX12_isOne_87 rfl rfl rfl ?_
              refine gg_12_1 (n := 91) (z := 191) X (by decide) (gsz hsz (by decide)) lay_190 kw_6_27 dX12_isOne_88 rfl (rf_190_1 I (gsz hsz (by decide))) (by decide) ?_
              refine g_sipush (n := 94) X dX12_isOne_91 (by decide +kernel) rfl ?_
              refine g_iload_n (n := 95) X 4 dX12_isOne_94 rfl rfl rfl ?_
              refine g_iadd (n := 96) (z := v5 + 2520) X dX12_isOne_95 (by omega) rfl ?_
              refine g_iald2 (n := 97) (v := v29) X (by decide) (gsz hsz (by decide)) lay_191 (by omega) (by omega) (by decide) dX12_isOne_96 rfl hv29 ?_
              refine g_isub (n := 98) (z := v43 - v29) X dX12_isOne_97 rfl rfl ?_
              refine g_iload (n := 100) X 0 dX12_isOne_98 rfl rfl ?_
              refine g_icmp_lt (n := 103) (tgt := 107) X dX12_isOne_100 (by decide) (by omega) (by omega) rfl (fun c44 => ?_) (fun c44 => ?_)
              · refine g_iconst (n := 108) X dX12_isOne_107 rfl ?_
                refine g_istore_n (n := 109) (L' := [(3, gJ 0), (5, gJ v38), (4, gJ v32), (0, gA n0 190), (1, gJ a), (2, gJ v5)]) X dX12_isOne_108 rfl (by decide) rfl rfl ?_
                refine g_iload (n := 111) X 2 dX12_isOne_109 rfl rfl ?_
                refine g_istore_n (n := 112) (L' := [(2, gJ v32), (3, gJ 0), (5, gJ v38), (4, gJ v32), (0, gA n0 190), (1, gJ a)]) X dX12_isOne_111 rfl (by decide) rfl rfl ?_
                refine g_goto (tgt := 9) X dX12_isOne_112 (by decide) ?_
                refine G.sub (L' := [(0, gA n0 190), (1, gJ a), (2, gJ v32), (3, gJ 0)]) [4, 5, 0, 1] rfl ?_
                exact ih27 v32 0 (by omega) (by omega) (by first | exact Or.inl ⟨by omega, Or.inl ⟨by omega, gAt.last ((hA.resolve_right (fun q => absurd q.1 (by omega))).2.resolve_left (fun q => absurd q.1 (by omega))) (by have q := xv32; rw [show v32 = -1 by omega] at q; exact q)⟩⟩ | exact Or.inl ⟨by omega, Or.inr (gAt.next (by have q1 := hv1; omega) ((hA.resolve_right (fun q => absurd q.1 (by omega))).2.resolve_left (fun q => absurd q.1 (by omega))) xv32 (by omega) (by unfold gOK gRP gRK gWRf; rw [hv36, hv37, show v36 * 6 + v37 + 24 = 24 + 6 * v36 + v37 by omega, ← xv38]; omega))⟩ | exact Or.inr ⟨by omega, gAt.bad ((hA.resolve_right (fun q => absurd q.1 (by omega))).2.resolve_left (fun q => absurd q.1 (by omega))) xv32 (by omega) (fun q => by have q1 := q.1; have q2 := q.2; unfold gRP gWRf at q1 q2; unfold gRK at q2; rw [hv36, hv37, show v36 * 6 + v37 + 24 = 24 + 6 * v36 + v37 by omega, ← xv38] at q1 q2; omega)⟩) (by have hx := gNK_lt (x := M 191 (v5 + 2520)) (k := v5) (x' := M 191 (v32 + 2520)) (k' := v32) (by omega) (by omega) (by rcases xv32 with ⟨q, _⟩ | ⟨q, _, l, _⟩; (exact Or.inl (by omega)); (unfold gLt gKy gRK at l; omega)); omega)
              · refine g_iconst (n := 104) X dX12_isOne_103 rfl ?_
                refine g_goto (tgt := 108) X dX12_isOne_104 (by decide) ?_
                refine g_istore_n (n := 109) (L' := [(3, gJ 1), (5, gJ v38), (4, gJ v32), (0, gA n0 190), (1, gJ a), (2, gJ v5)]) X dX12_isOne_108 rfl (by decide) rfl rfl ?_
                refine g_iload (n := 111) X 2 dX12_isOne_109 rfl rfl ?_
                refine g_istore_n (n := 112) (L' := [(2, gJ v32), (3, gJ 1), (5, gJ v38), (4, gJ v32), (0, gA n0 190), (1, gJ a)]) X dX12_isOne_111 rfl (by decide) rfl rfl ?_
                refine g_goto (tgt := 9) X dX12_isOne_112 (by decide) ?_
                refine G.sub (L' := [(0, gA n0 190), (1, gJ a), (2, gJ v32), (3, gJ 1)]) [4, 5, 0, 1] rfl ?_
                exact ih27 v32 1 (by omega) (by omega) (by first | exact Or.inl ⟨by omega, Or.inl ⟨by omega, gAt.last ((hA.resolve_right (fun q => absurd q.1 (by omega))).2.resolve_left (fun q => absurd q.1 (by omega))) (by have q := xv32; rw [show v32 = -1 by omega] at q; exact q)⟩⟩ | exact Or.inl ⟨by omega, Or.inr (gAt.next (by have q1 := hv1; omega) ((hA.resolve_right (fun q => absurd q.1 (by omega))).2.resolve_left (fun q => absurd q.1 (by omega))) xv32 (by omega) (by unfold gOK gRP gRK gWRf; rw [hv36, hv37, show v36 * 6 + v37 + 24 = 24 + 6 * v36 + v37 by omega, ← xv38]; omega))⟩ | exact Or.inr ⟨by omega, gAt.bad ((hA.resolve_right (fun q => absurd q.1 (by omega))).2.resolve_left (fun q => absurd q.1 (by omega))) xv32 (by omega) (fun q => by have q1 := q.1; have q2 := q.2; unfold gRP gWRf at q1 q2; unfold gRK at q2; rw [hv36, hv37, show v36 * 6 + v37 + 24 = 24 + 6 * v36 + v37 by omega, ← xv38] at q1 q2; omega)⟩) (by have hx := gNK_lt (x := M 191 (v5 + 2520)) (k := v5) (x' := M 191 (v32 + 2520)) (k' := v32) (by omega) (by omega) (by rcases xv32 with ⟨q, _⟩ | ⟨q, _, l, _⟩; (exact Or.inl (by omega)); (unfold gLt gKy gRK at l; omega)); omega)
          · refine g_iconst (n := 33) X dX12_isOne_32 rfl ?_
            refine g_goto (tgt := 61) X dX12_isOne_33 (by decide) ?_
            refine g_istore (n := 63) (L' := [(5, gJ 0), (4, gJ v32), (0, gA n0 190), (1, gJ a), (2, gJ v5), (3, gJ v6)]) X dX12_isOne_61 (by decide) rfl rfl ?_
            refine g_iload (n := 65) X 1 dX12_isOne_63 rfl rfl ?_
            refine g_iconst (n := 66) X dX12_isOne_65 rfl ?_
            refine g_icmp_eq (n := 69) (tgt := 103) X dX12_isOne_66 (by decide) (by omega) (by omega) rfl (fun c45 => ?_) (fun c45 => by exfalso; omega)
            refine g_iconst (n := 104) X dX12_isOne_103 rfl ?_
            refine g_goto (tgt := 108) X dX12_isOne_104 (by decide) ?_
            refine g_istore_n (n := 109) (L' := [(3, gJ 1), (5, gJ 0), (4, gJ v32), (0, gA n0 190), (1, gJ a), (2, gJ v5)]) X dX12_isOne_108 rfl (by decide) rfl rfl ?_
            refine g_iload (n := 111) X 2 dX12_isOne_109 rfl rfl ?_
            refine g_istore_n (n := 112) (L' := [(2, gJ v32), (3, gJ 1), (5, gJ 0), (4, gJ v32), (0, gA n0 190), (1, gJ a)]) X dX12_isOne_111 rfl (by decide) rfl rfl ?_
            refine g_goto (tgt := 9) X dX12_isOne_112 (by decide) ?_
            refine G.sub (L' := [(0, gA n0 190), (1, gJ a), (2, gJ v32), (3, gJ 1)]) [4, 5, 0, 1] rfl ?_
            exact ih27 v32 1 (by omega) (by omega) (by first | exact Or.inl ⟨by omega, Or.inl ⟨by omega, gAt.last ((hA.resolve_right (fun q => absurd q.1 (by omega))).2.resolve_left (fun q => absurd q.1 (by omega))) (by have q := xv32; rw [show v32 = -1 by omega] at q; exact q)⟩⟩) (by have hx := gNK_lt (x := M 191 (v5 + 2520)) (k := v5) (x' := M 191 (v32 + 2520)) (k' := v32) (by omega) (by omega) (by rcases xv32 with ⟨q, _⟩ | ⟨q, _, l, _⟩; (exact Or.inl (by omega)); (unfold gLt gKy gRK at l; omega)); omega)
  refine G.sub (L' := [(0, gA n0 190), (1, gJ a), (2, gJ v2), (3, gJ 1)]) [2, 3, 1, 0] rfl ?_
  exact j8 _ v2 1 (by omega) (by omega) (gAt.first xv2) (Nat.lt_succ_self _)
abbrev R_s_X11_one2 : Room := { frames := 2, cells := 0, slots := 0, locals := 47 }
set_option maxRecDepth 100000 in
set_option maxHeartbeats 4000000 in
theorem s_X11_one2 {l : Launch} {n0 : Nat} {D : va_G} {cA : Nat → ClassId} {M : gM} (a : Int) (r_a : -2147483648 ≤ a ∧ a ≤ 2147483647) {sz : Nat} (hsz : 206 ≤ sz) (I : gI sz M) (C : gC sz M)   : Met l yX11_one (gWsOf yX11_one cX11_one 2 (Option.some Jvm.ClassFile.FieldType.int)) R_s_X11_one2 (gPc n0 D cA [gA n0 0, gJ a] M sz) (gQi n0 D cA sz (fun z M1 => M = M1 ∧ (-2 ≤ z ∧ z ≤ 1) ∧ ((¬ (0 ≤ a ∧ a ≤ 255) ∧ z = -2) ∨ ((0 ≤ a ∧ a ≤ 255) ∧ ((z = 1 ∧ gOne (M 27) (M 28) (M 29) (M 4) (M 26 3) a) ∨ (z = 0 ∧ ¬ gOne (M 27) (M 28) (M 29) (M 4) (M 26 3) a)))))) 0 0 (fun q => n0 ≤ q) := by
  refine gMetI [gA n0 0, gJ a] (by decide) (Nat.le_of_ble_eq_true rfl) ⟨rfl, rfl⟩ ?_
  intro p e s m args below meth cd Q X hq
  have X : gCx p s m args meth cd n0 D cA "ParishUnion" cX11_one 2 := X
  show G p l e R_s_X11_one2 s m args below meth cd n0 D cA 2 Q 0 0 M sz 0 [(0, gA n0 0), (1, gJ a)] []
  refine g_iload_n (n := 1) X 1 dX11_one_0 rfl rfl rfl ?_
  refine g_iconst (n := 2) X dX11_one_1 rfl ?_
  refine g_sipush (n := 5) X dX11_one_2 (by decide +kernel) rfl ?_
  refine g_callSi (n := 8) (As := [gJ a, gJ 0, gJ 255]) (rest := []) (cs1 := 0) (ss1 := 0) X (s_X11_within a (by omega) 0 (by omega) 255 (by omega) hsz I C ) okX11_within kw_3_29 kw_3_30 ⟨rfl, rfl⟩ ⟨Nat.le_of_ble_eq_true rfl, Nat.le_of_ble_eq_true rfl⟩ rfl rfl (Nat.le_of_ble_eq_true rfl) ⟨Nat.le_of_ble_eq_true rfl, Nat.le_of_ble_eq_true rfl⟩ rfl rfl dX11_one_5 rfl (fun v1 M2 P3 => ?_)
  obtain ⟨rfl, rv1, xv1⟩ := P3
  refine g_if_ne (n := 11) (tgt := 14) X dX11_one_8 (by decide) (by omega) rfl (fun c4 => ?_) (fun c4 => ?_)
  · refine g_aload_n (n := 15) X 0 dX11_one_14 rfl rfl rfl ?_
    refine gg_11_0 (n := 18) (z := 1) X (by decide) (gsz hsz (by decide)) lay_0 kw_2_231 dX11_one_15 rfl (rf_0_0 I (gsz hsz (by decide))) (by decide) ?_
    refine gg_9_8 (n := 21) (z := 26) X (by decide) (gsz hsz (by decide)) lay_1 kw_2_123 dX11_one_18 rfl (rf_1_8 I (gsz hsz (by decide))) (by decide) ?_
    refine g_iload_n (n := 22) X 1 dX11_one_21 rfl rfl rfl ?_
    refine g_aload_n (n := 23) X 0 dX11_one_22 rfl rfl rfl ?_
    refine gg_11_0 (n := 26) (z := 1) X (by decide) (gsz hsz (by decide)) lay_0 kw_2_231 dX11_one_23 rfl (rf_0_0 I (gsz hsz (by decide))) (by decide) ?_
    refine gg_9_0 (n := 29) (z := 2) X (by decide) (gsz hsz (by decide)) lay_1 kw_2_105 dX11_one_26 rfl (rf_1_0 I (gsz hsz (by decide))) (by decide) ?_
    refine g_callVi (n := 32) (As := [gJ a, gA n0 2]) (rest := []) (cs1 := 0) (ss1 := 0) X (s_X10_mayBeOne2 a (by omega) hsz I C ) okX10_mayBeOne kw_5_94 ⟨kw_5_95, kw_5_96⟩ ⟨rfl, rfl⟩ ⟨Nat.le_of_ble_eq_true rfl, Nat.le_of_ble_eq_true rfl⟩ rfl (by decide) (gsz hsz (by decide)) lay_26 rfl rfl (Nat.le_of_ble_eq_true rfl) ⟨Nat.le_of_ble_eq_true rfl, Nat.le_of_ble_eq_true rfl⟩ rfl rfl dX11_one_29 rfl (fun v5 M6 P7 => ?_)
    obtain ⟨rfl, rv5, xv5⟩ := P7
    refine g_if_eq (n := 35) (tgt := 39) X dX11_one_32 (by decide) (by omega) rfl (fun c8 => ?_) (fun c8 => ?_)
    · refine g_iconst (n := 40) X dX11_one_39 rfl ?_
      exact hq _ _ _ _ dX11_one_40 ⟨rfl, by omega, (Or.inr ⟨by omega, by rcases xv5 with ⟨q, h⟩ | ⟨q, h⟩; (first | exact Or.inl ⟨by omega, h⟩ | (exfalso; omega)); (first | exact Or.inr ⟨by omega, h⟩ | (exfalso; omega))⟩)⟩
    · refine g_iconst (n := 36) X dX11_one_35 rfl ?_
      refine g_goto (tgt := 40) X dX11_one_36 (by decide) ?_
      exact hq _ _ _ _ dX11_one_40 ⟨rfl, by omega, (Or.inr ⟨by omega, by rcases xv5 with ⟨q, h⟩ | ⟨q, h⟩; (first | exact Or.inl ⟨by omega, h⟩ | (exfalso; omega)); (first | exact Or.inr ⟨by omega, h⟩ | (exfalso; omega))⟩)⟩
  · refine g_bipush (n := 13) X dX11_one_11 (by decide +kernel) rfl ?_
    exact hq _ _ _ _ dX11_one_13 ⟨rfl, by omega, (Or.inl ⟨by omega, by omega⟩)⟩
abbrev R_s_X12_one2 : Room := { frames := 2, cells := 0, slots := 0, locals := 51 }
set_option maxRecDepth 100000 in
set_option maxHeartbeats 4000000 in
theorem s_X12_one2 {l : Launch} {n0 : Nat} {D : va_G} {cA : Nat → ClassId} {M : gM} (a : Int) (r_a : -2147483648 ≤ a ∧ a ≤ 2147483647) {sz : Nat} (hsz : 206 ≤ sz) (I : gI sz M) (C : gC sz M)   : Met l yX12_one (gWsOf yX12_one cX12_one 2 (Option.some Jvm.ClassFile.FieldType.int)) R_s_X12_one2 (gPc n0 D cA [gA n0 190, gJ a] M sz) (gQi n0 D cA sz (fun z M1 => M = M1 ∧ (-2 ≤ z ∧ z ≤ 1) ∧ ((¬ (0 ≤ a ∧ a ≤ 255) ∧ z = -2) ∨ ((0 ≤ a ∧ a ≤ 255) ∧ ((z = 1 ∧ gOneR (gRN M) (gRP M) (gRK M) (gWRf M) (M 191 6) a) ∨ (z = 0 ∧ ¬ gOneR (gRN M) (gRP M) (gRK M) (gWRf M) (M 191 6) a)))))) 0 0 (fun q => n0 ≤ q) := by
  refine gMetI [gA n0 190, gJ a] (by decide) (Nat.le_of_ble_eq_true rfl) ⟨rfl, rfl⟩ ?_
  intro p e s m args below meth cd Q X hq
  have X : gCx p s m args meth cd n0 D cA "ParishUnionModel" cX12_one 2 := X
  show G p l e R_s_X12_one2 s m args below meth cd n0 D cA 2 Q 0 0 M sz 0 [(0, gA n0 190), (1, gJ a)] []
  refine g_iload_n (n := 1) X 1 dX12_one_0 rfl rfl rfl ?_
  refine g_iconst (n := 2) X dX12_one_1 rfl ?_
  refine g_sipush (n := 5) X dX12_one_2 (by decide +kernel) rfl ?_
  refine g_callSi (n := 8) (As := [gJ a, gJ 0, gJ 255]) (rest := []) (cs1 := 0) (ss1 := 0) X (s_X12_in a (by omega) 0 (by omega) 255 (by omega) hsz I C ) okX12_in kw_6_106 kw_6_107 ⟨rfl, rfl⟩ ⟨Nat.le_of_ble_eq_true rfl, Nat.le_of_ble_eq_true rfl⟩ rfl rfl (Nat.le_of_ble_eq_true rfl) ⟨Nat.le_of_ble_eq_true rfl, Nat.le_of_ble_eq_true rfl⟩ rfl rfl dX12_one_5 rfl (fun v1 M2 P3 => ?_)
  obtain ⟨rfl, rv1, xv1⟩ := P3
  refine g_if_ne (n := 11) (tgt := 16) X dX12_one_8 (by decide) (by omega) rfl (fun c4 => ?_) (fun c4 => ?_)
  · refine g_aload_n (n := 17) X 0 dX12_one_16 rfl rfl rfl ?_
    refine g_iload_n (n := 18) X 1 dX12_one_17 rfl rfl rfl ?_
    refine g_callVi (n := 21) (As := [gJ a]) (rest := []) (cs1 := 0) (ss1 := 0) X (s_X12_isOne2 a (by omega) hsz I C ) okX12_isOne kw_7_208 ⟨kw_7_210, kw_0_85⟩ ⟨rfl, rfl⟩ ⟨Nat.le_of_ble_eq_true rfl, Nat.le_of_ble_eq_true rfl⟩ rfl (by decide) (gsz hsz (by decide)) lay_190 rfl rfl (Nat.le_of_ble_eq_true rfl) ⟨Nat.le_of_ble_eq_true rfl, Nat.le_of_ble_eq_true rfl⟩ rfl rfl dX12_one_18 rfl (fun v5 M6 P7 => ?_)
    obtain ⟨rfl, rv5, xv5⟩ := P7
    refine g_if_eq (n := 24) (tgt := 28) X dX12_one_21 (by decide) (by omega) rfl (fun c8 => ?_) (fun c8 => ?_)
    · refine g_iconst (n := 29) X dX12_one_28 rfl ?_
      exact hq _ _ _ _ dX12_one_29 ⟨rfl, by omega, (Or.inr ⟨by omega, by rcases xv5 with ⟨q, h⟩ | ⟨q, h⟩; (first | exact Or.inl ⟨by omega, h⟩ | (exfalso; omega)); (first | exact Or.inr ⟨by omega, h⟩ | (exfalso; omega))⟩)⟩
    · refine g_iconst (n := 25) X dX12_one_24 rfl ?_
      refine g_goto (tgt := 29) X dX12_one_25 (by decide) ?_
      exact hq _ _ _ _ dX12_one_29 ⟨rfl, by omega, (Or.inr ⟨by omega, by rcases xv5 with ⟨q, h⟩ | ⟨q, h⟩; (first | exact Or.inl ⟨by omega, h⟩ | (exfalso; omega)); (first | exact Or.inr ⟨by omega, h⟩ | (exfalso; omega))⟩)⟩
  · refine g_bipush (n := 13) X dX12_one_11 (by decide +kernel) rfl ?_
    refine g_goto (tgt := 29) X dX12_one_13 (by decide) ?_
    exact hq _ _ _ _ dX12_one_29 ⟨rfl, by omega, (Or.inl ⟨by omega, by omega⟩)⟩
