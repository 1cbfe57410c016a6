theorem gRsg0 (k : Int) : (gRsg k).1 ≤ 0 ∧ 0 ≤ (gRsg k).2 := by
  have h : ∀ (p : Int × Int), p = gRsg k → p.1 ≤ 0 ∧ 0 ≤ p.2 := by
    intro p hp
    unfold gRsg at hp
    repeat' split at hp
    all_goals (subst hp; exact ⟨by decide, by decide⟩)
  exact h _ rfl
theorem gIo_P {zb : Int} {M : gM} {o : Int} (Z : gZ zb M) (h0 : zb ≤ o) (h : 31 ≤ gnm o ∧ gnm o < 47) : ∀ k : Int, (gRg o k).1 ≤ M o k ∧ M o k ≤ (gRg o k).2 := by
  intro k
  rcases Z o k h0 with q | q
  · have e : gRg o k = gRc6 k := by unfold gRg gRn; rw [if_neg (by omega), if_pos (by omega)]
    rw [e, q]; unfold gRc6
    by_cases h0 : k = 0
    · subst h0; exact ⟨by decide, by decide⟩
    by_cases h1 : k = 1
    · subst h1; exact ⟨by decide, by decide⟩
    by_cases h2 : k = 2
    · subst h2; exact ⟨by decide, by decide⟩
    by_cases h3 : k = 3
    · subst h3; exact ⟨by decide, by decide⟩
    by_cases h4 : k = 4
    · subst h4; exact ⟨by decide, by decide⟩
    by_cases h5 : k = 5
    · subst h5; exact ⟨by decide, by decide⟩
    by_cases h6 : k = 6
    · subst h6; exact ⟨by decide, by decide⟩
    by_cases h7 : k = 7
    · subst h7; exact ⟨by decide, by decide⟩
    by_cases h8 : k = 8
    · subst h8; exact ⟨by decide, by decide⟩
    by_cases h9 : k = 9
    · subst h9; exact ⟨by decide, by decide⟩
    by_cases h10 : k = 10
    · subst h10; exact ⟨by decide, by decide⟩
    by_cases h11 : k = 11
    · subst h11; exact ⟨by decide, by decide⟩
    by_cases h12 : k = 12
    · subst h12; exact ⟨by decide, by decide⟩
    by_cases h13 : k = 13
    · subst h13; exact ⟨by decide, by decide⟩
    by_cases h14 : k = 14
    · subst h14; exact ⟨by decide, by decide⟩
    by_cases h15 : k = 15
    · subst h15; exact ⟨by decide, by decide⟩
    rw [if_neg h0, if_neg h1, if_neg h2, if_neg h3, if_neg h4, if_neg h5, if_neg h6, if_neg h7, if_neg h8, if_neg h9, if_neg h10, if_neg h11, if_neg h12, if_neg h13, if_neg h14, if_neg h15]; exact ⟨by decide, by decide⟩
  · exact q.1
theorem gIo_R {zb : Int} {M : gM} {o : Int} (Z : gZ zb M) (h0 : zb ≤ o) (h : 47 ≤ gnm o ∧ gnm o < 87) : ∀ k : Int, (gRg o k).1 ≤ M o k ∧ M o k ≤ (gRg o k).2 := by
  intro k
  rcases Z o k h0 with q | q
  · have e : gRg o k = gRc8 k := by unfold gRg gRn; rw [if_neg (by omega), if_neg (by omega), if_pos (by omega)]
    rw [e, q]; unfold gRc8
    by_cases h0 : k = 0
    · subst h0; exact ⟨by decide, by decide⟩
    by_cases h1 : k = 1
    · subst h1; exact ⟨by decide, by decide⟩
    by_cases h2 : k = 2
    · subst h2; exact ⟨by decide, by decide⟩
    by_cases h3 : k = 3
    · subst h3; exact ⟨by decide, by decide⟩
    by_cases h4 : k = 4
    · subst h4; exact ⟨by decide, by decide⟩
    by_cases h5 : k = 5
    · subst h5; exact ⟨by decide, by decide⟩
    by_cases h6 : k = 6
    · subst h6; exact ⟨by decide, by decide⟩
    by_cases h7 : k = 7
    · subst h7; exact ⟨by decide, by decide⟩
    by_cases h8 : k = 8
    · subst h8; exact ⟨by decide, by decide⟩
    rw [if_neg h0, if_neg h1, if_neg h2, if_neg h3, if_neg h4, if_neg h5, if_neg h6, if_neg h7, if_neg h8]; exact ⟨by decide, by decide⟩
  · exact q.1
theorem gIo_A {zb : Int} {M : gM} {o : Int} (Z : gZ zb M) (h0 : zb ≤ o) (h : 87 ≤ gnm o ∧ gnm o < 153) (hf : (gnm o - 87) % 6 = 0 → M o 0 = o + 2 ∧ M o 1 = o + 3 ∧ M o 2 = o + 4 ∧ M o 3 = o + 5 ∧ M o 4 = o + 6) : ∀ k : Int, (gRg o k).1 ≤ M o k ∧ M o k ≤ (gRg o k).2 := by
  intro k
  have e : gRg o k = gRA ((gnm o - 87) % 6) (gnm o) (o - gnm o) k := by unfold gRg gRn; rw [if_neg (by omega), if_neg (by omega), if_neg (by omega), if_pos (by omega)]
  by_cases g : (gnm o - 87) % 6 = 0
  · obtain ⟨f0, f1, f2, f3, f4⟩ := hf g
    have e2 : gRg o k = gRc0 (gnm o) (o - gnm o) k := by rw [e]; unfold gRA; rw [if_pos g]
    by_cases hk : 0 ≤ k ∧ k < 5
    · have e3 : gRg o k = (gnm o + k + 2 + (o - gnm o), gnm o + k + 2 + (o - gnm o)) := by rw [e2]; unfold gRc0; rw [if_neg (by omega), if_pos hk.2]
      rw [e3]
      show gnm o + k + 2 + (o - gnm o) ≤ M o k ∧ M o k ≤ gnm o + k + 2 + (o - gnm o)
      rcases (by omega : k = 0 ∨ k = 1 ∨ k = 2 ∨ k = 3 ∨ k = 4) with rfl | rfl | rfl | rfl | rfl <;> omega
    · rcases Z o k h0 with q | q
      · rw [e2, q]; unfold gRc0
        by_cases hn : k < 0
        · rw [if_pos hn]; exact ⟨by decide, by decide⟩
        rw [if_neg hn, if_neg (by omega)]
        by_cases h5 : k = 5
        · rw [if_pos h5]; exact ⟨by decide, by decide⟩
        rw [if_neg h5]
        by_cases h6 : k = 6
        · rw [if_pos h6]; exact ⟨by decide, by decide⟩
        rw [if_neg h6]
        by_cases h7 : k = 7
        · rw [if_pos h7]; exact ⟨by decide, by decide⟩
        rw [if_neg h7]; exact ⟨by decide, by decide⟩
      · exact q.1
  · rcases Z o k h0 with q | q
    · rw [e, q]; unfold gRA; rw [if_neg g]
      by_cases h1 : (gnm o - 87) % 6 = 1
      · rw [if_pos h1]; exact ⟨by decide, by decide⟩
      rw [if_neg h1]
      by_cases h2 : (gnm o - 87) % 6 = 2
      · rw [if_pos h2]; exact ⟨by decide, by decide⟩
      rw [if_neg h2]
      by_cases h3 : (gnm o - 87) % 6 = 3
      · rw [if_pos h3]; exact ⟨by decide, by decide⟩
      rw [if_neg h3]
      by_cases h4 : (gnm o - 87) % 6 = 4
      · rw [if_pos h4]; exact ⟨by decide, by decide⟩
      rw [if_neg h4]; exact ⟨by decide, by decide⟩
    · exact q.1
theorem gIo_0 {M : gM} (Z : gZ 0 M) (f_0_0 : M 0 0 = 2) (f_0_1 : M 0 1 = 154) (f_0_2 : M 0 2 = 160) (f_0_3 : M 0 3 = 162) (f_0_4 : M 0 4 = 163) (f_0_5 : M 0 5 = 171) (f_0_6 : M 0 6 = 172) (f_0_7 : M 0 7 = 173) (f_0_8 : M 0 8 = 174) : ∀ k : Int, (gRg 0 k).1 ≤ M 0 k ∧ M 0 k ≤ (gRg 0 k).2 := by
  intro k
  by_cases h0 : k = 0
  · subst h0; rw [f_0_0]; decide +kernel
  by_cases h1 : k = 1
  · subst h1; rw [f_0_1]; decide +kernel
  by_cases h2 : k = 2
  · subst h2; rw [f_0_2]; decide +kernel
  by_cases h3 : k = 3
  · subst h3; rw [f_0_3]; decide +kernel
  by_cases h4 : k = 4
  · subst h4; rw [f_0_4]; decide +kernel
  by_cases h5 : k = 5
  · subst h5; rw [f_0_5]; decide +kernel
  by_cases h6 : k = 6
  · subst h6; rw [f_0_6]; decide +kernel
  by_cases h7 : k = 7
  · subst h7; rw [f_0_7]; decide +kernel
  by_cases h8 : k = 8
  · subst h8; rw [f_0_8]; decide +kernel
  rcases Z 0 k (by decide) with h | h
  · rw [h]
    by_cases h9 : k = 9
    · subst h9; decide +kernel
    have e : gRg 0 k = (-2147483648, 2147483647) := by
      show gRs0 0 k = _
      unfold gRs0
      rw [if_neg h0, if_neg h1, if_neg h2, if_neg h3, if_neg h4, if_neg h5, if_neg h6, if_neg h7, if_neg h8, if_neg h9]
    rw [e]; exact ⟨by decide, by decide⟩
  · exact h.1
theorem gIo_1 {M : gM} (Z : gZ 0 M) (f_1_0 : M 1 0 = 3) (f_1_1 : M 1 1 = 6) (f_1_2 : M 1 2 = 7) (f_1_3 : M 1 3 = 8) (f_1_4 : M 1 4 = 9) (f_1_5 : M 1 5 = 10) (f_1_6 : M 1 6 = 16) (f_1_7 : M 1 7 = 24) (f_1_8 : M 1 8 = 27) (f_1_9 : M 1 9 = 31) : ∀ k : Int, (gRg 1 k).1 ≤ M 1 k ∧ M 1 k ≤ (gRg 1 k).2 := by
  intro k
  by_cases h0 : k = 0
  · subst h0; rw [f_1_0]; decide +kernel
  by_cases h1 : k = 1
  · subst h1; rw [f_1_1]; decide +kernel
  by_cases h2 : k = 2
  · subst h2; rw [f_1_2]; decide +kernel
  by_cases h3 : k = 3
  · subst h3; rw [f_1_3]; decide +kernel
  by_cases h4 : k = 4
  · subst h4; rw [f_1_4]; decide +kernel
  by_cases h5 : k = 5
  · subst h5; rw [f_1_5]; decide +kernel
  by_cases h6 : k = 6
  · subst h6; rw [f_1_6]; decide +kernel
  by_cases h7 : k = 7
  · subst h7; rw [f_1_7]; decide +kernel
  by_cases h8 : k = 8
  · subst h8; rw [f_1_8]; decide +kernel
  by_cases h9 : k = 9
  · subst h9; rw [f_1_9]; decide +kernel
  rcases Z 1 k (by decide) with h | h
  · rw [h]
    by_cases h10 : k = 10
    · subst h10; decide +kernel
    by_cases h11 : k = 11
    · subst h11; decide +kernel
    by_cases h12 : k = 12
    · subst h12; decide +kernel
    by_cases h13 : k = 13
    · subst h13; decide +kernel
    by_cases h14 : k = 14
    · subst h14; decide +kernel
    by_cases h15 : k = 15
    · subst h15; decide +kernel
    have e : gRg 1 k = (-2147483648, 2147483647) := by
      show gRs1 0 k = _
      unfold gRs1
      rw [if_neg h0, if_neg h1, if_neg h2, if_neg h3, if_neg h4, if_neg h5, if_neg h6, if_neg h7, if_neg h8, if_neg h9, if_neg h10, if_neg h11, if_neg h12, if_neg h13, if_neg h14, if_neg h15]
    rw [e]; exact ⟨by decide, by decide⟩
  · exact h.1
theorem gIo_2 {M : gM} (Z : gZ 0 M) (f_2_0 : M 2 0 = 4) (f_2_1 : M 2 1 = 5) : ∀ k : Int, (gRg 2 k).1 ≤ M 2 k ∧ M 2 k ≤ (gRg 2 k).2 := by
  intro k
  by_cases h0 : k = 0
  · subst h0; rw [f_2_0]; decide +kernel
  by_cases h1 : k = 1
  · subst h1; rw [f_2_1]; decide +kernel
  rcases Z 2 k (by decide) with h | h
  · rw [h]
    have e : gRg 2 k = (-2147483648, 2147483647) := by
      show gRs2 0 k = _
      unfold gRs2
      rw [if_neg h0, if_neg h1]
    rw [e]; exact ⟨by decide, by decide⟩
  · exact h.1
theorem gIo_3 {M : gM} (Z : gZ 0 M) : ∀ k : Int, (gRg 3 k).1 ≤ M 3 k ∧ M 3 k ≤ (gRg 3 k).2 := by
  intro k
  rcases Z 3 k (by decide) with h | h
  · rw [show gRg 3 k = (0, 9999) from rfl, h]; exact ⟨by decide, by decide⟩
  · exact h.1
theorem gIo_4 {M : gM} (Z : gZ 0 M) : ∀ k : Int, (gRg 4 k).1 ≤ M 4 k ∧ M 4 k ≤ (gRg 4 k).2 := by
  intro k
  rcases Z 4 k (by decide) with h | h
  · rw [show gRg 4 k = (0, 99) from rfl, h]; exact ⟨by decide, by decide⟩
  · exact h.1
theorem gIo_5 {M : gM} (Z : gZ 0 M) (a_5 : ∀ i : Int, 0 ≤ i → i < 16 → M 5 i = 31 + 1 * i + 1) : ∀ k : Int, (gRg 5 k).1 ≤ M 5 k ∧ M 5 k ≤ (gRg 5 k).2 := by
  intro k
  by_cases hk : 0 ≤ k ∧ k < 16
  · rw [(gRA_5 hk.1 hk.2).1, a_5 k hk.1 hk.2]; exact ⟨by show (32 + k + 0 : Int) ≤ _; omega, by show _ ≤ (32 + k + 0 : Int); omega⟩
  · have e : gRg 5 k = (0, 0) := by
      show (if k < 0 then ((0, 0) : Int × Int) else if k < 16 then _ else _) = _
      by_cases q : k < 0
      · rw [if_pos q]
      · rw [if_neg q, if_neg (by omega)]
    rcases Z 5 k (by decide) with h | h
    · rw [e, h]; exact ⟨by decide, by decide⟩
    · exact h.1
theorem gIo_6 {M : gM} (Z : gZ 0 M) (a_6 : ∀ i : Int, 0 ≤ i → i < 40 → M 6 i = 47 + 1 * i + 1) : ∀ k : Int, (gRg 6 k).1 ≤ M 6 k ∧ M 6 k ≤ (gRg 6 k).2 := by
  intro k
  by_cases hk : 0 ≤ k ∧ k < 40
  · rw [(gRA_6 hk.1 hk.2).1, a_6 k hk.1 hk.2]; exact ⟨by show (48 + k + 0 : Int) ≤ _; omega, by show _ ≤ (48 + k + 0 : Int); omega⟩
  · have e : gRg 6 k = (0, 0) := by
      show (if k < 0 then ((0, 0) : Int × Int) else if k < 40 then _ else _) = _
      by_cases q : k < 0
      · rw [if_pos q]
      · rw [if_neg q, if_neg (by omega)]
    rcases Z 6 k (by decide) with h | h
    · rw [e, h]; exact ⟨by decide, by decide⟩
    · exact h.1
theorem gIo_7 {M : gM} (Z : gZ 0 M) (a_7 : ∀ i : Int, 0 ≤ i → i < 11 → M 7 i = 87 + 6 * i + 1) : ∀ k : Int, (gRg 7 k).1 ≤ M 7 k ∧ M 7 k ≤ (gRg 7 k).2 := by
  intro k
  by_cases hk : 0 ≤ k ∧ k < 11
  · rw [(gRA_7 hk.1 hk.2).1, a_7 k hk.1 hk.2]; exact ⟨by show (88 + 6 * k + 0 : Int) ≤ _; omega, by show _ ≤ (88 + 6 * k + 0 : Int); omega⟩
  · have e : gRg 7 k = (0, 0) := by
      show (if k < 0 then ((0, 0) : Int × Int) else if k < 11 then _ else _) = _
      by_cases q : k < 0
      · rw [if_pos q]
      · rw [if_neg q, if_neg (by omega)]
    rcases Z 7 k (by decide) with h | h
    · rw [e, h]; exact ⟨by decide, by decide⟩
    · exact h.1
theorem gIo_8 {M : gM} (Z : gZ 0 M) : ∀ k : Int, (gRg 8 k).1 ≤ M 8 k ∧ M 8 k ≤ (gRg 8 k).2 := by
  intro k
  rcases Z 8 k (by decide) with h | h
  · rw [show gRg 8 k = (-128, 127) from rfl, h]; exact ⟨by decide, by decide⟩
  · exact h.1
theorem gIo_9 {M : gM} (Z : gZ 0 M) (f_9_0 : M 9 0 = 11) (f_9_1 : M 9 1 = 12) (f_9_2 : M 9 2 = 13) (f_9_3 : M 9 3 = 14) (f_9_4 : M 9 4 = 15) : ∀ k : Int, (gRg 9 k).1 ≤ M 9 k ∧ M 9 k ≤ (gRg 9 k).2 := by
  intro k
  by_cases h0 : k = 0
  · subst h0; rw [f_9_0]; decide +kernel
  by_cases h1 : k = 1
  · subst h1; rw [f_9_1]; decide +kernel
  by_cases h2 : k = 2
  · subst h2; rw [f_9_2]; decide +kernel
  by_cases h3 : k = 3
  · subst h3; rw [f_9_3]; decide +kernel
  by_cases h4 : k = 4
  · subst h4; rw [f_9_4]; decide +kernel
  rcases Z 9 k (by decide) with h | h
  · rw [h]
    by_cases h5 : k = 5
    · subst h5; decide +kernel
    have e : gRg 9 k = (-2147483648, 2147483647) := by
      show gRs9 0 k = _
      unfold gRs9
      rw [if_neg h0, if_neg h1, if_neg h2, if_neg h3, if_neg h4, if_neg h5]
    rw [e]; exact ⟨by decide, by decide⟩
  · exact h.1
theorem gIo_10 {M : gM} (Z : gZ 0 M) : ∀ k : Int, (gRg 10 k).1 ≤ M 10 k ∧ M 10 k ≤ (gRg 10 k).2 := by
  intro k
  rcases Z 10 k (by decide) with h | h
  · rw [show gRg 10 k = (0, 15) from rfl, h]; exact ⟨by decide, by decide⟩
  · exact h.1
theorem gIo_11 {M : gM} (Z : gZ 0 M) : ∀ k : Int, (gRg 11 k).1 ≤ M 11 k ∧ M 11 k ≤ (gRg 11 k).2 := by
  intro k
  rcases Z 11 k (by decide) with h | h
  · rw [show gRg 11 k = (0, 5) from rfl, h]; exact ⟨by decide, by decide⟩
  · exact h.1
theorem gIo_12 {M : gM} (Z : gZ 0 M) : ∀ k : Int, (gRg 12 k).1 ≤ M 12 k ∧ M 12 k ≤ (gRg 12 k).2 := by
  intro k
  rcases Z 12 k (by decide) with h | h
  · rw [show gRg 12 k = (0, 5) from rfl, h]; exact ⟨by decide, by decide⟩
  · exact h.1
theorem gIo_13 {M : gM} (Z : gZ 0 M) : ∀ k : Int, (gRg 13 k).1 ≤ M 13 k ∧ M 13 k ≤ (gRg 13 k).2 := by
  intro k
  rcases Z 13 k (by decide) with h | h
  · rw [show gRg 13 k = (0, 300) from rfl, h]; exact ⟨by decide, by decide⟩
  · exact h.1
theorem gIo_14 {M : gM} (Z : gZ 0 M) : ∀ k : Int, (gRg 14 k).1 ≤ M 14 k ∧ M 14 k ≤ (gRg 14 k).2 := by
  intro k
  rcases Z 14 k (by decide) with h | h
  · rw [show gRg 14 k = (0, 1) from rfl, h]; exact ⟨by decide, by decide⟩
  · exact h.1
theorem gIo_15 {M : gM} (Z : gZ 0 M) (f_15_0 : M 15 0 = 17) (f_15_1 : M 15 1 = 18) (f_15_2 : M 15 2 = 19) (f_15_3 : M 15 3 = 20) (f_15_4 : M 15 4 = 21) (f_15_5 : M 15 5 = 22) (f_15_6 : M 15 6 = 23) : ∀ k : Int, (gRg 15 k).1 ≤ M 15 k ∧ M 15 k ≤ (gRg 15 k).2 := by
  intro k
  by_cases h0 : k = 0
  · subst h0; rw [f_15_0]; decide +kernel
  by_cases h1 : k = 1
  · subst h1; rw [f_15_1]; decide +kernel
  by_cases h2 : k = 2
  · subst h2; rw [f_15_2]; decide +kernel
  by_cases h3 : k = 3
  · subst h3; rw [f_15_3]; decide +kernel
  by_cases h4 : k = 4
  · subst h4; rw [f_15_4]; decide +kernel
  by_cases h5 : k = 5
  · subst h5; rw [f_15_5]; decide +kernel
  by_cases h6 : k = 6
  · subst h6; rw [f_15_6]; decide +kernel
  rcases Z 15 k (by decide) with h | h
  · rw [h]
    by_cases h7 : k = 7
    · subst h7; decide +kernel
    by_cases h8 : k = 8
    · subst h8; decide +kernel
    by_cases h9 : k = 9
    · subst h9; decide +kernel
    have e : gRg 15 k = (-2147483648, 2147483647) := by
      show gRs15 0 k = _
      unfold gRs15
      rw [if_neg h0, if_neg h1, if_neg h2, if_neg h3, if_neg h4, if_neg h5, if_neg h6, if_neg h7, if_neg h8, if_neg h9]
    rw [e]; exact ⟨by decide, by decide⟩
  · exact h.1
theorem gIo_16 {M : gM} (Z : gZ 0 M) : ∀ k : Int, (gRg 16 k).1 ≤ M 16 k ∧ M 16 k ≤ (gRg 16 k).2 := by
  intro k
  rcases Z 16 k (by decide) with h | h
  · rw [show gRg 16 k = (-2147483648, 2147483647) from rfl, h]; exact ⟨by decide, by decide⟩
  · exact h.1
theorem gIo_17 {M : gM} (Z : gZ 0 M) : ∀ k : Int, (gRg 17 k).1 ≤ M 17 k ∧ M 17 k ≤ (gRg 17 k).2 := by
  intro k
  rcases Z 17 k (by decide) with h | h
  · rw [show gRg 17 k = (-2147483648, 2147483647) from rfl, h]; exact ⟨by decide, by decide⟩
  · exact h.1
theorem gIo_18 {M : gM} (Z : gZ 0 M) : ∀ k : Int, (gRg 18 k).1 ≤ M 18 k ∧ M 18 k ≤ (gRg 18 k).2 := by
  intro k
  rcases Z 18 k (by decide) with h | h
  · rw [show gRg 18 k = (0, 10) from rfl, h]; exact ⟨by decide, by decide⟩
  · exact h.1
theorem gIo_19 {M : gM} (Z : gZ 0 M) : ∀ k : Int, (gRg 19 k).1 ≤ M 19 k ∧ M 19 k ≤ (gRg 19 k).2 := by
  intro k
  rcases Z 19 k (by decide) with h | h
  · rw [show gRg 19 k = (-2147483648, 2147483647) from rfl, h]; exact ⟨by decide, by decide⟩
  · exact h.1
theorem gIo_20 {M : gM} (Z : gZ 0 M) : ∀ k : Int, (gRg 20 k).1 ≤ M 20 k ∧ M 20 k ≤ (gRg 20 k).2 := by
  intro k
  rcases Z 20 k (by decide) with h | h
  · rw [show gRg 20 k = (0, 4) from rfl, h]; exact ⟨by decide, by decide⟩
  · exact h.1
theorem gIo_21 {M : gM} (Z : gZ 0 M) : ∀ k : Int, (gRg 21 k).1 ≤ M 21 k ∧ M 21 k ≤ (gRg 21 k).2 := by
  intro k
  rcases Z 21 k (by decide) with h | h
  · rw [show gRg 21 k = (-2147483648, 2147483647) from rfl, h]; exact ⟨by decide, by decide⟩
  · exact h.1
theorem gIo_22 {M : gM} (Z : gZ 0 M) : ∀ k : Int, (gRg 22 k).1 ≤ M 22 k ∧ M 22 k ≤ (gRg 22 k).2 := by
  intro k
  rcases Z 22 k (by decide) with h | h
  · rw [show gRg 22 k = (-2147483648, 2147483647) from rfl, h]; exact ⟨by decide, by decide⟩
  · exact h.1
theorem gIo_23 {M : gM} (Z : gZ 0 M) (f_23_0 : M 23 0 = 25) (f_23_1 : M 23 1 = 26) : ∀ k : Int, (gRg 23 k).1 ≤ M 23 k ∧ M 23 k ≤ (gRg 23 k).2 := by
  intro k
  by_cases h0 : k = 0
  · subst h0; rw [f_23_0]; decide +kernel
  by_cases h1 : k = 1
  · subst h1; rw [f_23_1]; decide +kernel
  rcases Z 23 k (by decide) with h | h
  · rw [h]
    have e : gRg 23 k = (-2147483648, 2147483647) := by
      show gRs23 0 k = _
      unfold gRs23
      rw [if_neg h0, if_neg h1]
    rw [e]; exact ⟨by decide, by decide⟩
  · exact h.1
theorem gIo_24 {M : gM} (Z : gZ 0 M) : ∀ k : Int, (gRg 24 k).1 ≤ M 24 k ∧ M 24 k ≤ (gRg 24 k).2 := by
  intro k
  rcases Z 24 k (by decide) with h | h
  · rw [show gRg 24 k = (-2147483648, 2147483647) from rfl, h]; exact ⟨by decide, by decide⟩
  · exact h.1
theorem gIo_25 {M : gM} (Z : gZ 0 M) : ∀ k : Int, (gRg 25 k).1 ≤ M 25 k ∧ M 25 k ≤ (gRg 25 k).2 := by
  intro k
  rcases Z 25 k (by decide) with h | h
  · rw [show gRg 25 k = (-9223372036854775808, 9223372036854775807) from rfl, h]; exact ⟨by decide, by decide⟩
  · exact h.1
theorem gIo_26 {M : gM} (Z : gZ 0 M) (f_26_0 : M 26 0 = 28) (f_26_1 : M 26 1 = 29) (f_26_2 : M 26 2 = 30) : ∀ k : Int, (gRg 26 k).1 ≤ M 26 k ∧ M 26 k ≤ (gRg 26 k).2 := by
  intro k
  by_cases h0 : k = 0
  · subst h0; rw [f_26_0]; decide +kernel
  by_cases h1 : k = 1
  · subst h1; rw [f_26_1]; decide +kernel
  by_cases h2 : k = 2
  · subst h2; rw [f_26_2]; decide +kernel
  rcases Z 26 k (by decide) with h | h
  · rw [h]
    by_cases h3 : k = 3
    · subst h3; decide +kernel
    have e : gRg 26 k = (-2147483648, 2147483647) := by
      show gRs26 0 k = _
      unfold gRs26
      rw [if_neg h0, if_neg h1, if_neg h2, if_neg h3]
    rw [e]; exact ⟨by decide, by decide⟩
  · exact h.1
theorem gIo_27 {M : gM} (Z : gZ 0 M) : ∀ k : Int, (gRg 27 k).1 ≤ M 27 k ∧ M 27 k ≤ (gRg 27 k).2 := by
  intro k
  rcases Z 27 k (by decide) with h | h
  · rw [show gRg 27 k = (0, 7) from rfl, h]; exact ⟨by decide, by decide⟩
  · exact h.1
theorem gIo_28 {M : gM} (Z : gZ 0 M) : ∀ k : Int, (gRg 28 k).1 ≤ M 28 k ∧ M 28 k ≤ (gRg 28 k).2 := by
  intro k
  rcases Z 28 k (by decide) with h | h
  · rw [show gRg 28 k = (0, 5) from rfl, h]; exact ⟨by decide, by decide⟩
  · exact h.1
theorem gIo_29 {M : gM} (Z : gZ 0 M) : ∀ k : Int, (gRg 29 k).1 ≤ M 29 k ∧ M 29 k ≤ (gRg 29 k).2 := by
  intro k
  rcases Z 29 k (by decide) with h | h
  · rw [show gRg 29 k = (0, 300) from rfl, h]; exact ⟨by decide, by decide⟩
  · exact h.1
theorem gIo_30 {M : gM} (Z : gZ 0 M) : ∀ k : Int, (gRg 30 k).1 ≤ M 30 k ∧ M 30 k ≤ (gRg 30 k).2 := by
  intro k
  rcases Z 30 k (by decide) with h | h
  · rw [show gRg 30 k = (-2147483648, 2147483647) from rfl, h]; exact ⟨by decide, by decide⟩
  · exact h.1
theorem gIo_153 {M : gM} (Z : gZ 0 M) (f_153_0 : M 153 0 = 155) (f_153_1 : M 153 1 = 156) (f_153_2 : M 153 2 = 157) (f_153_3 : M 153 3 = 158) (f_153_4 : M 153 4 = 159) : ∀ k : Int, (gRg 153 k).1 ≤ M 153 k ∧ M 153 k ≤ (gRg 153 k).2 := by
  intro k
  by_cases h0 : k = 0
  · subst h0; rw [f_153_0]; decide +kernel
  by_cases h1 : k = 1
  · subst h1; rw [f_153_1]; decide +kernel
  by_cases h2 : k = 2
  · subst h2; rw [f_153_2]; decide +kernel
  by_cases h3 : k = 3
  · subst h3; rw [f_153_3]; decide +kernel
  by_cases h4 : k = 4
  · subst h4; rw [f_153_4]; decide +kernel
  rcases Z 153 k (by decide) with h | h
  · rw [h]
    by_cases h5 : k = 5
    · subst h5; decide +kernel
    by_cases h6 : k = 6
    · subst h6; decide +kernel
    by_cases h7 : k = 7
    · subst h7; decide +kernel
    have e : gRg 153 k = (-2147483648, 2147483647) := by
      show gRs153 0 k = _
      unfold gRs153
      rw [if_neg h0, if_neg h1, if_neg h2, if_neg h3, if_neg h4, if_neg h5, if_neg h6, if_neg h7]
    rw [e]; exact ⟨by decide, by decide⟩
  · exact h.1
theorem gIo_154 {M : gM} (Z : gZ 0 M) : ∀ k : Int, (gRg 154 k).1 ≤ M 154 k ∧ M 154 k ≤ (gRg 154 k).2 := by
  intro k
  rcases Z 154 k (by decide) with h | h
  · rw [show gRg 154 k = (-2147483648, 2147483647) from rfl, h]; exact ⟨by decide, by decide⟩
  · exact h.1
theorem gIo_155 {M : gM} (Z : gZ 0 M) : ∀ k : Int, (gRg 155 k).1 ≤ M 155 k ∧ M 155 k ≤ (gRg 155 k).2 := by
  intro k
  rcases Z 155 k (by decide) with h | h
  · rw [show gRg 155 k = (0, 1) from rfl, h]; exact ⟨by decide, by decide⟩
  · exact h.1
theorem gIo_156 {M : gM} (Z : gZ 0 M) : ∀ k : Int, (gRg 156 k).1 ≤ M 156 k ∧ M 156 k ≤ (gRg 156 k).2 := by
  intro k
  rcases Z 156 k (by decide) with h | h
  · rw [show gRg 156 k = (0, 39) from rfl, h]; exact ⟨by decide, by decide⟩
  · exact h.1
theorem gIo_157 {M : gM} (Z : gZ 0 M) : ∀ k : Int, (gRg 157 k).1 ≤ M 157 k ∧ M 157 k ≤ (gRg 157 k).2 := by
  intro k
  rcases Z 157 k (by decide) with h | h
  · rw [show gRg 157 k = (-2147483648, 2147483647) from rfl, h]; exact ⟨by decide, by decide⟩
  · exact h.1
theorem gIo_158 {M : gM} (Z : gZ 0 M) : ∀ k : Int, (gRg 158 k).1 ≤ M 158 k ∧ M 158 k ≤ (gRg 158 k).2 := by
  intro k
  rcases Z 158 k (by decide) with h | h
  · rw [show gRg 158 k = (-2147483648, 2147483647) from rfl, h]; exact ⟨by decide, by decide⟩
  · exact h.1
theorem gIo_159 {M : gM} (Z : gZ 0 M)  : ∀ k : Int, (gRg 159 k).1 ≤ M 159 k ∧ M 159 k ≤ (gRg 159 k).2 := by
  intro k
  rcases Z 159 k (by decide) with h | h
  · rw [h]
    by_cases h0 : k = 0
    · subst h0; decide +kernel
    by_cases h1 : k = 1
    · subst h1; decide +kernel
    by_cases h2 : k = 2
    · subst h2; decide +kernel
    by_cases h3 : k = 3
    · subst h3; decide +kernel
    by_cases h4 : k = 4
    · subst h4; decide +kernel
    have e : gRg 159 k = (-2147483648, 2147483647) := by
      show gRs159 0 k = _
      unfold gRs159
      rw [if_neg h0, if_neg h1, if_neg h2, if_neg h3, if_neg h4]
    rw [e]; exact ⟨by decide, by decide⟩
  · exact h.1
theorem gIo_160 {M : gM} (Z : gZ 0 M) : ∀ k : Int, (gRg 160 k).1 ≤ M 160 k ∧ M 160 k ≤ (gRg 160 k).2 := by
  intro k
  rcases Z 160 k (by decide) with h | h
  · rw [show gRg 160 k = (-128, 127) from rfl, h]; exact ⟨by decide, by decide⟩
  · exact h.1
theorem gIo_161 {M : gM} (Z : gZ 0 M) (a_161 : ∀ i : Int, 0 ≤ i → i < 16 → M 161 i = 174 + 1 * i + 1) : ∀ k : Int, (gRg 161 k).1 ≤ M 161 k ∧ M 161 k ≤ (gRg 161 k).2 := by
  intro k
  by_cases hk : 0 ≤ k ∧ k < 16
  · rw [(gRA_161 hk.1 hk.2).1, a_161 k hk.1 hk.2]; exact ⟨by show (175 + k : Int) ≤ _; omega, by show _ ≤ (175 + k : Int); omega⟩
  · have e : gRg 161 k = (0, 0) := by
      show (if k < 0 then ((0, 0) : Int × Int) else if k < 16 then _ else _) = _
      by_cases q : k < 0
      · rw [if_pos q]
      · rw [if_neg q, if_neg (by omega)]
    rcases Z 161 k (by decide) with h | h
    · rw [e, h]; exact ⟨by decide, by decide⟩
    · exact h.1
theorem gIo_162 {M : gM} (Z : gZ 0 M) (f_162_0 : M 162 0 = 164) (f_162_1 : M 162 1 = 165) (f_162_2 : M 162 2 = 166) (f_162_3 : M 162 3 = 167) (f_162_4 : M 162 4 = 168) (f_162_5 : M 162 5 = 169) (f_162_6 : M 162 6 = 170) : ∀ k : Int, (gRg 162 k).1 ≤ M 162 k ∧ M 162 k ≤ (gRg 162 k).2 := by
  intro k
  by_cases h0 : k = 0
  · subst h0; rw [f_162_0]; decide +kernel
  by_cases h1 : k = 1
  · subst h1; rw [f_162_1]; decide +kernel
  by_cases h2 : k = 2
  · subst h2; rw [f_162_2]; decide +kernel
  by_cases h3 : k = 3
  · subst h3; rw [f_162_3]; decide +kernel
  by_cases h4 : k = 4
  · subst h4; rw [f_162_4]; decide +kernel
  by_cases h5 : k = 5
  · subst h5; rw [f_162_5]; decide +kernel
  by_cases h6 : k = 6
  · subst h6; rw [f_162_6]; decide +kernel
  rcases Z 162 k (by decide) with h | h
  · rw [h]
    by_cases h7 : k = 7
    · subst h7; decide +kernel
    by_cases h8 : k = 8
    · subst h8; decide +kernel
    by_cases h9 : k = 9
    · subst h9; decide +kernel
    have e : gRg 162 k = (-2147483648, 2147483647) := by
      show gRs15 147 k = _
      unfold gRs15
      rw [if_neg h0, if_neg h1, if_neg h2, if_neg h3, if_neg h4, if_neg h5, if_neg h6, if_neg h7, if_neg h8, if_neg h9]
    rw [e]; exact ⟨by decide, by decide⟩
  · exact h.1
theorem gIo_163 {M : gM} (Z : gZ 0 M) : ∀ k : Int, (gRg 163 k).1 ≤ M 163 k ∧ M 163 k ≤ (gRg 163 k).2 := by
  intro k
  rcases Z 163 k (by decide) with h | h
  · rw [show gRg 163 k = (-2147483648, 2147483647) from rfl, h]; exact ⟨by decide, by decide⟩
  · exact h.1
theorem gIo_164 {M : gM} (Z : gZ 0 M) : ∀ k : Int, (gRg 164 k).1 ≤ M 164 k ∧ M 164 k ≤ (gRg 164 k).2 := by
  intro k
  rcases Z 164 k (by decide) with h | h
  · rw [show gRg 164 k = (-2147483648, 2147483647) from rfl, h]; exact ⟨by decide, by decide⟩
  · exact h.1
theorem gIo_165 {M : gM} (Z : gZ 0 M) : ∀ k : Int, (gRg 165 k).1 ≤ M 165 k ∧ M 165 k ≤ (gRg 165 k).2 := by
  intro k
  rcases Z 165 k (by decide) with h | h
  · rw [show gRg 165 k = (0, 10) from rfl, h]; exact ⟨by decide, by decide⟩
  · exact h.1
theorem gIo_166 {M : gM} (Z : gZ 0 M) : ∀ k : Int, (gRg 166 k).1 ≤ M 166 k ∧ M 166 k ≤ (gRg 166 k).2 := by
  intro k
  rcases Z 166 k (by decide) with h | h
  · rw [show gRg 166 k = (-2147483648, 2147483647) from rfl, h]; exact ⟨by decide, by decide⟩
  · exact h.1
theorem gIo_167 {M : gM} (Z : gZ 0 M) : ∀ k : Int, (gRg 167 k).1 ≤ M 167 k ∧ M 167 k ≤ (gRg 167 k).2 := by
  intro k
  rcases Z 167 k (by decide) with h | h
  · rw [show gRg 167 k = (0, 4) from rfl, h]; exact ⟨by decide, by decide⟩
  · exact h.1
theorem gIo_168 {M : gM} (Z : gZ 0 M) : ∀ k : Int, (gRg 168 k).1 ≤ M 168 k ∧ M 168 k ≤ (gRg 168 k).2 := by
  intro k
  rcases Z 168 k (by decide) with h | h
  · rw [show gRg 168 k = (-2147483648, 2147483647) from rfl, h]; exact ⟨by decide, by decide⟩
  · exact h.1
theorem gIo_169 {M : gM} (Z : gZ 0 M) : ∀ k : Int, (gRg 169 k).1 ≤ M 169 k ∧ M 169 k ≤ (gRg 169 k).2 := by
  intro k
  rcases Z 169 k (by decide) with h | h
  · rw [show gRg 169 k = (-2147483648, 2147483647) from rfl, h]; exact ⟨by decide, by decide⟩
  · exact h.1
theorem gIo_170 {M : gM} (Z : gZ 0 M) : ∀ k : Int, (gRg 170 k).1 ≤ M 170 k ∧ M 170 k ≤ (gRg 170 k).2 := by
  intro k
  rcases Z 170 k (by decide) with h | h
  · rw [show gRg 170 k = (-9223372036854775808, 9223372036854775807) from rfl, h]; exact ⟨by decide, by decide⟩
  · exact h.1
theorem gIo_171 {M : gM} (Z : gZ 0 M) : ∀ k : Int, (gRg 171 k).1 ≤ M 171 k ∧ M 171 k ≤ (gRg 171 k).2 := by
  intro k
  rcases Z 171 k (by decide) with h | h
  · rw [show gRg 171 k = (-9223372036854775808, 9223372036854775807) from rfl, h]; exact ⟨by decide, by decide⟩
  · exact h.1
theorem gIo_172 {M : gM} (Z : gZ 0 M) : ∀ k : Int, (gRg 172 k).1 ≤ M 172 k ∧ M 172 k ≤ (gRg 172 k).2 := by
  intro k
  rcases Z 172 k (by decide) with h | h
  · rw [show gRg 172 k = (-2147483648, 2147483647) from rfl, h]; exact ⟨by decide, by decide⟩
  · exact h.1
theorem gIo_173 {M : gM} (Z : gZ 0 M) : ∀ k : Int, (gRg 173 k).1 ≤ M 173 k ∧ M 173 k ≤ (gRg 173 k).2 := by
  intro k
  rcases Z 173 k (by decide) with h | h
  · rw [show gRg 173 k = (-9223372036854775808, 9223372036854775807) from rfl, h]; exact ⟨by decide, by decide⟩
  · exact h.1
theorem gIo_190 {M : gM} (Z : gZ 0 M) (f_190_1 : M 190 1 = 192) (f_190_2 : M 190 2 = 193) (f_190_3 : M 190 3 = 194) (f_190_5 : M 190 5 = 195) (f_190_6 : M 190 6 = 196) (f_190_7 : M 190 7 = 197) (f_190_9 : M 190 9 = 198) (f_190_10 : M 190 10 = 199) (f_190_16 : M 190 16 = 200) (f_190_17 : M 190 17 = 201) (f_190_18 : M 190 18 = 202) (f_190_20 : M 190 20 = 203) (f_190_21 : M 190 21 = 204) (f_190_22 : M 190 22 = 205) (f_190_23 : M 190 23 = 206) : ∀ k : Int, (gRg 190 k).1 ≤ M 190 k ∧ M 190 k ≤ (gRg 190 k).2 := by
  intro k
  by_cases h1 : k = 1
  · subst h1; rw [f_190_1]; decide +kernel
  by_cases h2 : k = 2
  · subst h2; rw [f_190_2]; decide +kernel
  by_cases h3 : k = 3
  · subst h3; rw [f_190_3]; decide +kernel
  by_cases h5 : k = 5
  · subst h5; rw [f_190_5]; decide +kernel
  by_cases h6 : k = 6
  · subst h6; rw [f_190_6]; decide +kernel
  by_cases h7 : k = 7
  · subst h7; rw [f_190_7]; decide +kernel
  by_cases h9 : k = 9
  · subst h9; rw [f_190_9]; decide +kernel
  by_cases h10 : k = 10
  · subst h10; rw [f_190_10]; decide +kernel
  by_cases h16 : k = 16
  · subst h16; rw [f_190_16]; decide +kernel
  by_cases h17 : k = 17
  · subst h17; rw [f_190_17]; decide +kernel
  by_cases h18 : k = 18
  · subst h18; rw [f_190_18]; decide +kernel
  by_cases h20 : k = 20
  · subst h20; rw [f_190_20]; decide +kernel
  by_cases h21 : k = 21
  · subst h21; rw [f_190_21]; decide +kernel
  by_cases h22 : k = 22
  · subst h22; rw [f_190_22]; decide +kernel
  by_cases h23 : k = 23
  · subst h23; rw [f_190_23]; decide +kernel
  rcases Z 190 k (by decide) with h | h
  · rw [h]
    by_cases h0 : k = 0
    · subst h0; decide +kernel
    by_cases h4 : k = 4
    · subst h4; decide +kernel
    by_cases h8 : k = 8
    · subst h8; decide +kernel
    by_cases h11 : k = 11
    · subst h11; decide +kernel
    by_cases h12 : k = 12
    · subst h12; decide +kernel
    by_cases h13 : k = 13
    · subst h13; decide +kernel
    by_cases h14 : k = 14
    · subst h14; decide +kernel
    by_cases h15 : k = 15
    · subst h15; decide +kernel
    by_cases h19 : k = 19
    · subst h19; decide +kernel
    have e : gRg 190 k = (-2147483648, 2147483647) := by
      show gRs190 0 k = _
      unfold gRs190
      rw [if_neg h0, if_neg h1, if_neg h2, if_neg h3, if_neg h4, if_neg h5, if_neg h6, if_neg h7, if_neg h8, if_neg h9, if_neg h10, if_neg h11, if_neg h12, if_neg h13, if_neg h14, if_neg h15, if_neg h16, if_neg h17, if_neg h18, if_neg h19, if_neg h20, if_neg h21, if_neg h22, if_neg h23]
    rw [e]; exact ⟨by decide, by decide⟩
  · exact h.1
theorem gIo_191 {M : gM} (Z : gZ 0 M) : ∀ k : Int, (gRg 191 k).1 ≤ M 191 k ∧ M 191 k ≤ (gRg 191 k).2 := by
  intro k
  rcases Z 191 k (by decide) with h | h
  · rw [h]; exact gRsg0 k
  · exact h.1
theorem gIo_192 {M : gM} (Z : gZ 0 M) : ∀ k : Int, (gRg 192 k).1 ≤ M 192 k ∧ M 192 k ≤ (gRg 192 k).2 := by
  intro k
  rcases Z 192 k (by decide) with h | h
  · rw [h]; exact gRsg0 k
  · exact h.1
theorem gIo_193 {M : gM} (Z : gZ 0 M) : ∀ k : Int, (gRg 193 k).1 ≤ M 193 k ∧ M 193 k ≤ (gRg 193 k).2 := by
  intro k
  rcases Z 193 k (by decide) with h | h
  · rw [h]; exact gRsg0 k
  · exact h.1
theorem gIo_194 {M : gM} (Z : gZ 0 M) : ∀ k : Int, (gRg 194 k).1 ≤ M 194 k ∧ M 194 k ≤ (gRg 194 k).2 := by
  intro k
  rcases Z 194 k (by decide) with h | h
  · rw [show gRg 194 k = (0, 99) from rfl, h]; exact ⟨by decide, by decide⟩
  · exact h.1
theorem gIo_195 {M : gM} (Z : gZ 0 M) : ∀ k : Int, (gRg 195 k).1 ≤ M 195 k ∧ M 195 k ≤ (gRg 195 k).2 := by
  intro k
  rcases Z 195 k (by decide) with h | h
  · rw [show gRg 195 k = (-2147483648, 2147483647) from rfl, h]; exact ⟨by decide, by decide⟩
  · exact h.1
theorem gIo_196 {M : gM} (Z : gZ 0 M) : ∀ k : Int, (gRg 196 k).1 ≤ M 196 k ∧ M 196 k ≤ (gRg 196 k).2 := by
  intro k
  rcases Z 196 k (by decide) with h | h
  · rw [show gRg 196 k = (0, 39) from rfl, h]; exact ⟨by decide, by decide⟩
  · exact h.1
theorem gIo_197 {M : gM} (Z : gZ 0 M) : ∀ k : Int, (gRg 197 k).1 ≤ M 197 k ∧ M 197 k ≤ (gRg 197 k).2 := by
  intro k
  rcases Z 197 k (by decide) with h | h
  · rw [show gRg 197 k = (0, 1) from rfl, h]; exact ⟨by decide, by decide⟩
  · exact h.1
theorem gIo_198 {M : gM} (Z : gZ 0 M) : ∀ k : Int, (gRg 198 k).1 ≤ M 198 k ∧ M 198 k ≤ (gRg 198 k).2 := by
  intro k
  rcases Z 198 k (by decide) with h | h
  · rw [show gRg 198 k = (0, 39) from rfl, h]; exact ⟨by decide, by decide⟩
  · exact h.1
theorem gIo_199 {M : gM} (Z : gZ 0 M) : ∀ k : Int, (gRg 199 k).1 ≤ M 199 k ∧ M 199 k ≤ (gRg 199 k).2 := by
  intro k
  rcases Z 199 k (by decide) with h | h
  · rw [show gRg 199 k = (-2147483648, 2147483647) from rfl, h]; exact ⟨by decide, by decide⟩
  · exact h.1
theorem gIo_200 {M : gM} (Z : gZ 0 M) : ∀ k : Int, (gRg 200 k).1 ≤ M 200 k ∧ M 200 k ≤ (gRg 200 k).2 := by
  intro k
  rcases Z 200 k (by decide) with h | h
  · rw [show gRg 200 k = (-2147483648, 2147483647) from rfl, h]; exact ⟨by decide, by decide⟩
  · exact h.1
theorem gIo_201 {M : gM} (Z : gZ 0 M) : ∀ k : Int, (gRg 201 k).1 ≤ M 201 k ∧ M 201 k ≤ (gRg 201 k).2 := by
  intro k
  rcases Z 201 k (by decide) with h | h
  · rw [show gRg 201 k = (-2147483648, 2147483647) from rfl, h]; exact ⟨by decide, by decide⟩
  · exact h.1
theorem gIo_202 {M : gM} (Z : gZ 0 M) : ∀ k : Int, (gRg 202 k).1 ≤ M 202 k ∧ M 202 k ≤ (gRg 202 k).2 := by
  intro k
  rcases Z 202 k (by decide) with h | h
  · rw [show gRg 202 k = (-9223372036854775808, 9223372036854775807) from rfl, h]; exact ⟨by decide, by decide⟩
  · exact h.1
theorem gIo_203 {M : gM} (Z : gZ 0 M) : ∀ k : Int, (gRg 203 k).1 ≤ M 203 k ∧ M 203 k ≤ (gRg 203 k).2 := by
  intro k
  rcases Z 203 k (by decide) with h | h
  · rw [show gRg 203 k = (-9223372036854775808, 9223372036854775807) from rfl, h]; exact ⟨by decide, by decide⟩
  · exact h.1
theorem gIo_204 {M : gM} (Z : gZ 0 M) : ∀ k : Int, (gRg 204 k).1 ≤ M 204 k ∧ M 204 k ≤ (gRg 204 k).2 := by
  intro k
  rcases Z 204 k (by decide) with h | h
  · rw [show gRg 204 k = (-2147483648, 2147483647) from rfl, h]; exact ⟨by decide, by decide⟩
  · exact h.1
theorem gIo_205 {M : gM} (Z : gZ 0 M) : ∀ k : Int, (gRg 205 k).1 ≤ M 205 k ∧ M 205 k ≤ (gRg 205 k).2 := by
  intro k
  rcases Z 205 k (by decide) with h | h
  · rw [show gRg 205 k = (-9223372036854775808, 9223372036854775807) from rfl, h]; exact ⟨by decide, by decide⟩
  · exact h.1
theorem gI_start {M : gM} (Z : gZ 0 M) (f_0_0 : M 0 0 = 2) (f_0_1 : M 0 1 = 154) (f_0_2 : M 0 2 = 160) (f_0_3 : M 0 3 = 162) (f_0_4 : M 0 4 = 163) (f_0_5 : M 0 5 = 171) (f_0_6 : M 0 6 = 172) (f_0_7 : M 0 7 = 173) (f_0_8 : M 0 8 = 174) (f_1_0 : M 1 0 = 3) (f_1_1 : M 1 1 = 6) (f_1_2 : M 1 2 = 7) (f_1_3 : M 1 3 = 8) (f_1_4 : M 1 4 = 9) (f_1_5 : M 1 5 = 10) (f_1_6 : M 1 6 = 16) (f_1_7 : M 1 7 = 24) (f_1_8 : M 1 8 = 27) (f_1_9 : M 1 9 = 31) (f_2_0 : M 2 0 = 4) (f_2_1 : M 2 1 = 5) (a_5 : ∀ i : Int, 0 ≤ i → i < 16 → M 5 i = 31 + 1 * i + 1) (a_6 : ∀ i : Int, 0 ≤ i → i < 40 → M 6 i = 47 + 1 * i + 1) (a_7 : ∀ i : Int, 0 ≤ i → i < 11 → M 7 i = 87 + 6 * i + 1) (f_9_0 : M 9 0 = 11) (f_9_1 : M 9 1 = 12) (f_9_2 : M 9 2 = 13) (f_9_3 : M 9 3 = 14) (f_9_4 : M 9 4 = 15) (f_15_0 : M 15 0 = 17) (f_15_1 : M 15 1 = 18) (f_15_2 : M 15 2 = 19) (f_15_3 : M 15 3 = 20) (f_15_4 : M 15 4 = 21) (f_15_5 : M 15 5 = 22) (f_15_6 : M 15 6 = 23) (f_23_0 : M 23 0 = 25) (f_23_1 : M 23 1 = 26) (f_26_0 : M 26 0 = 28) (f_26_1 : M 26 1 = 29) (f_26_2 : M 26 2 = 30) (f_153_0 : M 153 0 = 155) (f_153_1 : M 153 1 = 156) (f_153_2 : M 153 2 = 157) (f_153_3 : M 153 3 = 158) (f_153_4 : M 153 4 = 159) (a_161 : ∀ i : Int, 0 ≤ i → i < 16 → M 161 i = 174 + 1 * i + 1) (f_162_0 : M 162 0 = 164) (f_162_1 : M 162 1 = 165) (f_162_2 : M 162 2 = 166) (f_162_3 : M 162 3 = 167) (f_162_4 : M 162 4 = 168) (f_162_5 : M 162 5 = 169) (f_162_6 : M 162 6 = 170) (f_190_1 : M 190 1 = 192) (f_190_2 : M 190 2 = 193) (f_190_3 : M 190 3 = 194) (f_190_5 : M 190 5 = 195) (f_190_6 : M 190 6 = 196) (f_190_7 : M 190 7 = 197) (f_190_9 : M 190 9 = 198) (f_190_10 : M 190 10 = 199) (f_190_16 : M 190 16 = 200) (f_190_17 : M 190 17 = 201) (f_190_18 : M 190 18 = 202) (f_190_20 : M 190 20 = 203) (f_190_21 : M 190 21 = 204) (f_190_22 : M 190 22 = 205) (f_190_23 : M 190 23 = 206) (hac : ∀ i : Int, 0 ≤ i → i < 11 → M (87 + 6 * i) 0 = 87 + 6 * i + 2 ∧ M (87 + 6 * i) 1 = 87 + 6 * i + 3 ∧ M (87 + 6 * i) 2 = 87 + 6 * i + 4 ∧ M (87 + 6 * i) 3 = 87 + 6 * i + 5 ∧ M (87 + 6 * i) 4 = 87 + 6 * i + 6) : ∀ o k : Int, 0 ≤ o → o < 206 → (gRg o k).1 ≤ M o k ∧ M o k ≤ (gRg o k).2 := by
  intro o k h0 h1
  by_cases gP : o < 31
  · by_cases g : o < 15
    · by_cases g : o < 7
      · by_cases g : o < 3
        · by_cases g : o < 1
          · obtain rfl : o = 0 := by omega
            exact gIo_0 Z f_0_0 f_0_1 f_0_2 f_0_3 f_0_4 f_0_5 f_0_6 f_0_7 f_0_8 k
          · by_cases g : o < 2
            · obtain rfl : o = 1 := by omega
              exact gIo_1 Z f_1_0 f_1_1 f_1_2 f_1_3 f_1_4 f_1_5 f_1_6 f_1_7 f_1_8 f_1_9 k
            · obtain rfl : o = 2 := by omega
              exact gIo_2 Z f_2_0 f_2_1 k
        · by_cases g : o < 5
          · by_cases g : o < 4
            · obtain rfl : o = 3 := by omega
              exact gIo_3 Z k
            · obtain rfl : o = 4 := by omega
              exact gIo_4 Z k
          · by_cases g : o < 6
            · obtain rfl : o = 5 := by omega
              exact gIo_5 Z a_5 k
            · obtain rfl : o = 6 := by omega
              exact gIo_6 Z a_6 k
      · by_cases g : o < 11
        · by_cases g : o < 9
          · by_cases g : o < 8
            · obtain rfl : o = 7 := by omega
              exact gIo_7 Z a_7 k
            · obtain rfl : o = 8 := by omega
              exact gIo_8 Z k
          · by_cases g : o < 10
            · obtain rfl : o = 9 := by omega
              exact gIo_9 Z f_9_0 f_9_1 f_9_2 f_9_3 f_9_4 k
            · obtain rfl : o = 10 := by omega
              exact gIo_10 Z k
        · by_cases g : o < 13
          · by_cases g : o < 12
            · obtain rfl : o = 11 := by omega
              exact gIo_11 Z k
            · obtain rfl : o = 12 := by omega
              exact gIo_12 Z k
          · by_cases g : o < 14
            · obtain rfl : o = 13 := by omega
              exact gIo_13 Z k
            · obtain rfl : o = 14 := by omega
              exact gIo_14 Z k
    · by_cases g : o < 23
      · by_cases g : o < 19
        · by_cases g : o < 17
          · by_cases g : o < 16
            · obtain rfl : o = 15 := by omega
              exact gIo_15 Z f_15_0 f_15_1 f_15_2 f_15_3 f_15_4 f_15_5 f_15_6 k
            · obtain rfl : o = 16 := by omega
              exact gIo_16 Z k
          · by_cases g : o < 18
            · obtain rfl : o = 17 := by omega
              exact gIo_17 Z k
            · obtain rfl : o = 18 := by omega
              exact gIo_18 Z k
        · by_cases g : o < 21
          · by_cases g : o < 20
            · obtain rfl : o = 19 := by omega
              exact gIo_19 Z k
            · obtain rfl : o = 20 := by omega
              exact gIo_20 Z k
          · by_cases g : o < 22
            · obtain rfl : o = 21 := by omega
              exact gIo_21 Z k
            · obtain rfl : o = 22 := by omega
              exact gIo_22 Z k
      · by_cases g : o < 27
        · by_cases g : o < 25
          · by_cases g : o < 24
            · obtain rfl : o = 23 := by omega
              exact gIo_23 Z f_23_0 f_23_1 k
            · obtain rfl : o = 24 := by omega
              exact gIo_24 Z k
          · by_cases g : o < 26
            · obtain rfl : o = 25 := by omega
              exact gIo_25 Z k
            · obtain rfl : o = 26 := by omega
              exact gIo_26 Z f_26_0 f_26_1 f_26_2 k
        · by_cases g : o < 29
          · by_cases g : o < 28
            · obtain rfl : o = 27 := by omega
              exact gIo_27 Z k
            · obtain rfl : o = 28 := by omega
              exact gIo_28 Z k
          · by_cases g : o < 30
            · obtain rfl : o = 29 := by omega
              exact gIo_29 Z k
            · obtain rfl : o = 30 := by omega
              exact gIo_30 Z k
  by_cases gR : o < 47
  · have hn : gnm o = o - 0 := by unfold gnm; rw [if_pos (by omega)]; omega
    exact gIo_P Z (by omega) (by omega) k
  by_cases gA : o < 87
  · have hn : gnm o = o - 0 := by unfold gnm; rw [if_pos (by omega)]; omega
    exact gIo_R Z (by omega) (by omega) k
  by_cases gE : o < 153
  · have hn : gnm o = o - 0 := by unfold gnm; rw [if_pos (by omega)]; omega
    refine gIo_A Z (by omega) (by omega) (fun g => ?_) k
    obtain ⟨i, hi⟩ : ∃ i : Int, o = 87 + 6 * i := ⟨(o - 87) / 6, by omega⟩
    have hf := hac i (by omega) (by omega)
    rw [← hi] at hf
    obtain ⟨f0, f1, f2, f3, f4⟩ := hf
    exact ⟨f0, f1, f2, f3, f4⟩
  by_cases gQ : o < 174
  · by_cases g : o < 163
    · by_cases g : o < 158
      · by_cases g : o < 155
        · by_cases g : o < 154
          · obtain rfl : o = 153 := by omega
            exact gIo_153 Z f_153_0 f_153_1 f_153_2 f_153_3 f_153_4 k
          · obtain rfl : o = 154 := by omega
            exact gIo_154 Z k
        · by_cases g : o < 156
          · obtain rfl : o = 155 := by omega
            exact gIo_155 Z k
          · by_cases g : o < 157
            · obtain rfl : o = 156 := by omega
              exact gIo_156 Z k
            · obtain rfl : o = 157 := by omega
              exact gIo_157 Z k
      · by_cases g : o < 160
        · by_cases g : o < 159
          · obtain rfl : o = 158 := by omega
            exact gIo_158 Z k
          · obtain rfl : o = 159 := by omega
            exact gIo_159 Z k
        · by_cases g : o < 161
          · obtain rfl : o = 160 := by omega
            exact gIo_160 Z k
          · by_cases g : o < 162
            · obtain rfl : o = 161 := by omega
              exact gIo_161 Z a_161 k
            · obtain rfl : o = 162 := by omega
              exact gIo_162 Z f_162_0 f_162_1 f_162_2 f_162_3 f_162_4 f_162_5 f_162_6 k
    · by_cases g : o < 168
      · by_cases g : o < 165
        · by_cases g : o < 164
          · obtain rfl : o = 163 := by omega
            exact gIo_163 Z k
          · obtain rfl : o = 164 := by omega
            exact gIo_164 Z k
        · by_cases g : o < 166
          · obtain rfl : o = 165 := by omega
            exact gIo_165 Z k
          · by_cases g : o < 167
            · obtain rfl : o = 166 := by omega
              exact gIo_166 Z k
            · obtain rfl : o = 167 := by omega
              exact gIo_167 Z k
      · by_cases g : o < 171
        · by_cases g : o < 169
          · obtain rfl : o = 168 := by omega
            exact gIo_168 Z k
          · by_cases g : o < 170
            · obtain rfl : o = 169 := by omega
              exact gIo_169 Z k
            · obtain rfl : o = 170 := by omega
              exact gIo_170 Z k
        · by_cases g : o < 172
          · obtain rfl : o = 171 := by omega
            exact gIo_171 Z k
          · by_cases g : o < 173
            · obtain rfl : o = 172 := by omega
              exact gIo_172 Z k
            · obtain rfl : o = 173 := by omega
              exact gIo_173 Z k
  by_cases gM : o < 190
  · have hn : gnm o = o - 143 := by unfold gnm; rw [if_neg (by omega), if_neg (by omega), if_neg (by omega), if_pos (by omega)]
    exact gIo_P Z (by omega) (by omega) k
  by_cases g : o < 198
  · by_cases g : o < 194
    · by_cases g : o < 192
      · by_cases g : o < 191
        · obtain rfl : o = 190 := by omega
          exact gIo_190 Z f_190_1 f_190_2 f_190_3 f_190_5 f_190_6 f_190_7 f_190_9 f_190_10 f_190_16 f_190_17 f_190_18 f_190_20 f_190_21 f_190_22 f_190_23 k
        · obtain rfl : o = 191 := by omega
          exact gIo_191 Z k
      · by_cases g : o < 193
        · obtain rfl : o = 192 := by omega
          exact gIo_192 Z k
        · obtain rfl : o = 193 := by omega
          exact gIo_193 Z k
    · by_cases g : o < 196
      · by_cases g : o < 195
        · obtain rfl : o = 194 := by omega
          exact gIo_194 Z k
        · obtain rfl : o = 195 := by omega
          exact gIo_195 Z k
      · by_cases g : o < 197
        · obtain rfl : o = 196 := by omega
          exact gIo_196 Z k
        · obtain rfl : o = 197 := by omega
          exact gIo_197 Z k
  · by_cases g : o < 202
    · by_cases g : o < 200
      · by_cases g : o < 199
        · obtain rfl : o = 198 := by omega
          exact gIo_198 Z k
        · obtain rfl : o = 199 := by omega
          exact gIo_199 Z k
      · by_cases g : o < 201
        · obtain rfl : o = 200 := by omega
          exact gIo_200 Z k
        · obtain rfl : o = 201 := by omega
          exact gIo_201 Z k
    · by_cases g : o < 204
      · by_cases g : o < 203
        · obtain rfl : o = 202 := by omega
          exact gIo_202 Z k
        · obtain rfl : o = 203 := by omega
          exact gIo_203 Z k
      · by_cases g : o < 205
        · obtain rfl : o = 204 := by omega
          exact gIo_204 Z k
        · obtain rfl : o = 205 := by omega
          exact gIo_205 Z k
theorem gIo_206 {M : gM} (Z : gZ 206 M) (f_206_0 : M 206 0 = 208) (f_206_1 : M 206 1 = 211) (f_206_2 : M 206 2 = 212) (f_206_3 : M 206 3 = 213) (f_206_4 : M 206 4 = 214) (f_206_5 : M 206 5 = 215) (f_206_6 : M 206 6 = 221) (f_206_7 : M 206 7 = 229) (f_206_8 : M 206 8 = 232) (f_206_9 : M 206 9 = 236) : ∀ k : Int, (gRg 206 k).1 ≤ M 206 k ∧ M 206 k ≤ (gRg 206 k).2 := by
  intro k
  by_cases h0 : k = 0
  · subst h0; rw [f_206_0]; decide +kernel
  by_cases h1 : k = 1
  · subst h1; rw [f_206_1]; decide +kernel
  by_cases h2 : k = 2
  · subst h2; rw [f_206_2]; decide +kernel
  by_cases h3 : k = 3
  · subst h3; rw [f_206_3]; decide +kernel
  by_cases h4 : k = 4
  · subst h4; rw [f_206_4]; decide +kernel
  by_cases h5 : k = 5
  · subst h5; rw [f_206_5]; decide +kernel
  by_cases h6 : k = 6
  · subst h6; rw [f_206_6]; decide +kernel
  by_cases h7 : k = 7
  · subst h7; rw [f_206_7]; decide +kernel
  by_cases h8 : k = 8
  · subst h8; rw [f_206_8]; decide +kernel
  by_cases h9 : k = 9
  · subst h9; rw [f_206_9]; decide +kernel
  rcases Z 206 k (by decide) with h | h
  · rw [h]
    by_cases h10 : k = 10
    · subst h10; decide +kernel
    by_cases h11 : k = 11
    · subst h11; decide +kernel
    by_cases h12 : k = 12
    · subst h12; decide +kernel
    by_cases h13 : k = 13
    · subst h13; decide +kernel
    by_cases h14 : k = 14
    · subst h14; decide +kernel
    by_cases h15 : k = 15
    · subst h15; decide +kernel
    have e : gRg 206 k = (-2147483648, 2147483647) := by
      show gRs1 205 k = _
      unfold gRs1
      rw [if_neg h0, if_neg h1, if_neg h2, if_neg h3, if_neg h4, if_neg h5, if_neg h6, if_neg h7, if_neg h8, if_neg h9, if_neg h10, if_neg h11, if_neg h12, if_neg h13, if_neg h14, if_neg h15]
    rw [e]; exact ⟨by decide, by decide⟩
  · exact h.1
theorem gIo_207 {M : gM} (Z : gZ 206 M) (f_207_0 : M 207 0 = 209) (f_207_1 : M 207 1 = 210) : ∀ k : Int, (gRg 207 k).1 ≤ M 207 k ∧ M 207 k ≤ (gRg 207 k).2 := by
  intro k
  by_cases h0 : k = 0
  · subst h0; rw [f_207_0]; decide +kernel
  by_cases h1 : k = 1
  · subst h1; rw [f_207_1]; decide +kernel
  rcases Z 207 k (by decide) with h | h
  · rw [h]
    have e : gRg 207 k = (-2147483648, 2147483647) := by
      show gRs2 205 k = _
      unfold gRs2
      rw [if_neg h0, if_neg h1]
    rw [e]; exact ⟨by decide, by decide⟩
  · exact h.1
theorem gIo_208 {M : gM} (Z : gZ 206 M) : ∀ k : Int, (gRg 208 k).1 ≤ M 208 k ∧ M 208 k ≤ (gRg 208 k).2 := by
  intro k
  rcases Z 208 k (by decide) with h | h
  · rw [show gRg 208 k = (0, 9999) from rfl, h]; exact ⟨by decide, by decide⟩
  · exact h.1
theorem gIo_209 {M : gM} (Z : gZ 206 M) : ∀ k : Int, (gRg 209 k).1 ≤ M 209 k ∧ M 209 k ≤ (gRg 209 k).2 := by
  intro k
  rcases Z 209 k (by decide) with h | h
  · rw [show gRg 209 k = (0, 99) from rfl, h]; exact ⟨by decide, by decide⟩
  · exact h.1
theorem gIo_210 {M : gM} (Z : gZ 206 M) (a_210 : ∀ i : Int, 0 ≤ i → i < 16 → M 210 i = 236 + 1 * i + 1) : ∀ k : Int, (gRg 210 k).1 ≤ M 210 k ∧ M 210 k ≤ (gRg 210 k).2 := by
  intro k
  by_cases hk : 0 ≤ k ∧ k < 16
  · rw [(gRA_210 hk.1 hk.2).1, a_210 k hk.1 hk.2]; exact ⟨by show (32 + k + 205 : Int) ≤ _; omega, by show _ ≤ (32 + k + 205 : Int); omega⟩
  · have e : gRg 210 k = (0, 0) := by
      show (if k < 0 then ((0, 0) : Int × Int) else if k < 16 then _ else _) = _
      by_cases q : k < 0
      · rw [if_pos q]
      · rw [if_neg q, if_neg (by omega)]
    rcases Z 210 k (by decide) with h | h
    · rw [e, h]; exact ⟨by decide, by decide⟩
    · exact h.1
theorem gIo_211 {M : gM} (Z : gZ 206 M) (a_211 : ∀ i : Int, 0 ≤ i → i < 40 → M 211 i = 252 + 1 * i + 1) : ∀ k : Int, (gRg 211 k).1 ≤ M 211 k ∧ M 211 k ≤ (gRg 211 k).2 := by
  intro k
  by_cases hk : 0 ≤ k ∧ k < 40
  · rw [(gRA_211 hk.1 hk.2).1, a_211 k hk.1 hk.2]; exact ⟨by show (48 + k + 205 : Int) ≤ _; omega, by show _ ≤ (48 + k + 205 : Int); omega⟩
  · have e : gRg 211 k = (0, 0) := by
      show (if k < 0 then ((0, 0) : Int × Int) else if k < 40 then _ else _) = _
      by_cases q : k < 0
      · rw [if_pos q]
      · rw [if_neg q, if_neg (by omega)]
    rcases Z 211 k (by decide) with h | h
    · rw [e, h]; exact ⟨by decide, by decide⟩
    · exact h.1
theorem gIo_212 {M : gM} (Z : gZ 206 M) (a_212 : ∀ i : Int, 0 ≤ i → i < 11 → M 212 i = 292 + 6 * i + 1) : ∀ k : Int, (gRg 212 k).1 ≤ M 212 k ∧ M 212 k ≤ (gRg 212 k).2 := by
  intro k
  by_cases hk : 0 ≤ k ∧ k < 11
  · rw [(gRA_212 hk.1 hk.2).1, a_212 k hk.1 hk.2]; exact ⟨by show (88 + 6 * k + 205 : Int) ≤ _; omega, by show _ ≤ (88 + 6 * k + 205 : Int); omega⟩
  · have e : gRg 212 k = (0, 0) := by
      show (if k < 0 then ((0, 0) : Int × Int) else if k < 11 then _ else _) = _
      by_cases q : k < 0
      · rw [if_pos q]
      · rw [if_neg q, if_neg (by omega)]
    rcases Z 212 k (by decide) with h | h
    · rw [e, h]; exact ⟨by decide, by decide⟩
    · exact h.1
theorem gIo_213 {M : gM} (Z : gZ 206 M) : ∀ k : Int, (gRg 213 k).1 ≤ M 213 k ∧ M 213 k ≤ (gRg 213 k).2 := by
  intro k
  rcases Z 213 k (by decide) with h | h
  · rw [show gRg 213 k = (-128, 127) from rfl, h]; exact ⟨by decide, by decide⟩
  · exact h.1
theorem gIo_214 {M : gM} (Z : gZ 206 M) (f_214_0 : M 214 0 = 216) (f_214_1 : M 214 1 = 217) (f_214_2 : M 214 2 = 218) (f_214_3 : M 214 3 = 219) (f_214_4 : M 214 4 = 220) : ∀ k : Int, (gRg 214 k).1 ≤ M 214 k ∧ M 214 k ≤ (gRg 214 k).2 := by
  intro k
  by_cases h0 : k = 0
  · subst h0; rw [f_214_0]; decide +kernel
  by_cases h1 : k = 1
  · subst h1; rw [f_214_1]; decide +kernel
  by_cases h2 : k = 2
  · subst h2; rw [f_214_2]; decide +kernel
  by_cases h3 : k = 3
  · subst h3; rw [f_214_3]; decide +kernel
  by_cases h4 : k = 4
  · subst h4; rw [f_214_4]; decide +kernel
  rcases Z 214 k (by decide) with h | h
  · rw [h]
    by_cases h5 : k = 5
    · subst h5; decide +kernel
    have e : gRg 214 k = (-2147483648, 2147483647) := by
      show gRs9 205 k = _
      unfold gRs9
      rw [if_neg h0, if_neg h1, if_neg h2, if_neg h3, if_neg h4, if_neg h5]
    rw [e]; exact ⟨by decide, by decide⟩
  · exact h.1
theorem gIo_215 {M : gM} (Z : gZ 206 M) : ∀ k : Int, (gRg 215 k).1 ≤ M 215 k ∧ M 215 k ≤ (gRg 215 k).2 := by
  intro k
  rcases Z 215 k (by decide) with h | h
  · rw [show gRg 215 k = (0, 15) from rfl, h]; exact ⟨by decide, by decide⟩
  · exact h.1
theorem gIo_216 {M : gM} (Z : gZ 206 M) : ∀ k : Int, (gRg 216 k).1 ≤ M 216 k ∧ M 216 k ≤ (gRg 216 k).2 := by
  intro k
  rcases Z 216 k (by decide) with h | h
  · rw [show gRg 216 k = (0, 5) from rfl, h]; exact ⟨by decide, by decide⟩
  · exact h.1
theorem gIo_217 {M : gM} (Z : gZ 206 M) : ∀ k : Int, (gRg 217 k).1 ≤ M 217 k ∧ M 217 k ≤ (gRg 217 k).2 := by
  intro k
  rcases Z 217 k (by decide) with h | h
  · rw [show gRg 217 k = (0, 5) from rfl, h]; exact ⟨by decide, by decide⟩
  · exact h.1
theorem gIo_218 {M : gM} (Z : gZ 206 M) : ∀ k : Int, (gRg 218 k).1 ≤ M 218 k ∧ M 218 k ≤ (gRg 218 k).2 := by
  intro k
  rcases Z 218 k (by decide) with h | h
  · rw [show gRg 218 k = (0, 300) from rfl, h]; exact ⟨by decide, by decide⟩
  · exact h.1
theorem gIo_219 {M : gM} (Z : gZ 206 M) : ∀ k : Int, (gRg 219 k).1 ≤ M 219 k ∧ M 219 k ≤ (gRg 219 k).2 := by
  intro k
  rcases Z 219 k (by decide) with h | h
  · rw [show gRg 219 k = (0, 1) from rfl, h]; exact ⟨by decide, by decide⟩
  · exact h.1
theorem gIo_220 {M : gM} (Z : gZ 206 M) (f_220_0 : M 220 0 = 222) (f_220_1 : M 220 1 = 223) (f_220_2 : M 220 2 = 224) (f_220_3 : M 220 3 = 225) (f_220_4 : M 220 4 = 226) (f_220_5 : M 220 5 = 227) (f_220_6 : M 220 6 = 228) : ∀ k : Int, (gRg 220 k).1 ≤ M 220 k ∧ M 220 k ≤ (gRg 220 k).2 := by
  intro k
  by_cases h0 : k = 0
  · subst h0; rw [f_220_0]; decide +kernel
  by_cases h1 : k = 1
  · subst h1; rw [f_220_1]; decide +kernel
  by_cases h2 : k = 2
  · subst h2; rw [f_220_2]; decide +kernel
  by_cases h3 : k = 3
  · subst h3; rw [f_220_3]; decide +kernel
  by_cases h4 : k = 4
  · subst h4; rw [f_220_4]; decide +kernel
  by_cases h5 : k = 5
  · subst h5; rw [f_220_5]; decide +kernel
  by_cases h6 : k = 6
  · subst h6; rw [f_220_6]; decide +kernel
  rcases Z 220 k (by decide) with h | h
  · rw [h]
    by_cases h7 : k = 7
    · subst h7; decide +kernel
    by_cases h8 : k = 8
    · subst h8; decide +kernel
    by_cases h9 : k = 9
    · subst h9; decide +kernel
    have e : gRg 220 k = (-2147483648, 2147483647) := by
      show gRs15 205 k = _
      unfold gRs15
      rw [if_neg h0, if_neg h1, if_neg h2, if_neg h3, if_neg h4, if_neg h5, if_neg h6, if_neg h7, if_neg h8, if_neg h9]
    rw [e]; exact ⟨by decide, by decide⟩
  · exact h.1
theorem gIo_221 {M : gM} (Z : gZ 206 M) : ∀ k : Int, (gRg 221 k).1 ≤ M 221 k ∧ M 221 k ≤ (gRg 221 k).2 := by
  intro k
  rcases Z 221 k (by decide) with h | h
  · rw [show gRg 221 k = (-2147483648, 2147483647) from rfl, h]; exact ⟨by decide, by decide⟩
  · exact h.1
theorem gIo_222 {M : gM} (Z : gZ 206 M) : ∀ k : Int, (gRg 222 k).1 ≤ M 222 k ∧ M 222 k ≤ (gRg 222 k).2 := by
  intro k
  rcases Z 222 k (by decide) with h | h
  · rw [show gRg 222 k = (-2147483648, 2147483647) from rfl, h]; exact ⟨by decide, by decide⟩
  · exact h.1
theorem gIo_223 {M : gM} (Z : gZ 206 M) : ∀ k : Int, (gRg 223 k).1 ≤ M 223 k ∧ M 223 k ≤ (gRg 223 k).2 := by
  intro k
  rcases Z 223 k (by decide) with h | h
  · rw [show gRg 223 k = (0, 10) from rfl, h]; exact ⟨by decide, by decide⟩
  · exact h.1
theorem gIo_224 {M : gM} (Z : gZ 206 M) : ∀ k : Int, (gRg 224 k).1 ≤ M 224 k ∧ M 224 k ≤ (gRg 224 k).2 := by
  intro k
  rcases Z 224 k (by decide) with h | h
  · rw [show gRg 224 k = (-2147483648, 2147483647) from rfl, h]; exact ⟨by decide, by decide⟩
  · exact h.1
theorem gIo_225 {M : gM} (Z : gZ 206 M) : ∀ k : Int, (gRg 225 k).1 ≤ M 225 k ∧ M 225 k ≤ (gRg 225 k).2 := by
  intro k
  rcases Z 225 k (by decide) with h | h
  · rw [show gRg 225 k = (0, 4) from rfl, h]; exact ⟨by decide, by decide⟩
  · exact h.1
theorem gIo_226 {M : gM} (Z : gZ 206 M) : ∀ k : Int, (gRg 226 k).1 ≤ M 226 k ∧ M 226 k ≤ (gRg 226 k).2 := by
  intro k
  rcases Z 226 k (by decide) with h | h
  · rw [show gRg 226 k = (-2147483648, 2147483647) from rfl, h]; exact ⟨by decide, by decide⟩
  · exact h.1
theorem gIo_227 {M : gM} (Z : gZ 206 M) : ∀ k : Int, (gRg 227 k).1 ≤ M 227 k ∧ M 227 k ≤ (gRg 227 k).2 := by
  intro k
  rcases Z 227 k (by decide) with h | h
  · rw [show gRg 227 k = (-2147483648, 2147483647) from rfl, h]; exact ⟨by decide, by decide⟩
  · exact h.1
theorem gIo_228 {M : gM} (Z : gZ 206 M) (f_228_0 : M 228 0 = 230) (f_228_1 : M 228 1 = 231) : ∀ k : Int, (gRg 228 k).1 ≤ M 228 k ∧ M 228 k ≤ (gRg 228 k).2 := by
  intro k
  by_cases h0 : k = 0
  · subst h0; rw [f_228_0]; decide +kernel
  by_cases h1 : k = 1
  · subst h1; rw [f_228_1]; decide +kernel
  rcases Z 228 k (by decide) with h | h
  · rw [h]
    have e : gRg 228 k = (-2147483648, 2147483647) := by
      show gRs23 205 k = _
      unfold gRs23
      rw [if_neg h0, if_neg h1]
    rw [e]; exact ⟨by decide, by decide⟩
  · exact h.1
theorem gIo_229 {M : gM} (Z : gZ 206 M) : ∀ k : Int, (gRg 229 k).1 ≤ M 229 k ∧ M 229 k ≤ (gRg 229 k).2 := by
  intro k
  rcases Z 229 k (by decide) with h | h
  · rw [show gRg 229 k = (-2147483648, 2147483647) from rfl, h]; exact ⟨by decide, by decide⟩
  · exact h.1
theorem gIo_230 {M : gM} (Z : gZ 206 M) : ∀ k : Int, (gRg 230 k).1 ≤ M 230 k ∧ M 230 k ≤ (gRg 230 k).2 := by
  intro k
  rcases Z 230 k (by decide) with h | h
  · rw [show gRg 230 k = (-9223372036854775808, 9223372036854775807) from rfl, h]; exact ⟨by decide, by decide⟩
  · exact h.1
theorem gIo_231 {M : gM} (Z : gZ 206 M) (f_231_0 : M 231 0 = 233) (f_231_1 : M 231 1 = 234) (f_231_2 : M 231 2 = 235) : ∀ k : Int, (gRg 231 k).1 ≤ M 231 k ∧ M 231 k ≤ (gRg 231 k).2 := by
  intro k
  by_cases h0 : k = 0
  · subst h0; rw [f_231_0]; decide +kernel
  by_cases h1 : k = 1
  · subst h1; rw [f_231_1]; decide +kernel
  by_cases h2 : k = 2
  · subst h2; rw [f_231_2]; decide +kernel
  rcases Z 231 k (by decide) with h | h
  · rw [h]
    by_cases h3 : k = 3
    · subst h3; decide +kernel
    have e : gRg 231 k = (-2147483648, 2147483647) := by
      show gRs26 205 k = _
      unfold gRs26
      rw [if_neg h0, if_neg h1, if_neg h2, if_neg h3]
    rw [e]; exact ⟨by decide, by decide⟩
  · exact h.1
theorem gIo_232 {M : gM} (Z : gZ 206 M) : ∀ k : Int, (gRg 232 k).1 ≤ M 232 k ∧ M 232 k ≤ (gRg 232 k).2 := by
  intro k
  rcases Z 232 k (by decide) with h | h
  · rw [show gRg 232 k = (0, 7) from rfl, h]; exact ⟨by decide, by decide⟩
  · exact h.1
theorem gIo_233 {M : gM} (Z : gZ 206 M) : ∀ k : Int, (gRg 233 k).1 ≤ M 233 k ∧ M 233 k ≤ (gRg 233 k).2 := by
  intro k
  rcases Z 233 k (by decide) with h | h
  · rw [show gRg 233 k = (0, 5) from rfl, h]; exact ⟨by decide, by decide⟩
  · exact h.1
theorem gIo_234 {M : gM} (Z : gZ 206 M) : ∀ k : Int, (gRg 234 k).1 ≤ M 234 k ∧ M 234 k ≤ (gRg 234 k).2 := by
  intro k
  rcases Z 234 k (by decide) with h | h
  · rw [show gRg 234 k = (0, 300) from rfl, h]; exact ⟨by decide, by decide⟩
  · exact h.1
theorem gIo_235 {M : gM} (Z : gZ 206 M) : ∀ k : Int, (gRg 235 k).1 ≤ M 235 k ∧ M 235 k ≤ (gRg 235 k).2 := by
  intro k
  rcases Z 235 k (by decide) with h | h
  · rw [show gRg 235 k = (-2147483648, 2147483647) from rfl, h]; exact ⟨by decide, by decide⟩
  · exact h.1
theorem gI_second {M : gM} (Z : gZ 206 M) (f_206_0 : M 206 0 = 208) (f_206_1 : M 206 1 = 211) (f_206_2 : M 206 2 = 212) (f_206_3 : M 206 3 = 213) (f_206_4 : M 206 4 = 214) (f_206_5 : M 206 5 = 215) (f_206_6 : M 206 6 = 221) (f_206_7 : M 206 7 = 229) (f_206_8 : M 206 8 = 232) (f_206_9 : M 206 9 = 236) (f_207_0 : M 207 0 = 209) (f_207_1 : M 207 1 = 210) (a_210 : ∀ i : Int, 0 ≤ i → i < 16 → M 210 i = 236 + 1 * i + 1) (a_211 : ∀ i : Int, 0 ≤ i → i < 40 → M 211 i = 252 + 1 * i + 1) (a_212 : ∀ i : Int, 0 ≤ i → i < 11 → M 212 i = 292 + 6 * i + 1) (f_214_0 : M 214 0 = 216) (f_214_1 : M 214 1 = 217) (f_214_2 : M 214 2 = 218) (f_214_3 : M 214 3 = 219) (f_214_4 : M 214 4 = 220) (f_220_0 : M 220 0 = 222) (f_220_1 : M 220 1 = 223) (f_220_2 : M 220 2 = 224) (f_220_3 : M 220 3 = 225) (f_220_4 : M 220 4 = 226) (f_220_5 : M 220 5 = 227) (f_220_6 : M 220 6 = 228) (f_228_0 : M 228 0 = 230) (f_228_1 : M 228 1 = 231) (f_231_0 : M 231 0 = 233) (f_231_1 : M 231 1 = 234) (f_231_2 : M 231 2 = 235) (hac : ∀ i : Int, 0 ≤ i → i < 11 → M (292 + 6 * i) 0 = 292 + 6 * i + 2 ∧ M (292 + 6 * i) 1 = 292 + 6 * i + 3 ∧ M (292 + 6 * i) 2 = 292 + 6 * i + 4 ∧ M (292 + 6 * i) 3 = 292 + 6 * i + 5 ∧ M (292 + 6 * i) 4 = 292 + 6 * i + 6) : ∀ o k : Int, 206 ≤ o → o < 358 → (gRg o k).1 ≤ M o k ∧ M o k ≤ (gRg o k).2 := by
  intro o k h0 h1
  by_cases gP : o < 236
  · by_cases g : o < 221
    · by_cases g : o < 213
      · by_cases g : o < 209
        · by_cases g : o < 207
          · obtain rfl : o = 206 := by omega
            exact gIo_206 Z f_206_0 f_206_1 f_206_2 f_206_3 f_206_4 f_206_5 f_206_6 f_206_7 f_206_8 f_206_9 k
          · by_cases g : o < 208
            · obtain rfl : o = 207 := by omega
              exact gIo_207 Z f_207_0 f_207_1 k
            · obtain rfl : o = 208 := by omega
              exact gIo_208 Z k
        · by_cases g : o < 211
          · by_cases g : o < 210
            · obtain rfl : o = 209 := by omega
              exact gIo_209 Z k
            · obtain rfl : o = 210 := by omega
              exact gIo_210 Z a_210 k
          · by_cases g : o < 212
            · obtain rfl : o = 211 := by omega
              exact gIo_211 Z a_211 k
            · obtain rfl : o = 212 := by omega
              exact gIo_212 Z a_212 k
      · by_cases g : o < 217
        · by_cases g : o < 215
          · by_cases g : o < 214
            · obtain rfl : o = 213 := by omega
              exact gIo_213 Z k
            · obtain rfl : o = 214 := by omega
              exact gIo_214 Z f_214_0 f_214_1 f_214_2 f_214_3 f_214_4 k
          · by_cases g : o < 216
            · obtain rfl : o = 215 := by omega
              exact gIo_215 Z k
            · obtain rfl : o = 216 := by omega
              exact gIo_216 Z k
        · by_cases g : o < 219
          · by_cases g : o < 218
            · obtain rfl : o = 217 := by omega
              exact gIo_217 Z k
            · obtain rfl : o = 218 := by omega
              exact gIo_218 Z k
          · by_cases g : o < 220
            · obtain rfl : o = 219 := by omega
              exact gIo_219 Z k
            · obtain rfl : o = 220 := by omega
              exact gIo_220 Z f_220_0 f_220_1 f_220_2 f_220_3 f_220_4 f_220_5 f_220_6 k
    · by_cases g : o < 228
      · by_cases g : o < 224
        · by_cases g : o < 222
          · obtain rfl : o = 221 := by omega
            exact gIo_221 Z k
          · by_cases g : o < 223
            · obtain rfl : o = 222 := by omega
              exact gIo_222 Z k
            · obtain rfl : o = 223 := by omega
              exact gIo_223 Z k
        · by_cases g : o < 226
          · by_cases g : o < 225
            · obtain rfl : o = 224 := by omega
              exact gIo_224 Z k
            · obtain rfl : o = 225 := by omega
              exact gIo_225 Z k
          · by_cases g : o < 227
            · obtain rfl : o = 226 := by omega
              exact gIo_226 Z k
            · obtain rfl : o = 227 := by omega
              exact gIo_227 Z k
      · by_cases g : o < 232
        · by_cases g : o < 230
          · by_cases g : o < 229
            · obtain rfl : o = 228 := by omega
              exact gIo_228 Z f_228_0 f_228_1 k
            · obtain rfl : o = 229 := by omega
              exact gIo_229 Z k
          · by_cases g : o < 231
            · obtain rfl : o = 230 := by omega
              exact gIo_230 Z k
            · obtain rfl : o = 231 := by omega
              exact gIo_231 Z f_231_0 f_231_1 f_231_2 k
        · by_cases g : o < 234
          · by_cases g : o < 233
            · obtain rfl : o = 232 := by omega
              exact gIo_232 Z k
            · obtain rfl : o = 233 := by omega
              exact gIo_233 Z k
          · by_cases g : o < 235
            · obtain rfl : o = 234 := by omega
              exact gIo_234 Z k
            · obtain rfl : o = 235 := by omega
              exact gIo_235 Z k
  by_cases gR : o < 252
  · have hn : gnm o = o - 205 := by unfold gnm; rw [if_neg (by omega), if_neg (by omega), if_neg (by omega), if_neg (by omega), if_neg (by omega)]
    exact gIo_P Z (by omega) (by omega) k
  by_cases gA : o < 292
  · have hn : gnm o = o - 205 := by unfold gnm; rw [if_neg (by omega), if_neg (by omega), if_neg (by omega), if_neg (by omega), if_neg (by omega)]
    exact gIo_R Z (by omega) (by omega) k
  by_cases gE : o < 358
  · have hn : gnm o = o - 205 := by unfold gnm; rw [if_neg (by omega), if_neg (by omega), if_neg (by omega), if_neg (by omega), if_neg (by omega)]
    refine gIo_A Z (by omega) (by omega) (fun g => ?_) k
    obtain ⟨i, hi⟩ : ∃ i : Int, o = 292 + 6 * i := ⟨(o - 292) / 6, by omega⟩
    have hf := hac i (by omega) (by omega)
    rw [← hi] at hf
    obtain ⟨f0, f1, f2, f3, f4⟩ := hf
    exact ⟨f0, f1, f2, f3, f4⟩
  exfalso; omega
theorem gC_start {M : gM} (Z : gZ 0 M) (sz : Nat) : gC sz M := by
  have hz : ∀ o k : Int, 0 ≤ o → gCr o k = true → M o k = 0 := fun o k h0 h => (Z o k h0).elim id (fun q => by rw [q.2] at h; cases h)
  refine ⟨fun o ho => Or.inr ?_, fun o ho h => ?_, fun o i ho h => ?_⟩
  · rw [hz o 2 (by unfold gRz at ho; omega) (gCr_R ho).2]; decide
  · rw [hz o 5 (by unfold gPz at ho; omega) (gCr_P ho).1] at h; exact absurd h (by decide)
  · rw [hz (o + 3) i (by unfold gAz at ho; omega) (gCr_A ho).1] at h; exact absurd h (by decide)
theorem gC_second {M : gM} (C : gC 206 M) (Z : gZ 206 M) : gC 358 M := by
  have hz : ∀ o k : Int, 206 ≤ o → gCr o k = true → M o k = 0 := fun o k h0 h => (Z o k h0).elim id (fun q => by rw [q.2] at h; cases h)
  refine ⟨fun o ho => ?_, fun o ho h => ?_, fun o i ho h => ?_⟩
  · by_cases g : o < 206
    · exact C.1 o (by unfold gRz at *; omega)
    · rw [hz o 2 (by omega) (gCr_R ho).2]; exact Or.inr (by decide)
  · by_cases g : o < 206
    · exact C.2.1 o (by unfold gPz at *; omega) h
    · rw [hz o 5 (by omega) (gCr_P ho).1] at h; exact absurd h (by decide)
  · by_cases g : o < 206
    · exact C.2.2 o i (by unfold gAz at *; omega) h
    · rw [hz (o + 3) i (by unfold gAz at ho; omega) (gCr_A ho).1] at h; exact absurd h (by decide)
theorem gW_start {M : gM} (hS : ∀ i : Int, 0 ≤ i → i < 25301 → M 191 i = gS0 i) : gW 191 M := by
  have z : ∀ i : Int, 0 ≤ i → i < 25301 → (i < 9 ∨ 63 < i) → M 191 i = 0 := fun i h0 h1 h2 => by
    rw [hS i h0 h1]; unfold gS0
    rw [if_neg (by omega), if_neg (by omega), if_neg (by omega), if_neg (by omega)]
  refine ⟨fun p h0 h1 => ?_, fun r h0 h1 => ⟨Or.inr ?_, fun h => ?_⟩, fun o h0 h1 => ?_, fun w h0 h1 => ?_⟩
  · rw [z 1 (by decide) (by decide) (by decide)] at h1; exfalso; omega
  · rw [z (r + 336) (by omega) (by omega) (by omega)]; decide
  · rw [z (r + 256) (by omega) (by omega) (by omega)] at h; exact absurd h (by decide)
  · rw [z 5 (by decide) (by decide) (by decide)] at h1; exfalso; omega
  · rw [z 0 (by decide) (by decide) (by decide)] at h1; exfalso; omega
