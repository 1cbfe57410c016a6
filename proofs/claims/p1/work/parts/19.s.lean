/-- the model's array s on a fresh object -/
def gS0 (i : Int) : Int := if 16 ≤ i ∧ i ≤ 21 then 100 else if 24 ≤ i ∧ i ≤ 59 then (if (i - 24) % 7 = 0 then 0 else 99) else if 60 ≤ i ∧ i ≤ 63 then 2 else if i = 9 then 1 else 0
theorem gS0_rent {i : Int} (h0 : 16 ≤ i) (h1 : i ≤ 21) : gS0 i = 100 := by unfold gS0; rw [if_pos ⟨h0, h1⟩]
theorem gS0_bed {i : Int} (h0 : 60 ≤ i) (h1 : i ≤ 63) : gS0 i = 2 := by unfold gS0; rw [if_neg (by omega), if_neg (by omega), if_pos ⟨h0, h1⟩]
theorem gS0_zero {i : Int} (h : ¬(16 ≤ i ∧ i ≤ 21) ∧ ¬(24 ≤ i ∧ i ≤ 59) ∧ ¬(60 ≤ i ∧ i ≤ 63) ∧ ¬ i = 9) : gS0 i = 0 := by unfold gS0; rw [if_neg h.1, if_neg h.2.1, if_neg h.2.2.1, if_neg h.2.2.2]
theorem gS0_road {i : Int} (h0 : 24 ≤ i) (h1 : i ≤ 59) : ((i - 24) % 7 = 0 → gS0 i = 0) ∧ (¬ (i - 24) % 7 = 0 → gS0 i = 99) := by
  unfold gS0
  rw [if_neg (by omega), if_pos ⟨h0, h1⟩]
  exact ⟨fun h => if_pos h, fun h => if_neg h⟩
