theorem gnm_P {sz : Nat} {o : Int} (h : gPz sz o) : 31 ≤ gnm o ∧ gnm o < 47 := by
  unfold gPz at h
  unfold gnm
  rcases h with h | h | h
  · rw [if_pos (by omega)]; exact h
  · rw [if_neg (by omega), if_neg (by omega), if_neg (by omega), if_pos (by omega)]; omega
  · rw [if_neg (by omega), if_neg (by omega), if_neg (by omega), if_neg (by omega), if_neg (by omega)]; omega
theorem gnm_R {sz : Nat} {o : Int} (h : gRz sz o) : 47 ≤ gnm o ∧ gnm o < 87 := by
  unfold gRz at h
  unfold gnm
  rcases h with h | h
  · rw [if_pos (by omega)]; exact h
  · rw [if_neg (by omega), if_neg (by omega), if_neg (by omega), if_neg (by omega), if_neg (by omega)]; omega
theorem gnm_A {sz : Nat} {o j : Int} (h : gAz sz o) (hj : 0 ≤ j ∧ j ≤ 5) : 87 ≤ gnm (o + j) ∧ gnm (o + j) < 153 ∧ (gnm (o + j) - 87) % 6 = j ∧ (o + j) - gnm (o + j) = o - gnm o ∧ gnm (o + j) = gnm o + j := by
  unfold gAz at h
  rcases h with h | h
  · have h1 : gnm (o + j) = o + j := by unfold gnm; rw [if_pos (by omega)]
    have h2 : gnm o = o := by unfold gnm; rw [if_pos (by omega)]
    omega
  · have h1 : gnm (o + j) = o + j - 205 := by unfold gnm; rw [if_neg (by omega), if_neg (by omega), if_neg (by omega), if_neg (by omega), if_neg (by omega)]
    have h2 : gnm o = o - 205 := by unfold gnm; rw [if_neg (by omega), if_neg (by omega), if_neg (by omega), if_neg (by omega), if_neg (by omega)]
    omega
theorem Pzo0 {sz : Nat} {o : Int} (h : gPz sz o) : 0 ≤ o := by unfold gPz at h; omega
theorem Pzosz {sz : Nat} {o : Int} (hsz : 206 ≤ sz) (h : gPz sz o) : o < (sz : Int) := by unfold gPz at h; omega
theorem Rzo0 {sz : Nat} {o : Int} (h : gRz sz o) : 0 ≤ o := by unfold gRz at h; omega
theorem Rzosz {sz : Nat} {o : Int} (hsz : 206 ≤ sz) (h : gRz sz o) : o < (sz : Int) := by unfold gRz at h; omega
theorem Azo0 {sz : Nat} {o : Int} (h : gAz sz o) : 0 ≤ o := by unfold gAz at h; omega
theorem Azosz {sz : Nat} {o : Int} (hsz : 206 ≤ sz) (h : gAz sz o) : o < (sz : Int) := by unfold gAz at h; omega
theorem Az1o0 {sz : Nat} {o : Int} (h : gAz sz o) : 0 ≤ o + 1 := by unfold gAz at h; omega
theorem Az1osz {sz : Nat} {o : Int} (hsz : 206 ≤ sz) (h : gAz sz o) : o + 1 < (sz : Int) := by unfold gAz at h; omega
theorem Az2o0 {sz : Nat} {o : Int} (h : gAz sz o) : 0 ≤ o + 2 := by unfold gAz at h; omega
theorem Az2osz {sz : Nat} {o : Int} (hsz : 206 ≤ sz) (h : gAz sz o) : o + 2 < (sz : Int) := by unfold gAz at h; omega
theorem Az3o0 {sz : Nat} {o : Int} (h : gAz sz o) : 0 ≤ o + 3 := by unfold gAz at h; omega
theorem Az3osz {sz : Nat} {o : Int} (hsz : 206 ≤ sz) (h : gAz sz o) : o + 3 < (sz : Int) := by unfold gAz at h; omega
theorem Az4o0 {sz : Nat} {o : Int} (h : gAz sz o) : 0 ≤ o + 4 := by unfold gAz at h; omega
theorem Az4osz {sz : Nat} {o : Int} (hsz : 206 ≤ sz) (h : gAz sz o) : o + 4 < (sz : Int) := by unfold gAz at h; omega
theorem Az5o0 {sz : Nat} {o : Int} (h : gAz sz o) : 0 ≤ o + 5 := by unfold gAz at h; omega
theorem Az5osz {sz : Nat} {o : Int} (hsz : 206 ≤ sz) (h : gAz sz o) : o + 5 < (sz : Int) := by unfold gAz at h; omega
theorem lay3_Pz {sz : Nat} {o : Int} (h : gPz sz o) : glay o = (0, 6) := by
  unfold gPz at h
  rcases h with h | h | h
  · exact lay2_P h
  · have := lay_Q (i := o - 174) (by omega) (by omega); rwa [show 174 + (o - 174) = o by omega] at this
  · have := layk_P (i := o - 236) (by omega) (by omega); rwa [show 236 + (o - 236) = o by omega] at this
theorem lay3_Rz {sz : Nat} {o : Int} (h : gRz sz o) : glay o = (0, 8) := by
  unfold gRz at h
  rcases h with h | h
  · exact lay2_R h
  · have := layk_R (i := o - 252) (by omega) (by omega); rwa [show 252 + (o - 252) = o by omega] at this
theorem lay3_Az {sz : Nat} {o : Int} (h : gAz sz o) : glay o = (0, 0) := by
  unfold gAz at h
  rcases h with h | h
  · exact lay2_A h
  · have := layk_A0 (i := (o - 292) / 6) (by omega) (by omega); rwa [show 292 + 6 * ((o - 292) / 6) = o by omega] at this
theorem lay3_Az1 {sz : Nat} {o : Int} (h : gAz sz o) : glay (o + 1) = (3, 150) := by
  unfold gAz at h
  rcases h with h | h
  · exact lay2_A1 h
  · have := layk_A1 (i := (o - 292) / 6) (by omega) (by omega); rwa [show 293 + 6 * ((o - 292) / 6) = (o + 1) by omega] at this
theorem lay3_Az2 {sz : Nat} {o : Int} (h : gAz sz o) : glay (o + 2) = (1, 10) := by
  unfold gAz at h
  rcases h with h | h
  · exact lay2_A2 h
  · have := layk_A2 (i := (o - 292) / 6) (by omega) (by omega); rwa [show 294 + 6 * ((o - 292) / 6) = (o + 2) by omega] at this
theorem lay3_Az3 {sz : Nat} {o : Int} (h : gAz sz o) : glay (o + 3) = (1, 8) := by
  unfold gAz at h
  rcases h with h | h
  · exact lay2_A3 h
  · have := layk_A3 (i := (o - 292) / 6) (by omega) (by omega); rwa [show 295 + 6 * ((o - 292) / 6) = (o + 3) by omega] at this
theorem lay3_Az4 {sz : Nat} {o : Int} (h : gAz sz o) : glay (o + 4) = (1, 8) := by
  unfold gAz at h
  rcases h with h | h
  · exact lay2_A4 h
  · have := layk_A4 (i := (o - 292) / 6) (by omega) (by omega); rwa [show 296 + 6 * ((o - 292) / 6) = (o + 4) by omega] at this
theorem lay3_Az5 {sz : Nat} {o : Int} (h : gAz sz o) : glay (o + 5) = (1, 8) := by
  unfold gAz at h
  rcases h with h | h
  · exact lay2_A5 h
  · have := layk_A5 (i := (o - 292) / 6) (by omega) (by omega); rwa [show 297 + 6 * ((o - 292) / 6) = (o + 5) by omega] at this
theorem rPz_0 {sz : Nat} {o : Int} (h : gPz sz o) : gRg o 0 = (0, 1) ∧ gCr o 0 = false := by
  have hn := gnm_P h
  refine ⟨?_, ?_⟩
  · unfold gRg gRn; rw [if_neg (by omega), if_pos (by omega)]; rfl
  · unfold gCr; rw [if_neg (by omega), if_pos (by omega)]; rfl
theorem rPz_1 {sz : Nat} {o : Int} (h : gPz sz o) : gRg o 1 = (-3000, 300) ∧ gCr o 1 = false := by
  have hn := gnm_P h
  refine ⟨?_, ?_⟩
  · unfold gRg gRn; rw [if_neg (by omega), if_pos (by omega)]; rfl
  · unfold gCr; rw [if_neg (by omega), if_pos (by omega)]; rfl
theorem rPz_2 {sz : Nat} {o : Int} (h : gPz sz o) : gRg o 2 = (0, 5) ∧ gCr o 2 = false := by
  have hn := gnm_P h
  refine ⟨?_, ?_⟩
  · unfold gRg gRn; rw [if_neg (by omega), if_pos (by omega)]; rfl
  · unfold gCr; rw [if_neg (by omega), if_pos (by omega)]; rfl
theorem rPz_3 {sz : Nat} {o : Int} (h : gPz sz o) : gRg o 3 = (-1, 15) ∧ gCr o 3 = false := by
  have hn := gnm_P h
  refine ⟨?_, ?_⟩
  · unfold gRg gRn; rw [if_neg (by omega), if_pos (by omega)]; rfl
  · unfold gCr; rw [if_neg (by omega), if_pos (by omega)]; rfl
theorem rPz_4 {sz : Nat} {o : Int} (h : gPz sz o) : gRg o 4 = (0, 9) ∧ gCr o 4 = false := by
  have hn := gnm_P h
  refine ⟨?_, ?_⟩
  · unfold gRg gRn; rw [if_neg (by omega), if_pos (by omega)]; rfl
  · unfold gCr; rw [if_neg (by omega), if_pos (by omega)]; rfl
theorem rPz_5 {sz : Nat} {o : Int} (h : gPz sz o) : gRg o 5 = (0, 8) ∧ gCr o 5 = true := by
  have hn := gnm_P h
  refine ⟨?_, ?_⟩
  · unfold gRg gRn; rw [if_neg (by omega), if_pos (by omega)]; rfl
  · unfold gCr; rw [if_neg (by omega), if_pos (by omega)]; rfl
theorem rPz_6 {sz : Nat} {o : Int} (h : gPz sz o) : gRg o 6 = (-2147483648, 2147483647) ∧ gCr o 6 = false := by
  have hn := gnm_P h
  refine ⟨?_, ?_⟩
  · unfold gRg gRn; rw [if_neg (by omega), if_pos (by omega)]; rfl
  · unfold gCr; rw [if_neg (by omega), if_pos (by omega)]; rfl
theorem rPz_7 {sz : Nat} {o : Int} (h : gPz sz o) : gRg o 7 = (-2147483648, 2147483647) ∧ gCr o 7 = false := by
  have hn := gnm_P h
  refine ⟨?_, ?_⟩
  · unfold gRg gRn; rw [if_neg (by omega), if_pos (by omega)]; rfl
  · unfold gCr; rw [if_neg (by omega), if_pos (by omega)]; rfl
theorem rPz_8 {sz : Nat} {o : Int} (h : gPz sz o) : gRg o 8 = (-1, 3) ∧ gCr o 8 = true := by
  have hn := gnm_P h
  refine ⟨?_, ?_⟩
  · unfold gRg gRn; rw [if_neg (by omega), if_pos (by omega)]; rfl
  · unfold gCr; rw [if_neg (by omega), if_pos (by omega)]; rfl
theorem rPz_9 {sz : Nat} {o : Int} (h : gPz sz o) : gRg o 9 = (-1, 3) ∧ gCr o 9 = false := by
  have hn := gnm_P h
  refine ⟨?_, ?_⟩
  · unfold gRg gRn; rw [if_neg (by omega), if_pos (by omega)]; rfl
  · unfold gCr; rw [if_neg (by omega), if_pos (by omega)]; rfl
theorem rPz_10 {sz : Nat} {o : Int} (h : gPz sz o) : gRg o 10 = (-1, 5) ∧ gCr o 10 = true := by
  have hn := gnm_P h
  refine ⟨?_, ?_⟩
  · unfold gRg gRn; rw [if_neg (by omega), if_pos (by omega)]; rfl
  · unfold gCr; rw [if_neg (by omega), if_pos (by omega)]; rfl
theorem rPz_11 {sz : Nat} {o : Int} (h : gPz sz o) : gRg o 11 = (0, 8) ∧ gCr o 11 = false := by
  have hn := gnm_P h
  refine ⟨?_, ?_⟩
  · unfold gRg gRn; rw [if_neg (by omega), if_pos (by omega)]; rfl
  · unfold gCr; rw [if_neg (by omega), if_pos (by omega)]; rfl
theorem rPz_12 {sz : Nat} {o : Int} (h : gPz sz o) : gRg o 12 = (-2147483648, 2147483647) ∧ gCr o 12 = false := by
  have hn := gnm_P h
  refine ⟨?_, ?_⟩
  · unfold gRg gRn; rw [if_neg (by omega), if_pos (by omega)]; rfl
  · unfold gCr; rw [if_neg (by omega), if_pos (by omega)]; rfl
theorem rPz_13 {sz : Nat} {o : Int} (h : gPz sz o) : gRg o 13 = (-2147483648, 2147483647) ∧ gCr o 13 = false := by
  have hn := gnm_P h
  refine ⟨?_, ?_⟩
  · unfold gRg gRn; rw [if_neg (by omega), if_pos (by omega)]; rfl
  · unfold gCr; rw [if_neg (by omega), if_pos (by omega)]; rfl
theorem rPz_14 {sz : Nat} {o : Int} (h : gPz sz o) : gRg o 14 = (0, 1) ∧ gCr o 14 = false := by
  have hn := gnm_P h
  refine ⟨?_, ?_⟩
  · unfold gRg gRn; rw [if_neg (by omega), if_pos (by omega)]; rfl
  · unfold gCr; rw [if_neg (by omega), if_pos (by omega)]; rfl
theorem rPz_15 {sz : Nat} {o : Int} (h : gPz sz o) : gRg o 15 = (-2147483648, 2147483647) ∧ gCr o 15 = false := by
  have hn := gnm_P h
  refine ⟨?_, ?_⟩
  · unfold gRg gRn; rw [if_neg (by omega), if_pos (by omega)]; rfl
  · unfold gCr; rw [if_neg (by omega), if_pos (by omega)]; rfl
theorem rRz_0 {sz : Nat} {o : Int} (h : gRz sz o) : gRg o 0 = (0, 4) ∧ gCr o 0 = true := by
  have hn := gnm_R h
  refine ⟨?_, ?_⟩
  · unfold gRg gRn; rw [if_neg (by omega), if_neg (by omega), if_pos (by omega)]; rfl
  · unfold gCr; rw [if_neg (by omega), if_neg (by omega), if_pos (by omega)]; rfl
theorem rRz_1 {sz : Nat} {o : Int} (h : gRz sz o) : gRg o 1 = (0, 15) ∧ gCr o 1 = false := by
  have hn := gnm_R h
  refine ⟨?_, ?_⟩
  · unfold gRg gRn; rw [if_neg (by omega), if_neg (by omega), if_pos (by omega)]; rfl
  · unfold gCr; rw [if_neg (by omega), if_neg (by omega), if_pos (by omega)]; rfl
theorem rRz_2 {sz : Nat} {o : Int} (h : gRz sz o) : gRg o 2 = (0, 15) ∧ gCr o 2 = true := by
  have hn := gnm_R h
  refine ⟨?_, ?_⟩
  · unfold gRg gRn; rw [if_neg (by omega), if_neg (by omega), if_pos (by omega)]; rfl
  · unfold gCr; rw [if_neg (by omega), if_neg (by omega), if_pos (by omega)]; rfl
theorem rRz_3 {sz : Nat} {o : Int} (h : gRz sz o) : gRg o 3 = (0, 9999) ∧ gCr o 3 = false := by
  have hn := gnm_R h
  refine ⟨?_, ?_⟩
  · unfold gRg gRn; rw [if_neg (by omega), if_neg (by omega), if_pos (by omega)]; rfl
  · unfold gCr; rw [if_neg (by omega), if_neg (by omega), if_pos (by omega)]; rfl
theorem rRz_4 {sz : Nat} {o : Int} (h : gRz sz o) : gRg o 4 = (-3000, 300) ∧ gCr o 4 = false := by
  have hn := gnm_R h
  refine ⟨?_, ?_⟩
  · unfold gRg gRn; rw [if_neg (by omega), if_neg (by omega), if_pos (by omega)]; rfl
  · unfold gCr; rw [if_neg (by omega), if_neg (by omega), if_pos (by omega)]; rfl
theorem rRz_5 {sz : Nat} {o : Int} (h : gRz sz o) : gRg o 5 = (0, 1) ∧ gCr o 5 = false := by
  have hn := gnm_R h
  refine ⟨?_, ?_⟩
  · unfold gRg gRn; rw [if_neg (by omega), if_neg (by omega), if_pos (by omega)]; rfl
  · unfold gCr; rw [if_neg (by omega), if_neg (by omega), if_pos (by omega)]; rfl
theorem rRz_6 {sz : Nat} {o : Int} (h : gRz sz o) : gRg o 6 = (0, 80) ∧ gCr o 6 = false := by
  have hn := gnm_R h
  refine ⟨?_, ?_⟩
  · unfold gRg gRn; rw [if_neg (by omega), if_neg (by omega), if_pos (by omega)]; rfl
  · unfold gCr; rw [if_neg (by omega), if_neg (by omega), if_pos (by omega)]; rfl
theorem rRz_7 {sz : Nat} {o : Int} (h : gRz sz o) : gRg o 7 = (-1, 80) ∧ gCr o 7 = false := by
  have hn := gnm_R h
  refine ⟨?_, ?_⟩
  · unfold gRg gRn; rw [if_neg (by omega), if_neg (by omega), if_pos (by omega)]; rfl
  · unfold gCr; rw [if_neg (by omega), if_neg (by omega), if_pos (by omega)]; rfl
theorem rRz_8 {sz : Nat} {o : Int} (h : gRz sz o) : gRg o 8 = (0, 1) ∧ gCr o 8 = false := by
  have hn := gnm_R h
  refine ⟨?_, ?_⟩
  · unfold gRg gRn; rw [if_neg (by omega), if_neg (by omega), if_pos (by omega)]; rfl
  · unfold gCr; rw [if_neg (by omega), if_neg (by omega), if_pos (by omega)]; rfl
theorem rAz_5 {sz : Nat} {o : Int} (h : gAz sz o) : gRg o 5 = (0, 150) ∧ gCr o 5 = false := by
  have hn := gnm_A h (j := 0) (by decide)
  rw [show o + 0 = o by omega] at hn
  refine ⟨?_, ?_⟩
  · unfold gRg gRn; rw [if_neg (by omega), if_neg (by omega), if_neg (by omega), if_pos (by omega), hn.2.2.1]; rfl
  · unfold gCr; rw [if_neg (by omega), if_neg (by omega), if_neg (by omega), if_pos (by omega), hn.2.2.1]; rfl
theorem rAz_6 {sz : Nat} {o : Int} (h : gAz sz o) : gRg o 6 = (0, 300) ∧ gCr o 6 = false := by
  have hn := gnm_A h (j := 0) (by decide)
  rw [show o + 0 = o by omega] at hn
  refine ⟨?_, ?_⟩
  · unfold gRg gRn; rw [if_neg (by omega), if_neg (by omega), if_neg (by omega), if_pos (by omega), hn.2.2.1]; rfl
  · unfold gCr; rw [if_neg (by omega), if_neg (by omega), if_neg (by omega), if_pos (by omega), hn.2.2.1]; rfl
theorem rAz_7 {sz : Nat} {o : Int} (h : gAz sz o) : gRg o 7 = (0, 8) ∧ gCr o 7 = false := by
  have hn := gnm_A h (j := 0) (by decide)
  rw [show o + 0 = o by omega] at hn
  refine ⟨?_, ?_⟩
  · unfold gRg gRn; rw [if_neg (by omega), if_neg (by omega), if_neg (by omega), if_pos (by omega), hn.2.2.1]; rfl
  · unfold gCr; rw [if_neg (by omega), if_neg (by omega), if_neg (by omega), if_pos (by omega), hn.2.2.1]; rfl
theorem rAAz_1 {sz : Nat} {o : Int} (h : gAz sz o) (k : Int) : gRg (o + 1) k = (-128, 127) ∧ gCr (o + 1) k = false := by
  have hn := gnm_A h (j := 1) (by decide)
  refine ⟨?_, ?_⟩
  · unfold gRg gRn; rw [if_neg (by omega), if_neg (by omega), if_neg (by omega), if_pos (by omega), hn.2.2.1]; rfl
  · unfold gCr; rw [if_neg (by omega), if_neg (by omega), if_neg (by omega), if_pos (by omega), hn.2.2.1]; rfl
theorem rAAz_2 {sz : Nat} {o : Int} (h : gAz sz o) (k : Int) : gRg (o + 2) k = (-2147483648, 2147483647) ∧ gCr (o + 2) k = false := by
  have hn := gnm_A h (j := 2) (by decide)
  refine ⟨?_, ?_⟩
  · unfold gRg gRn; rw [if_neg (by omega), if_neg (by omega), if_neg (by omega), if_pos (by omega), hn.2.2.1]; rfl
  · unfold gCr; rw [if_neg (by omega), if_neg (by omega), if_neg (by omega), if_pos (by omega), hn.2.2.1]; rfl
theorem rAAz_3 {sz : Nat} {o : Int} (h : gAz sz o) (k : Int) : gRg (o + 3) k = (0, 9) ∧ gCr (o + 3) k = true := by
  have hn := gnm_A h (j := 3) (by decide)
  refine ⟨?_, ?_⟩
  · unfold gRg gRn; rw [if_neg (by omega), if_neg (by omega), if_neg (by omega), if_pos (by omega), hn.2.2.1]; rfl
  · unfold gCr; rw [if_neg (by omega), if_neg (by omega), if_neg (by omega), if_pos (by omega), hn.2.2.1]; rfl
theorem rAAz_4 {sz : Nat} {o : Int} (h : gAz sz o) (k : Int) : gRg (o + 4) k = (-2147483648, 2147483647) ∧ gCr (o + 4) k = true := by
  have hn := gnm_A h (j := 4) (by decide)
  refine ⟨?_, ?_⟩
  · unfold gRg gRn; rw [if_neg (by omega), if_neg (by omega), if_neg (by omega), if_pos (by omega), hn.2.2.1]; rfl
  · unfold gCr; rw [if_neg (by omega), if_neg (by omega), if_neg (by omega), if_pos (by omega), hn.2.2.1]; rfl
theorem rAAz_5 {sz : Nat} {o : Int} (h : gAz sz o) (k : Int) : gRg (o + 5) k = (0, 150) ∧ gCr (o + 5) k = false := by
  have hn := gnm_A h (j := 5) (by decide)
  refine ⟨?_, ?_⟩
  · unfold gRg gRn; rw [if_neg (by omega), if_neg (by omega), if_neg (by omega), if_pos (by omega), hn.2.2.1]; rfl
  · unfold gCr; rw [if_neg (by omega), if_neg (by omega), if_neg (by omega), if_pos (by omega), hn.2.2.1]; rfl
theorem rfAz_0 {sz : Nat} {M : gM} (I : gI sz M) (hsz : 206 ≤ sz) {o : Int} (h : gAz sz o) : M o 0 = o + 1 + 1 := by
  have h1 := I o 0 (Azo0 h) (Azosz hsz h)
  have hn := gnm_A h (j := 0) (by decide)
  rw [show o + 0 = o by omega] at hn
  have hr : gRg o 0 = (gnm o + 0 + 2 + (o - gnm o), gnm o + 0 + 2 + (o - gnm o)) := by
    unfold gRg gRn; rw [if_neg (by omega), if_neg (by omega), if_neg (by omega), if_pos (by omega), hn.2.2.1]; rfl
  rw [hr] at h1
  have h2 : gnm o + 0 + 2 + (o - gnm o) ≤ M o 0 ∧ M o 0 ≤ gnm o + 0 + 2 + (o - gnm o) := h1
  omega
theorem rfAz_1 {sz : Nat} {M : gM} (I : gI sz M) (hsz : 206 ≤ sz) {o : Int} (h : gAz sz o) : M o 1 = o + 2 + 1 := by
  have h1 := I o 1 (Azo0 h) (Azosz hsz h)
  have hn := gnm_A h (j := 0) (by decide)
  rw [show o + 0 = o by omega] at hn
  have hr : gRg o 1 = (gnm o + 1 + 2 + (o - gnm o), gnm o + 1 + 2 + (o - gnm o)) := by
    unfold gRg gRn; rw [if_neg (by omega), if_neg (by omega), if_neg (by omega), if_pos (by omega), hn.2.2.1]; rfl
  rw [hr] at h1
  have h2 : gnm o + 1 + 2 + (o - gnm o) ≤ M o 1 ∧ M o 1 ≤ gnm o + 1 + 2 + (o - gnm o) := h1
  omega
theorem rfAz_2 {sz : Nat} {M : gM} (I : gI sz M) (hsz : 206 ≤ sz) {o : Int} (h : gAz sz o) : M o 2 = o + 3 + 1 := by
  have h1 := I o 2 (Azo0 h) (Azosz hsz h)
  have hn := gnm_A h (j := 0) (by decide)
  rw [show o + 0 = o by omega] at hn
  have hr : gRg o 2 = (gnm o + 2 + 2 + (o - gnm o), gnm o + 2 + 2 + (o - gnm o)) := by
    unfold gRg gRn; rw [if_neg (by omega), if_neg (by omega), if_neg (by omega), if_pos (by omega), hn.2.2.1]; rfl
  rw [hr] at h1
  have h2 : gnm o + 2 + 2 + (o - gnm o) ≤ M o 2 ∧ M o 2 ≤ gnm o + 2 + 2 + (o - gnm o) := h1
  omega
theorem rfAz_3 {sz : Nat} {M : gM} (I : gI sz M) (hsz : 206 ≤ sz) {o : Int} (h : gAz sz o) : M o 3 = o + 4 + 1 := by
  have h1 := I o 3 (Azo0 h) (Azosz hsz h)
  have hn := gnm_A h (j := 0) (by decide)
  rw [show o + 0 = o by omega] at hn
  have hr : gRg o 3 = (gnm o + 3 + 2 + (o - gnm o), gnm o + 3 + 2 + (o - gnm o)) := by
    unfold gRg gRn; rw [if_neg (by omega), if_neg (by omega), if_neg (by omega), if_pos (by omega), hn.2.2.1]; rfl
  rw [hr] at h1
  have h2 : gnm o + 3 + 2 + (o - gnm o) ≤ M o 3 ∧ M o 3 ≤ gnm o + 3 + 2 + (o - gnm o) := h1
  omega
theorem rfAz_4 {sz : Nat} {M : gM} (I : gI sz M) (hsz : 206 ≤ sz) {o : Int} (h : gAz sz o) : M o 4 = o + 5 + 1 := by
  have h1 := I o 4 (Azo0 h) (Azosz hsz h)
  have hn := gnm_A h (j := 0) (by decide)
  rw [show o + 0 = o by omega] at hn
  have hr : gRg o 4 = (gnm o + 4 + 2 + (o - gnm o), gnm o + 4 + 2 + (o - gnm o)) := by
    unfold gRg gRn; rw [if_neg (by omega), if_neg (by omega), if_neg (by omega), if_pos (by omega), hn.2.2.1]; rfl
  rw [hr] at h1
  have h2 : gnm o + 4 + 2 + (o - gnm o) ≤ M o 4 ∧ M o 4 ≤ gnm o + 4 + 2 + (o - gnm o) := h1
  omega
theorem gA161 {sz : Nat} {M : gM} (I : gI sz M) (hsz : 206 ≤ sz) {i o : Int} (h0 : 0 ≤ i) (h1 : i < 16) (ho : o = 174 + i) : M 161 i = o + 1 := by
  have h2 := I 161 i (by omega) (by omega)
  have hr : gRg 161 i = (175 + i, 175 + i) := by show (if i < 0 then ((0, 0) : Int × Int) else if i < 16 then _ else _) = _; rw [if_neg (by omega), if_pos h1] <;> (try rfl)
  rw [hr] at h2
  have h3 : 175 + i ≤ M 161 i ∧ M 161 i ≤ 175 + i := h2
  omega
theorem gA210 {sz : Nat} {M : gM} (I : gI sz M) (hsz : sz = 358) {i o : Int} (h0 : 0 ≤ i) (h1 : i < 16) (ho : o = 236 + i) : M 210 i = o + 1 := by
  have h2 := I 210 i (by omega) (by omega)
  have hr : gRg 210 i = (32 + i + 205, 32 + i + 205) := by show (if i < 0 then ((0, 0) : Int × Int) else if i < 16 then _ else _) = _; rw [if_neg (by omega), if_pos h1] <;> (try rfl)
  rw [hr] at h2
  have h3 : 32 + i + 205 ≤ M 210 i ∧ M 210 i ≤ 32 + i + 205 := h2
  omega
theorem gA211 {sz : Nat} {M : gM} (I : gI sz M) (hsz : sz = 358) {i o : Int} (h0 : 0 ≤ i) (h1 : i < 40) (ho : o = 252 + i) : M 211 i = o + 1 := by
  have h2 := I 211 i (by omega) (by omega)
  have hr : gRg 211 i = (48 + i + 205, 48 + i + 205) := by show (if i < 0 then ((0, 0) : Int × Int) else if i < 40 then _ else _) = _; rw [if_neg (by omega), if_pos h1] <;> (try rfl)
  rw [hr] at h2
  have h3 : 48 + i + 205 ≤ M 211 i ∧ M 211 i ≤ 48 + i + 205 := h2
  omega
theorem gA212 {sz : Nat} {M : gM} (I : gI sz M) (hsz : sz = 358) {i o : Int} (h0 : 0 ≤ i) (h1 : i < 11) (ho : o = 292 + 6 * i) : M 212 i = o + 1 := by
  have h2 := I 212 i (by omega) (by omega)
  have hr : gRg 212 i = (88 + 6 * i + 205, 88 + 6 * i + 205) := by show (if i < 0 then ((0, 0) : Int × Int) else if i < 11 then _ else _) = _; rw [if_neg (by omega), if_pos h1] <;> (try rfl)
  rw [hr] at h2
  have h3 : 88 + 6 * i + 205 ≤ M 212 i ∧ M 212 i ≤ 88 + 6 * i + 205 := h2
  omega
theorem AIo0 {o : Int} (h : 292 ≤ o ∧ o ≤ 352 ∧ (o - 292) % 6 = 0) : 0 ≤ o := by omega
theorem AIosz {sz : Nat} {o : Int} (hsz8 : sz = 358) (h : 292 ≤ o ∧ o ≤ 352 ∧ (o - 292) % 6 = 0) : o < (sz : Int) := by omega
theorem lay2_AI {o : Int} (h : 292 ≤ o ∧ o ≤ 352 ∧ (o - 292) % 6 = 0) : glay o = (0, 0) := lay3_Az (sz := 358) (Or.inr ⟨h.1, h.2.1, h.2.2, rfl⟩)
theorem AI1o0 {o : Int} (h : 292 ≤ o ∧ o ≤ 352 ∧ (o - 292) % 6 = 0) : 0 ≤ o + 1 := by omega
theorem AI1osz {sz : Nat} {o : Int} (hsz8 : sz = 358) (h : 292 ≤ o ∧ o ≤ 352 ∧ (o - 292) % 6 = 0) : o + 1 < (sz : Int) := by omega
theorem lay2_AI1 {o : Int} (h : 292 ≤ o ∧ o ≤ 352 ∧ (o - 292) % 6 = 0) : glay (o + 1) = (3, 150) := lay3_Az1 (sz := 358) (Or.inr ⟨h.1, h.2.1, h.2.2, rfl⟩)
theorem AI2o0 {o : Int} (h : 292 ≤ o ∧ o ≤ 352 ∧ (o - 292) % 6 = 0) : 0 ≤ o + 2 := by omega
theorem AI2osz {sz : Nat} {o : Int} (hsz8 : sz = 358) (h : 292 ≤ o ∧ o ≤ 352 ∧ (o - 292) % 6 = 0) : o + 2 < (sz : Int) := by omega
theorem lay2_AI2 {o : Int} (h : 292 ≤ o ∧ o ≤ 352 ∧ (o - 292) % 6 = 0) : glay (o + 2) = (1, 10) := lay3_Az2 (sz := 358) (Or.inr ⟨h.1, h.2.1, h.2.2, rfl⟩)
theorem AI3o0 {o : Int} (h : 292 ≤ o ∧ o ≤ 352 ∧ (o - 292) % 6 = 0) : 0 ≤ o + 3 := by omega
theorem AI3osz {sz : Nat} {o : Int} (hsz8 : sz = 358) (h : 292 ≤ o ∧ o ≤ 352 ∧ (o - 292) % 6 = 0) : o + 3 < (sz : Int) := by omega
theorem lay2_AI3 {o : Int} (h : 292 ≤ o ∧ o ≤ 352 ∧ (o - 292) % 6 = 0) : glay (o + 3) = (1, 8) := lay3_Az3 (sz := 358) (Or.inr ⟨h.1, h.2.1, h.2.2, rfl⟩)
theorem AI4o0 {o : Int} (h : 292 ≤ o ∧ o ≤ 352 ∧ (o - 292) % 6 = 0) : 0 ≤ o + 4 := by omega
theorem AI4osz {sz : Nat} {o : Int} (hsz8 : sz = 358) (h : 292 ≤ o ∧ o ≤ 352 ∧ (o - 292) % 6 = 0) : o + 4 < (sz : Int) := by omega
theorem lay2_AI4 {o : Int} (h : 292 ≤ o ∧ o ≤ 352 ∧ (o - 292) % 6 = 0) : glay (o + 4) = (1, 8) := lay3_Az4 (sz := 358) (Or.inr ⟨h.1, h.2.1, h.2.2, rfl⟩)
theorem AI5o0 {o : Int} (h : 292 ≤ o ∧ o ≤ 352 ∧ (o - 292) % 6 = 0) : 0 ≤ o + 5 := by omega
theorem AI5osz {sz : Nat} {o : Int} (hsz8 : sz = 358) (h : 292 ≤ o ∧ o ≤ 352 ∧ (o - 292) % 6 = 0) : o + 5 < (sz : Int) := by omega
theorem lay2_AI5 {o : Int} (h : 292 ≤ o ∧ o ≤ 352 ∧ (o - 292) % 6 = 0) : glay (o + 5) = (1, 8) := lay3_Az5 (sz := 358) (Or.inr ⟨h.1, h.2.1, h.2.2, rfl⟩)
theorem rAI_5 {o : Int} (h : 292 ≤ o ∧ o ≤ 352 ∧ (o - 292) % 6 = 0) : gRg o 5 = (0, 150) ∧ gCr o 5 = false ∧ gG o 5 = 86 := ⟨(rAz_5 (sz := 358) (Or.inr ⟨h.1, h.2.1, h.2.2, rfl⟩)).1, (rAz_5 (sz := 358) (Or.inr ⟨h.1, h.2.1, h.2.2, rfl⟩)).2, by unfold gG; rw [if_neg (by omega), if_neg (by omega), if_neg (by omega), if_neg (by omega), if_neg (by omega)]; unfold gGi; rw [if_neg (by omega), if_neg (by omega), if_neg (by omega), if_neg (by omega)]⟩
theorem rAI_6 {o : Int} (h : 292 ≤ o ∧ o ≤ 352 ∧ (o - 292) % 6 = 0) : gRg o 6 = (0, 300) ∧ gCr o 6 = false ∧ gG o 6 = 86 := ⟨(rAz_6 (sz := 358) (Or.inr ⟨h.1, h.2.1, h.2.2, rfl⟩)).1, (rAz_6 (sz := 358) (Or.inr ⟨h.1, h.2.1, h.2.2, rfl⟩)).2, by unfold gG; rw [if_neg (by omega), if_neg (by omega), if_neg (by omega), if_neg (by omega), if_neg (by omega)]; unfold gGi; rw [if_neg (by omega), if_neg (by omega), if_neg (by omega), if_neg (by omega)]⟩
theorem rAI_7 {o : Int} (h : 292 ≤ o ∧ o ≤ 352 ∧ (o - 292) % 6 = 0) : gRg o 7 = (0, 8) ∧ gCr o 7 = false ∧ gG o 7 = 86 := ⟨(rAz_7 (sz := 358) (Or.inr ⟨h.1, h.2.1, h.2.2, rfl⟩)).1, (rAz_7 (sz := 358) (Or.inr ⟨h.1, h.2.1, h.2.2, rfl⟩)).2, by unfold gG; rw [if_neg (by omega), if_neg (by omega), if_neg (by omega), if_neg (by omega), if_neg (by omega)]; unfold gGi; rw [if_neg (by omega), if_neg (by omega), if_neg (by omega), if_neg (by omega)]⟩
theorem rAAI_1 {o : Int} (h : 292 ≤ o ∧ o ≤ 352 ∧ (o - 292) % 6 = 0) (k : Int) : gRg (o + 1) k = (-128, 127) ∧ gCr (o + 1) k = false ∧ gG (o + 1) k = 86 := ⟨(rAAz_1 (sz := 358) (Or.inr ⟨h.1, h.2.1, h.2.2, rfl⟩) k).1, (rAAz_1 (sz := 358) (Or.inr ⟨h.1, h.2.1, h.2.2, rfl⟩) k).2, by unfold gG; rw [if_neg (by omega), if_neg (by omega), if_neg (by omega), if_neg (by omega), if_neg (by omega)]; unfold gGi; rw [if_neg (by omega), if_neg (by omega), if_neg (by omega), if_neg (by omega)]⟩
theorem rAAI_2 {o : Int} (h : 292 ≤ o ∧ o ≤ 352 ∧ (o - 292) % 6 = 0) (k : Int) : gRg (o + 2) k = (-2147483648, 2147483647) ∧ gCr (o + 2) k = false ∧ gG (o + 2) k = 86 := ⟨(rAAz_2 (sz := 358) (Or.inr ⟨h.1, h.2.1, h.2.2, rfl⟩) k).1, (rAAz_2 (sz := 358) (Or.inr ⟨h.1, h.2.1, h.2.2, rfl⟩) k).2, by unfold gG; rw [if_neg (by omega), if_neg (by omega), if_neg (by omega), if_neg (by omega), if_neg (by omega)]; unfold gGi; rw [if_neg (by omega), if_neg (by omega), if_neg (by omega), if_neg (by omega)]⟩
theorem rAAI_3 {o : Int} (h : 292 ≤ o ∧ o ≤ 352 ∧ (o - 292) % 6 = 0) (k : Int) : gRg (o + 3) k = (0, 9) ∧ gCr (o + 3) k = true ∧ gG (o + 3) k = 86 := ⟨(rAAz_3 (sz := 358) (Or.inr ⟨h.1, h.2.1, h.2.2, rfl⟩) k).1, (rAAz_3 (sz := 358) (Or.inr ⟨h.1, h.2.1, h.2.2, rfl⟩) k).2, by unfold gG; rw [if_neg (by omega), if_neg (by omega), if_neg (by omega), if_neg (by omega), if_neg (by omega)]; unfold gGi; rw [if_neg (by omega), if_neg (by omega), if_neg (by omega), if_neg (by omega)]⟩
theorem rAAI_4 {o : Int} (h : 292 ≤ o ∧ o ≤ 352 ∧ (o - 292) % 6 = 0) (k : Int) : gRg (o + 4) k = (-2147483648, 2147483647) ∧ gCr (o + 4) k = true ∧ gG (o + 4) k = 86 := ⟨(rAAz_4 (sz := 358) (Or.inr ⟨h.1, h.2.1, h.2.2, rfl⟩) k).1, (rAAz_4 (sz := 358) (Or.inr ⟨h.1, h.2.1, h.2.2, rfl⟩) k).2, by unfold gG; rw [if_neg (by omega), if_neg (by omega), if_neg (by omega), if_neg (by omega), if_neg (by omega)]; unfold gGi; rw [if_neg (by omega), if_neg (by omega), if_neg (by omega), if_neg (by omega)]⟩
theorem rAAI_5 {o : Int} (h : 292 ≤ o ∧ o ≤ 352 ∧ (o - 292) % 6 = 0) (k : Int) : gRg (o + 5) k = (0, 150) ∧ gCr (o + 5) k = false ∧ gG (o + 5) k = 86 := ⟨(rAAz_5 (sz := 358) (Or.inr ⟨h.1, h.2.1, h.2.2, rfl⟩) k).1, (rAAz_5 (sz := 358) (Or.inr ⟨h.1, h.2.1, h.2.2, rfl⟩) k).2, by unfold gG; rw [if_neg (by omega), if_neg (by omega), if_neg (by omega), if_neg (by omega), if_neg (by omega)]; unfold gGi; rw [if_neg (by omega), if_neg (by omega), if_neg (by omega), if_neg (by omega)]⟩
theorem rfAI_0 {sz : Nat} {M : gM} (I : gI sz M) (hsz8 : sz = 358) {o : Int} (h : 292 ≤ o ∧ o ≤ 352 ∧ (o - 292) % 6 = 0) : M o 0 = o + 1 + 1 := rfAz_0 I (by omega) (Or.inr ⟨h.1, h.2.1, h.2.2, hsz8⟩)
theorem rfAI_1 {sz : Nat} {M : gM} (I : gI sz M) (hsz8 : sz = 358) {o : Int} (h : 292 ≤ o ∧ o ≤ 352 ∧ (o - 292) % 6 = 0) : M o 1 = o + 2 + 1 := rfAz_1 I (by omega) (Or.inr ⟨h.1, h.2.1, h.2.2, hsz8⟩)
theorem rfAI_2 {sz : Nat} {M : gM} (I : gI sz M) (hsz8 : sz = 358) {o : Int} (h : 292 ≤ o ∧ o ≤ 352 ∧ (o - 292) % 6 = 0) : M o 2 = o + 3 + 1 := rfAz_2 I (by omega) (Or.inr ⟨h.1, h.2.1, h.2.2, hsz8⟩)
theorem rfAI_3 {sz : Nat} {M : gM} (I : gI sz M) (hsz8 : sz = 358) {o : Int} (h : 292 ≤ o ∧ o ≤ 352 ∧ (o - 292) % 6 = 0) : M o 3 = o + 4 + 1 := rfAz_3 I (by omega) (Or.inr ⟨h.1, h.2.1, h.2.2, hsz8⟩)
theorem rfAI_4 {sz : Nat} {M : gM} (I : gI sz M) (hsz8 : sz = 358) {o : Int} (h : 292 ≤ o ∧ o ≤ 352 ∧ (o - 292) % 6 = 0) : M o 4 = o + 5 + 1 := rfAz_4 I (by omega) (Or.inr ⟨h.1, h.2.1, h.2.2, hsz8⟩)
