theorem g_lawret {p : Program} {e : Env} {s : State} {m : MethodId} {below : List Frame} {meth : Method} {cd : Code} {l : Launch} {D : va_G} {cA : Nat → ClassId} {b Ln : Nat} {xs : Nat → Int32} (X : gCx p s m #[Value.ref b] meth cd s.heap.size D cA "ParishUnionLaw" code 4) (hr : meth.sig.returnType = ret) {cells slots : Nat} {M : gM} {sz pc : Nat} {Lv : List (Nat × Value)} (h1 : cells ≤ 349274) (h2 : slots ≤ 8054428) (hd : decode code pc = .ok (.ireturn, 1)) : G p l e room_1 s m #[Value.ref b] below meth cd s.heap.size D cA 4 (lw_Z below #[Value.ref b] s) cells slots M sz pc Lv [gJ 1] := by
  intro H locs ls hl hW hS
  refine va_forget (fun q hq => hS.2.2 q hq) ?_
  refine W.widen h1 h2 ?_
  rw [show gJ 1 = Value.int 1 from congrArg Value.int (by decide +kernel : Int32.ofInt 1 = 1)]
  exact lw_ret X.1 X.2.1 hr X.2.2.2.2.2.1 hd
theorem gi_nat {n : Nat} (h : n ≤ 3584) : Int32.ofNat n = Int32.ofInt (n : Int) := rfl
theorem gi_and63 (a : Int) : ∃ z : Int, Int32.ofInt a &&& Int32.ofInt 63 = Int32.ofInt z ∧ 0 ≤ z ∧ z ≤ 63 := by
  obtain ⟨j, hj, e⟩ := pk_andE (Int32.ofInt a) (m := Int32.ofInt 63) 6 (by decide +kernel)
  have hj2 : j < 64 := hj
  exact ⟨j, by rw [e, ← Int32.toInt_inj, nI_toInt (by omega), gi_toInt ⟨by omega, by omega⟩], by omega, by omega⟩
theorem dL_law_18 : decode code 18 = .ok (.iload_n 3, 1) := dc_29 (by decide +kernel)
theorem dL_law_19 : decode code 19 = .ok (.aload_n 0, 1) := dc_42 (by decide +kernel)
theorem dL_law_20 : decode code 20 = .ok (.arraylength, 1) := dc_190 (by decide +kernel)
theorem dL_law_21 : decode code 21 = .ok (.bipush 7, 2) := dc_16 7 7 (by decide +kernel)
theorem dL_law_23 : decode code 23 = .ok (.isub, 1) := dc_100 (by decide +kernel)
theorem dL_law_24 : decode code 24 = .ok (.if_icmp .gt 1974, 3) := dc_163 7 182 1974 (by decide +kernel)
theorem dL_law_1998 : decode code 1998 = .ok (.iconst 1, 1) := dc_4 (by decide +kernel)
theorem dL_law_1999 : decode code 1999 = .ok (.ireturn, 1) := dc_172 (by decide +kernel)
theorem dL_law_27 : decode code 27 = .ok (.aload_n 0, 1) := dc_42 (by decide +kernel)
theorem dL_law_28 : decode code 28 = .ok (.iload_n 3, 1) := dc_29 (by decide +kernel)
theorem dL_law_29 : decode code 29 = .ok (.iaload, 1) := dc_46 (by decide +kernel)
theorem dL_law_30 : decode code 30 = .ok (.bipush 63, 2) := dc_16 63 63 (by decide +kernel)
theorem dL_law_32 : decode code 32 = .ok (.iand, 1) := dc_126 (by decide +kernel)
theorem dL_law_1992 : decode code 1992 = .ok (.iinc 3 7, 3) := dc_132 3 7 7 (by decide +kernel)
theorem dL_law_1995 : decode code 1995 = .ok (.goto (-1977), 3) := dc_167 248 71 (-1977) (by decide +kernel)
theorem dL_law_33 : decode code 33 = .ok (.tableswitch 1959 0 45 #[199, 232, 275, 308, 371, 404, 511, 590, 659, 708, 741, 774, 827, 880, 943, 966, 999, 1032, 1065, 1108, 1131, 1154, 1187, 1210, 1243, 1276, 1299, 1332, 1375, 1418, 1461, 1514, 1557, 1580, 1593, 1626, 1659, 1682, 1725, 1798, 1821, 1854, 1887, 1910, 1923, 1936], 199) := by decide +kernel
set_option maxRecDepth 100000 in
set_option maxHeartbeats 4000000 in
theorem law_loop {p : Program} {e : Env} {s : State} {m : MethodId} {below : List Frame} {meth : Method} {cd : Code} {l : Launch} {D : va_G} {cA : Nat → ClassId} {b Ln : Nat} {xs : Nat → Int32} (X : gCx p s m #[Value.ref b] meth cd s.heap.size D cA "ParishUnionLaw" code 4) (hr : meth.sig.returnType = ret) (hb : b < s.heap.size ∧ va_X b Ln xs s s.heap) (hLn : Ln ≤ 3584) : ∀ (N : Nat) (i : Int) (sz cs ss : Nat) (M : gM), lwI sz cs ss M → 0 ≤ i → i ≤ 3584 → (3584 - i).toNat < N → G p l e room_1 s m #[Value.ref b] below meth cd s.heap.size D cA 4 (lw_Z below #[Value.ref b] s) cs ss M sz 18 [(3, gJ i), (2, gA s.heap.size 190), (1, gA s.heap.size 0), (0, .ref b)] [] := by
  intro N
  induction N with
  | zero => intro i sz cs ss M L h0 h1 hm; exfalso; omega
  | succ N ih =>
    intro i sz cs ss M L h0 h1 hm
    have hRm := lwK.room L.2.2.2.2.2.2.1
    obtain ⟨v0, e0, r0⟩ : ∃ z : Int, xs i.toNat = Int32.ofInt z ∧ (-2147483648 ≤ z ∧ z ≤ 2147483647) := ⟨_, gi_of _, gi_rg _⟩
    refine g_iload_n (n := 19) X 0 dL_law_18 rfl rfl rfl ?_
    refine g_aload_n (n := 20) X 3 dL_law_19 rfl rfl rfl ?_
    refine g_scrlen (n := 21) (z := (Ln : Int)) X hb (gi_nat hLn) dL_law_20 rfl ?_
    refine g_bipush (n := 23) X dL_law_21 (by decide +kernel) rfl ?_
    refine g_isub (n := 24) (z := (Ln : Int) - 7) X dL_law_23 rfl rfl ?_
    refine g_icmp_gt (n := 27) (tgt := 1998) X dL_law_24 (by decide) (by omega) (by omega) rfl (fun h => ?_) (fun h => ?_)
    · refine g_iconst (n := 1999) X dL_law_1998 rfl ?_
      exact g_lawret (b := b) (Ln := Ln) (xs := xs) X hr (by omega) (by omega) dL_law_1999
    refine g_aload_n (n := 28) X 3 dL_law_27 rfl rfl rfl ?_
    refine g_iload_n (n := 29) X 0 dL_law_28 rfl rfl rfl ?_
    refine g_scrld (n := 30) (z := v0) X hb (by omega) (by omega) (by omega) dL_law_29 rfl e0 ?_
    refine g_bipush (n := 32) X dL_law_30 (by decide +kernel) rfl ?_
    obtain ⟨jj, hj, hj0, hj1⟩ := gi_and63 v0
    refine g_iandE (n := 33) (z := jj) X dL_law_32 hj rfl ?_
    have kk : ∀ (sz cs ss : Nat) (M1 : gM), lwI sz cs ss M1 → G p l e room_1 s m #[Value.ref b] below meth cd s.heap.size D cA 4 (lw_Z below #[Value.ref b] s) cs ss M1 sz 1992 [(3, gJ i), (2, gA s.heap.size 190), (1, gA s.heap.size 0), (0, .ref b)] [] := by
      intro sz1 cs1 ss1 M1 L1
      refine g_iinc (n := 1995) (w := i + 7) (L' := [(3, gJ (i + 7)), (2, gA s.heap.size 190), (1, gA s.heap.size 0), (0, .ref b)]) X 0 dL_law_1992 rfl rfl (by decide) rfl rfl ?_
      refine g_goto (tgt := 18) X dL_law_1995 (by decide) ?_
      exact ih (i + 7) sz1 cs1 ss1 M1 L1 (by omega) (by omega) (by omega)
    by_cases q0 : jj = 0
    · refine g_tableIn (tgt := 232) X 0 dL_law_33 (by omega) (by omega) (by omega) (by omega) rfl (by decide) ?_
      exact law_case_0 X hr hb hLn L i (by omega) kk
    by_cases q1 : jj = 1
    · refine g_tableIn (tgt := 265) X 1 dL_law_33 (by omega) (by omega) (by omega) (by omega) rfl (by decide) ?_
      exact law_case_1 X hr hb hLn L i (by omega) kk
    by_cases q2 : jj = 2
    · refine g_tableIn (tgt := 308) X 2 dL_law_33 (by omega) (by omega) (by omega) (by omega) rfl (by decide) ?_
      exact law_case_2 X hr hb hLn L i (by omega) kk
    by_cases q3 : jj = 3
    · refine g_tableIn (tgt := 341) X 3 dL_law_33 (by omega) (by omega) (by omega) (by omega) rfl (by decide) ?_
      exact law_case_3 X hr hb hLn L i (by omega) kk
    by_cases q4 : jj = 4
    · refine g_tableIn (tgt := 404) X 4 dL_law_33 (by omega) (by omega) (by omega) (by omega) rfl (by decide) ?_
      exact law_case_4 X hr hb hLn L i (by omega) kk
    by_cases q5 : jj = 5
    · refine g_tableIn (tgt := 437) X 5 dL_law_33 (by omega) (by omega) (by omega) (by omega) rfl (by decide) ?_
      exact law_case_5 X hr hb hLn L i (by omega) kk
    by_cases q6 : jj = 6
    · refine g_tableIn (tgt := 544) X 6 dL_law_33 (by omega) (by omega) (by omega) (by omega) rfl (by decide) ?_
      exact law_case_6 X hr hb hLn L i (by omega) kk
    by_cases q7 : jj = 7
    · refine g_tableIn (tgt := 623) X 7 dL_law_33 (by omega) (by omega) (by omega) (by omega) rfl (by decide) ?_
      exact law_case_7 X hr hb hLn L i (by omega) kk
    by_cases q8 : jj = 8
    · refine g_tableIn (tgt := 692) X 8 dL_law_33 (by omega) (by omega) (by omega) (by omega) rfl (by decide) ?_
      exact law_case_8 X hr hb hLn L i (by omega) kk
    by_cases q9 : jj = 9
    · refine g_tableIn (tgt := 741) X 9 dL_law_33 (by omega) (by omega) (by omega) (by omega) rfl (by decide) ?_
      exact law_case_9 X hr hb hLn L i (by omega) kk
    by_cases q10 : jj = 10
    · refine g_tableIn (tgt := 774) X 10 dL_law_33 (by omega) (by omega) (by omega) (by omega) rfl (by decide) ?_
      exact law_case_10 X hr hb hLn L i (by omega) kk
    by_cases q11 : jj = 11
    · refine g_tableIn (tgt := 807) X 11 dL_law_33 (by omega) (by omega) (by omega) (by omega) rfl (by decide) ?_
      exact law_case_11 X hr hb hLn L i (by omega) kk
    by_cases q12 : jj = 12
    · refine g_tableIn (tgt := 860) X 12 dL_law_33 (by omega) (by omega) (by omega) (by omega) rfl (by decide) ?_
      exact law_case_12 X hr hb hLn L i (by omega) kk
    by_cases q13 : jj = 13
    · refine g_tableIn (tgt := 913) X 13 dL_law_33 (by omega) (by omega) (by omega) (by omega) rfl (by decide) ?_
      exact law_case_13 X hr hb hLn L i (by omega) kk
    by_cases q14 : jj = 14
    · refine g_tableIn (tgt := 976) X 14 dL_law_33 (by omega) (by omega) (by omega) (by omega) rfl (by decide) ?_
      exact law_case_14 X hr hb hLn L i (by omega) kk
    by_cases q15 : jj = 15
    · refine g_tableIn (tgt := 999) X 15 dL_law_33 (by omega) (by omega) (by omega) (by omega) rfl (by decide) ?_
      exact law_case_15 X hr hb hLn L i (by omega) kk
    by_cases q16 : jj = 16
    · refine g_tableIn (tgt := 1032) X 16 dL_law_33 (by omega) (by omega) (by omega) (by omega) rfl (by decide) ?_
      exact law_case_16 X hr hb hLn L i (by omega) kk
    by_cases q17 : jj = 17
    · refine g_tableIn (tgt := 1065) X 17 dL_law_33 (by omega) (by omega) (by omega) (by omega) rfl (by decide) ?_
      exact law_case_17 X hr hb hLn L i (by omega) kk
    by_cases q18 : jj = 18
    · refine g_tableIn (tgt := 1098) X 18 dL_law_33 (by omega) (by omega) (by omega) (by omega) rfl (by decide) ?_
      exact law_case_18 X hr hb hLn L i (by omega) kk
    by_cases q19 : jj = 19
    · refine g_tableIn (tgt := 1141) X 19 dL_law_33 (by omega) (by omega) (by omega) (by omega) rfl (by decide) ?_
      exact law_case_19 X hr hb hLn L i (by omega) kk
    by_cases q20 : jj = 20
    · refine g_tableIn (tgt := 1164) X 20 dL_law_33 (by omega) (by omega) (by omega) (by omega) rfl (by decide) ?_
      exact law_case_20 X hr hb hLn L i (by omega) kk
    by_cases q21 : jj = 21
    · refine g_tableIn (tgt := 1187) X 21 dL_law_33 (by omega) (by omega) (by omega) (by omega) rfl (by decide) ?_
      exact law_case_21 X hr hb hLn L i (by omega) kk
    by_cases q22 : jj = 22
    · refine g_tableIn (tgt := 1220) X 22 dL_law_33 (by omega) (by omega) (by omega) (by omega) rfl (by decide) ?_
      exact law_case_22 X hr hb hLn L i (by omega) kk
    by_cases q23 : jj = 23
    · refine g_tableIn (tgt := 1243) X 23 dL_law_33 (by omega) (by omega) (by omega) (by omega) rfl (by decide) ?_
      exact law_case_23 X hr hb hLn L i (by omega) kk
    by_cases q24 : jj = 24
    · refine g_tableIn (tgt := 1276) X 24 dL_law_33 (by omega) (by omega) (by omega) (by omega) rfl (by decide) ?_
      exact law_case_24 X hr hb hLn L i (by omega) kk
    by_cases q25 : jj = 25
    · refine g_tableIn (tgt := 1309) X 25 dL_law_33 (by omega) (by omega) (by omega) (by omega) rfl (by decide) ?_
      exact law_case_25 X hr hb hLn L i (by omega) kk
    by_cases q26 : jj = 26
    · refine g_tableIn (tgt := 1332) X 26 dL_law_33 (by omega) (by omega) (by omega) (by omega) rfl (by decide) ?_
      exact law_case_26 X hr hb hLn L i (by omega) kk
    by_cases q27 : jj = 27
    · refine g_tableIn (tgt := 1365) X 27 dL_law_33 (by omega) (by omega) (by omega) (by omega) rfl (by decide) ?_
      exact law_case_27 X hr hb hLn L i (by omega) kk
    by_cases q28 : jj = 28
    · refine g_tableIn (tgt := 1408) X 28 dL_law_33 (by omega) (by omega) (by omega) (by omega) rfl (by decide) ?_
      exact law_case_28 X hr hb hLn L i (by omega) kk
    by_cases q29 : jj = 29
    · refine g_tableIn (tgt := 1451) X 29 dL_law_33 (by omega) (by omega) (by omega) (by omega) rfl (by decide) ?_
      exact law_case_29 X hr hb hLn L i (by omega) kk
    by_cases q30 : jj = 30
    · refine g_tableIn (tgt := 1494) X 30 dL_law_33 (by omega) (by omega) (by omega) (by omega) rfl (by decide) ?_
      exact law_case_30 X hr hb hLn L i (by omega) kk
    by_cases q31 : jj = 31
    · refine g_tableIn (tgt := 1547) X 31 dL_law_33 (by omega) (by omega) (by omega) (by omega) rfl (by decide) ?_
      exact law_case_31 X hr hb hLn L i (by omega) kk
    by_cases q32 : jj = 32
    · refine g_tableIn (tgt := 1590) X 32 dL_law_33 (by omega) (by omega) (by omega) (by omega) rfl (by decide) ?_
      exact law_case_32 X hr hb hLn L i (by omega) kk
    by_cases q33 : jj = 33
    · refine g_tableIn (tgt := 1613) X 33 dL_law_33 (by omega) (by omega) (by omega) (by omega) rfl (by decide) ?_
      exact law_case_33 X hr hb hLn L i (by omega) kk
    by_cases q34 : jj = 34
    · refine g_tableIn (tgt := 1626) X 34 dL_law_33 (by omega) (by omega) (by omega) (by omega) rfl (by decide) ?_
      exact law_case_34 X hr hb hLn L i (by omega) kk
    by_cases q35 : jj = 35
    · refine g_tableIn (tgt := 1659) X 35 dL_law_33 (by omega) (by omega) (by omega) (by omega) rfl (by decide) ?_
      exact law_case_35 X hr hb hLn L i (by omega) kk
    by_cases q36 : jj = 36
    · refine g_tableIn (tgt := 1692) X 36 dL_law_33 (by omega) (by omega) (by omega) (by omega) rfl (by decide) ?_
      exact law_case_36 X hr hb hLn L i (by omega) kk
    by_cases q37 : jj = 37
    · refine g_tableIn (tgt := 1715) X 37 dL_law_33 (by omega) (by omega) (by omega) (by omega) rfl (by decide) ?_
      exact law_case_37 X hr hb hLn L i (by omega) kk
    by_cases q38 : jj = 38
    · refine g_tableIn (tgt := 1758) X 38 dL_law_33 (by omega) (by omega) (by omega) (by omega) rfl (by decide) ?_
      exact law_case_38 X hr hb hLn L i (by omega) kk
    by_cases q39 : jj = 39
    · refine g_tableIn (tgt := 1831) X 39 dL_law_33 (by omega) (by omega) (by omega) (by omega) rfl (by decide) ?_
      exact law_case_39 X hr hb hLn L i (by omega) kk
    by_cases q40 : jj = 40
    · refine g_tableIn (tgt := 1854) X 40 dL_law_33 (by omega) (by omega) (by omega) (by omega) rfl (by decide) ?_
      exact law_case_40 X hr hb hLn L i (by omega) kk
    by_cases q41 : jj = 41
    · refine g_tableIn (tgt := 1887) X 41 dL_law_33 (by omega) (by omega) (by omega) (by omega) rfl (by decide) ?_
      exact law_case_41 X hr hb hLn L i (by omega) kk
    by_cases q42 : jj = 42
    · refine g_tableIn (tgt := 1920) X 42 dL_law_33 (by omega) (by omega) (by omega) (by omega) rfl (by decide) ?_
      exact law_case_42 X hr hb hLn L i (by omega) kk
    by_cases q43 : jj = 43
    · refine g_tableIn (tgt := 1943) X 43 dL_law_33 (by omega) (by omega) (by omega) (by omega) rfl (by decide) ?_
      exact law_case_43 X hr hb hLn L i (by omega) kk
    by_cases q44 : jj = 44
    · refine g_tableIn (tgt := 1956) X 44 dL_law_33 (by omega) (by omega) (by omega) (by omega) rfl (by decide) ?_
      exact law_case_44 X hr hb hLn L i (by omega) kk
    by_cases q45 : jj = 45
    · refine g_tableIn (tgt := 1969) X 45 dL_law_33 (by omega) (by omega) (by omega) (by omega) rfl (by decide) ?_
      exact law_case_45 X hr hb hLn L i (by omega) kk
    refine g_tableOut (tgt := 1992) X dL_law_33 (by omega) (by omega) (by decide) ?_
    exact kk _ _ _ _ L
