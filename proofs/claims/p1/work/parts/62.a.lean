theorem g_lawret0 {p : Program} {e : Env} {s : State} {m : MethodId} {below : List Frame} {meth : Method} {c : Code} {l : Launch} {D : va_G} {cA : Nat → ClassId} {b : Nat} (X : gCx p s m #[Value.ref b] meth c s.heap.size D cA "ParishUnionLaw" code 4) (hr : meth.sig.returnType = ret) {cells slots : Nat} {M : gM} {sz pc : Nat} {Lv : List (Nat × Value)} (h1 : cells ≤ 600000) (h2 : slots ≤ 7302249) (hd : decode code pc = .ok (.ireturn, 1)) : G p l e room_1 s m #[Value.ref b] below meth c s.heap.size D cA 4 (lw_Z below #[Value.ref b] s) cells slots M sz pc Lv [gJ 1] := by
  intro H locs ls hl hW hS
  refine va_forget (fun q hq => hS.2.2 q hq) ?_
  refine W.widen h1 h2 ?_
  rw [show gJ 1 = Value.int 1 from congrArg Value.int (by decide +kernel : Int32.ofInt 1 = 1)]
  exact lw_ret X.1 X.2.1 hr X.2.2.2.2.2.1 hd
theorem gi_nat {n : Nat} (h : n ≤ 7) : Int32.ofNat n = Int32.ofInt (n : Int) := by
  have hc : n = 0 ∨ n = 1 ∨ n = 2 ∨ n = 3 ∨ n = 4 ∨ n = 5 ∨ n = 6 ∨ n = 7 := by omega
  rcases hc with rfl | rfl | rfl | rfl | rfl | rfl | rfl | rfl <;> decide +kernel
theorem gi_and63 (a : Int) : ∃ z : Int, Int32.ofInt a &&& Int32.ofInt 63 = Int32.ofInt z ∧ 0 ≤ z ∧ z ≤ 63 := by
  obtain ⟨j, hj, e⟩ := pk_andE (Int32.ofInt a) (m := Int32.ofInt 63) 6 (by decide +kernel)
  have hj2 : j < 64 := hj
  exact ⟨j, by rw [e, ← Int32.toInt_inj, nI_toInt (by omega), gi_toInt ⟨by omega, by omega⟩], by omega, by omega⟩
theorem dL_law_27 : decode code 27 = .ok (.aload_n 0, 1) := by decide +kernel
theorem dL_law_28 : decode code 28 = .ok (.iload_n 3, 1) := by decide +kernel
theorem dL_law_29 : decode code 29 = .ok (.iaload, 1) := by decide +kernel
theorem dL_law_30 : decode code 30 = .ok (.bipush 63, 2) := by decide +kernel
theorem dL_law_32 : decode code 32 = .ok (.iand, 1) := by decide +kernel
theorem dL_law_33 : decode code 33 = .ok (.tableswitch 1959 0 45 #[199, 232, 275, 308, 371, 404, 511, 590, 659, 708, 741, 774, 827, 880, 943, 966, 999, 1032, 1065, 1108, 1131, 1154, 1187, 1210, 1243, 1276, 1299, 1332, 1375, 1418, 1461, 1514, 1557, 1580, 1593, 1626, 1659, 1682, 1725, 1798, 1821, 1854, 1887, 1910, 1923, 1936], 199) := by decide +kernel
theorem dL_law_0 : decode code 0 = .ok (.new 7, 3) := by decide +kernel
theorem kw_1_21 : (Jvm.Cond.classLink "ParishUnionLaw" (7 : Nat) "ParishUnion") ∈ gT := gT_of (tb_1 _ (List.mem_of_getElem? (i := 21) rfl)) rfl
theorem dL_law_3 : decode code 3 = .ok (.dup, 1) := by decide +kernel
theorem dL_law_4 : decode code 4 = .ok (.invokespecial 9, 3) := by decide +kernel
theorem kw_1_23 : (Jvm.Cond.methodLink "ParishUnionLaw" (9 : Nat) ({ cls := "ParishUnion", name := "<init>", desc := "()V" } : Jvm.MethodName)) ∈ gT := gT_of (tb_1 _ (List.mem_of_getElem? (i := 23) rfl)) rfl
theorem kw_1_25 : (Jvm.Cond.code ({ cls := "ParishUnion", name := "<init>", desc := "()V" } : Jvm.MethodName) prog_1_method_1_code (2 : Nat) (Option.none : Option Jvm.ClassFile.FieldType)) ∈ gT := gT_of (tb_1 _ (List.mem_of_getElem? (i := 25) rfl)) rfl
theorem okX11_init : gQok yX11_init cX11_init 2 (Option.none : Option Jvm.ClassFile.FieldType) 0 := ⟨kw_1_25, kw_1_1, by decide +kernel, by decide +kernel, by decide +kernel⟩
theorem kw_1_24 : (Jvm.Cond.instanceMethod ({ cls := "ParishUnion", name := "<init>", desc := "()V" } : Jvm.MethodName)) ∈ gT := gT_of (tb_1 _ (List.mem_of_getElem? (i := 24) rfl)) rfl
theorem dL_law_7 : decode code 7 = .ok (.astore_n 1, 1) := by decide +kernel
theorem dL_law_8 : decode code 8 = .ok (.new 10, 3) := by decide +kernel
theorem kw_6_21 : (Jvm.Cond.classLink "ParishUnionLaw" (10 : Nat) "ParishUnionModel") ∈ gT := gT_of (tb_6 _ (List.mem_of_getElem? (i := 21) rfl)) rfl
theorem dL_law_11 : decode code 11 = .ok (.dup, 1) := by decide +kernel
theorem dL_law_12 : decode code 12 = .ok (.invokespecial 12, 3) := by decide +kernel
theorem kw_6_23 : (Jvm.Cond.methodLink "ParishUnionLaw" (12 : Nat) ({ cls := "ParishUnionModel", name := "<init>", desc := "()V" } : Jvm.MethodName)) ∈ gT := gT_of (tb_6 _ (List.mem_of_getElem? (i := 23) rfl)) rfl
theorem kw_6_25 : (Jvm.Cond.code ({ cls := "ParishUnionModel", name := "<init>", desc := "()V" } : Jvm.MethodName) prog_14_method_1_code (2 : Nat) (Option.none : Option Jvm.ClassFile.FieldType)) ∈ gT := gT_of (tb_6 _ (List.mem_of_getElem? (i := 25) rfl)) rfl
theorem okX12_init : gQok yX12_init cX12_init 2 (Option.none : Option Jvm.ClassFile.FieldType) 0 := ⟨kw_6_25, kw_1_13, by decide +kernel, by decide +kernel, by decide +kernel⟩
theorem kw_6_24 : (Jvm.Cond.instanceMethod ({ cls := "ParishUnionModel", name := "<init>", desc := "()V" } : Jvm.MethodName)) ∈ gT := gT_of (tb_6 _ (List.mem_of_getElem? (i := 24) rfl)) rfl
theorem dL_law_15 : decode code 15 = .ok (.astore_n 2, 1) := by decide +kernel
theorem dL_law_16 : decode code 16 = .ok (.iconst 0, 1) := by decide +kernel
theorem dL_law_17 : decode code 17 = .ok (.istore_n 3, 1) := by decide +kernel
set_option maxRecDepth 100000 in
set_option maxHeartbeats 4000000 in
theorem law_loop {p : Program} {e : Env} {s : State} {m : MethodId} {below : List Frame} {meth : Method} {c : Code} {l : Launch} {D : va_G} {cA : Nat → ClassId} {b : Nat} {xs : Nat → Int32} (X : gCx p s m #[Value.ref b] meth c s.heap.size D cA "ParishUnionLaw" code 4) (hr : meth.sig.returnType = ret) {Ln : Nat} (hL : Ln ≤ 7) (hb : b < s.heap.size ∧ va_X b Ln xs s s.heap) {M : gM} (hFr : gFr M) : G p l e room_1 s m #[Value.ref b] below meth c s.heap.size D cA 4 (lw_Z below #[Value.ref b] s) 206 87467 M 206 18 [(3, gJ 0), (2, gA s.heap.size 190), (1, gA s.heap.size 0), (0, .ref b)] [] := by
  obtain ⟨v0, e0, r0⟩ : ∃ z : Int, xs 0 = Int32.ofInt z ∧ -2147483648 ≤ z ∧ z ≤ 2147483647 := ⟨_, gi_of _, gi_rg _⟩
  refine g_iload_n (n := 19) X 0 dL_law_18 rfl rfl rfl ?_
  refine g_aload_n (n := 20) X 3 dL_law_19 rfl rfl rfl ?_
  refine g_scrlen (n := 21) (z := (Ln : Int)) X hb (gi_nat hL) dL_law_20 rfl ?_
  refine g_bipush (n := 23) X dL_law_21 (by decide +kernel) rfl ?_
  refine g_isub (n := 24) (z := (Ln : Int) - 7) X dL_law_23 rfl rfl ?_
  refine g_icmp_gt (n := 27) (tgt := 1998) X dL_law_24 (by decide) (by omega) (by omega) rfl (fun h => ?_) (fun h => ?_)
  · refine g_iconst (n := 1999) X dL_law_1998 rfl ?_
    exact g_lawret0 X hr (by omega) (by omega) dL_law_1999
  obtain rfl : Ln = 7 := by omega
  refine g_aload_n (n := 28) X 3 dL_law_27 rfl rfl rfl ?_
  refine g_iload_n (n := 29) X 0 dL_law_28 rfl rfl rfl ?_
  refine g_scrld (n := 30) (z := v0) X hb (by omega) (by omega) (by omega) dL_law_29 rfl e0 ?_
  refine g_bipush (n := 32) X dL_law_30 (by decide +kernel) rfl ?_
  obtain ⟨jj, hj, hj0, hj1⟩ := gi_and63 v0
  refine g_iandE (n := 33) (z := jj) X dL_law_32 hj rfl ?_
  by_cases q0 : jj = 0
  · refine g_tableIn (tgt := 232) X 0 dL_law_33 (by omega) (by omega) (by omega) (by omega) rfl (by decide) ?_
    exact law_case_0 X hr hb hFr
  by_cases q1 : jj = 1
  · refine g_tableIn (tgt := 265) X 1 dL_law_33 (by omega) (by omega) (by omega) (by omega) rfl (by decide) ?_
    exact law_case_1 X hr hb hFr
  by_cases q2 : jj = 2
  · refine g_tableIn (tgt := 308) X 2 dL_law_33 (by omega) (by omega) (by omega) (by omega) rfl (by decide) ?_
    exact law_case_2 X hr hb hFr
  by_cases q3 : jj = 3
  · refine g_tableIn (tgt := 341) X 3 dL_law_33 (by omega) (by omega) (by omega) (by omega) rfl (by decide) ?_
    exact law_case_3 X hr hb hFr
  by_cases q4 : jj = 4
  · refine g_tableIn (tgt := 404) X 4 dL_law_33 (by omega) (by omega) (by omega) (by omega) rfl (by decide) ?_
    exact law_case_4 X hr hb hFr
  by_cases q5 : jj = 5
  · refine g_tableIn (tgt := 437) X 5 dL_law_33 (by omega) (by omega) (by omega) (by omega) rfl (by decide) ?_
    exact law_case_5 X hr hb hFr
  by_cases q6 : jj = 6
  · refine g_tableIn (tgt := 544) X 6 dL_law_33 (by omega) (by omega) (by omega) (by omega) rfl (by decide) ?_
    exact law_case_6 X hr hb hFr
  by_cases q7 : jj = 7
  · refine g_tableIn (tgt := 623) X 7 dL_law_33 (by omega) (by omega) (by omega) (by omega) rfl (by decide) ?_
    exact law_case_7 X hr hb hFr
  by_cases q8 : jj = 8
  · refine g_tableIn (tgt := 692) X 8 dL_law_33 (by omega) (by omega) (by omega) (by omega) rfl (by decide) ?_
    exact law_case_8 X hr hb hFr
  by_cases q9 : jj = 9
  · refine g_tableIn (tgt := 741) X 9 dL_law_33 (by omega) (by omega) (by omega) (by omega) rfl (by decide) ?_
    exact law_case_9 X hr hb hFr
  by_cases q10 : jj = 10
  · refine g_tableIn (tgt := 774) X 10 dL_law_33 (by omega) (by omega) (by omega) (by omega) rfl (by decide) ?_
    exact law_case_10 X hr hb hFr
  by_cases q11 : jj = 11
  · refine g_tableIn (tgt := 807) X 11 dL_law_33 (by omega) (by omega) (by omega) (by omega) rfl (by decide) ?_
    exact law_case_11 X hr hb hFr
  by_cases q12 : jj = 12
  · refine g_tableIn (tgt := 860) X 12 dL_law_33 (by omega) (by omega) (by omega) (by omega) rfl (by decide) ?_
    exact law_case_12 X hr hb hFr
  by_cases q13 : jj = 13
  · refine g_tableIn (tgt := 913) X 13 dL_law_33 (by omega) (by omega) (by omega) (by omega) rfl (by decide) ?_
    exact law_case_13 X hr hb hFr
  by_cases q14 : jj = 14
  · refine g_tableIn (tgt := 976) X 14 dL_law_33 (by omega) (by omega) (by omega) (by omega) rfl (by decide) ?_
    exact law_case_14 X hr hb hFr
  by_cases q15 : jj = 15
  · refine g_tableIn (tgt := 999) X 15 dL_law_33 (by omega) (by omega) (by omega) (by omega) rfl (by decide) ?_
    exact law_case_15 X hr hb hFr
  by_cases q16 : jj = 16
  · refine g_tableIn (tgt := 1032) X 16 dL_law_33 (by omega) (by omega) (by omega) (by omega) rfl (by decide) ?_
    exact law_case_16 X hr hb hFr
  by_cases q17 : jj = 17
  · refine g_tableIn (tgt := 1065) X 17 dL_law_33 (by omega) (by omega) (by omega) (by omega) rfl (by decide) ?_
    exact law_case_17 X hr hb hFr
  by_cases q18 : jj = 18
  · refine g_tableIn (tgt := 1098) X 18 dL_law_33 (by omega) (by omega) (by omega) (by omega) rfl (by decide) ?_
    exact law_case_18 X hr hb hFr
  by_cases q19 : jj = 19
  · refine g_tableIn (tgt := 1141) X 19 dL_law_33 (by omega) (by omega) (by omega) (by omega) rfl (by decide) ?_
    exact law_case_19 X hr hb hFr
  by_cases q20 : jj = 20
  · refine g_tableIn (tgt := 1164) X 20 dL_law_33 (by omega) (by omega) (by omega) (by omega) rfl (by decide) ?_
    exact law_case_20 X hr hb hFr
  by_cases q21 : jj = 21
  · refine g_tableIn (tgt := 1187) X 21 dL_law_33 (by omega) (by omega) (by omega) (by omega) rfl (by decide) ?_
    exact law_case_21 X hr hb hFr
  by_cases q22 : jj = 22
  · refine g_tableIn (tgt := 1220) X 22 dL_law_33 (by omega) (by omega) (by omega) (by omega) rfl (by decide) ?_
    exact law_case_22 X hr hb hFr
  by_cases q23 : jj = 23
  · refine g_tableIn (tgt := 1243) X 23 dL_law_33 (by omega) (by omega) (by omega) (by omega) rfl (by decide) ?_
    exact law_case_23 X hr hb hFr
  by_cases q24 : jj = 24
  · refine g_tableIn (tgt := 1276) X 24 dL_law_33 (by omega) (by omega) (by omega) (by omega) rfl (by decide) ?_
    exact law_case_24 X hr hb hFr
  by_cases q25 : jj = 25
  · refine g_tableIn (tgt := 1309) X 25 dL_law_33 (by omega) (by omega) (by omega) (by omega) rfl (by decide) ?_
    exact law_case_25 X hr hb hFr
  by_cases q26 : jj = 26
  · refine g_tableIn (tgt := 1332) X 26 dL_law_33 (by omega) (by omega) (by omega) (by omega) rfl (by decide) ?_
    exact law_case_26 X hr hb hFr
  by_cases q27 : jj = 27
  · refine g_tableIn (tgt := 1365) X 27 dL_law_33 (by omega) (by omega) (by omega) (by omega) rfl (by decide) ?_
    exact law_case_27 X hr hb hFr
  by_cases q28 : jj = 28
  · refine g_tableIn (tgt := 1408) X 28 dL_law_33 (by omega) (by omega) (by omega) (by omega) rfl (by decide) ?_
    exact law_case_28 X hr hb hFr
  by_cases q29 : jj = 29
  · refine g_tableIn (tgt := 1451) X 29 dL_law_33 (by omega) (by omega) (by omega) (by omega) rfl (by decide) ?_
    exact law_case_29 X hr hb hFr
  by_cases q30 : jj = 30
  · refine g_tableIn (tgt := 1494) X 30 dL_law_33 (by omega) (by omega) (by omega) (by omega) rfl (by decide) ?_
    exact law_case_30 X hr hb hFr
  by_cases q31 : jj = 31
  · refine g_tableIn (tgt := 1547) X 31 dL_law_33 (by omega) (by omega) (by omega) (by omega) rfl (by decide) ?_
    exact law_case_31 X hr hb hFr
  by_cases q32 : jj = 32
  · refine g_tableIn (tgt := 1590) X 32 dL_law_33 (by omega) (by omega) (by omega) (by omega) rfl (by decide) ?_
    exact law_case_32 X hr hb hFr
  by_cases q33 : jj = 33
  · refine g_tableIn (tgt := 1613) X 33 dL_law_33 (by omega) (by omega) (by omega) (by omega) rfl (by decide) ?_
    exact law_case_33 X hr hb hFr
  by_cases q34 : jj = 34
  · refine g_tableIn (tgt := 1626) X 34 dL_law_33 (by omega) (by omega) (by omega) (by omega) rfl (by decide) ?_
    exact law_case_34 X hr hb hFr
  by_cases q35 : jj = 35
  · refine g_tableIn (tgt := 1659) X 35 dL_law_33 (by omega) (by omega) (by omega) (by omega) rfl (by decide) ?_
    exact law_case_35 X hr hb hFr
  by_cases q36 : jj = 36
  · refine g_tableIn (tgt := 1692) X 36 dL_law_33 (by omega) (by omega) (by omega) (by omega) rfl (by decide) ?_
    exact law_case_36 X hr hb hFr
  by_cases q37 : jj = 37
  · refine g_tableIn (tgt := 1715) X 37 dL_law_33 (by omega) (by omega) (by omega) (by omega) rfl (by decide) ?_
    exact law_case_37 X hr hb hFr
  by_cases q38 : jj = 38
  · refine g_tableIn (tgt := 1758) X 38 dL_law_33 (by omega) (by omega) (by omega) (by omega) rfl (by decide) ?_
    exact law_case_38 X hr hb hFr
  by_cases q39 : jj = 39
  · refine g_tableIn (tgt := 1831) X 39 dL_law_33 (by omega) (by omega) (by omega) (by omega) rfl (by decide) ?_
    exact law_case_39 X hr hb hFr
  by_cases q40 : jj = 40
  · refine g_tableIn (tgt := 1854) X 40 dL_law_33 (by omega) (by omega) (by omega) (by omega) rfl (by decide) ?_
    exact law_case_40 X hr hb hFr
  by_cases q41 : jj = 41
  · refine g_tableIn (tgt := 1887) X 41 dL_law_33 (by omega) (by omega) (by omega) (by omega) rfl (by decide) ?_
    exact law_case_41 X hr hb hFr
  by_cases q42 : jj = 42
  · refine g_tableIn (tgt := 1920) X 42 dL_law_33 (by omega) (by omega) (by omega) (by omega) rfl (by decide) ?_
    exact law_case_42 X hr hb hFr
  by_cases q43 : jj = 43
  · refine g_tableIn (tgt := 1943) X 43 dL_law_33 (by omega) (by omega) (by omega) (by omega) rfl (by decide) ?_
    exact law_case_43 X hr hb hFr
  by_cases q44 : jj = 44
  · refine g_tableIn (tgt := 1956) X 44 dL_law_33 (by omega) (by omega) (by omega) (by omega) rfl (by decide) ?_
    exact law_case_44 X hr hb hFr
  by_cases q45 : jj = 45
  · refine g_tableIn (tgt := 1969) X 45 dL_law_33 (by omega) (by omega) (by omega) (by omega) rfl (by decide) ?_
    exact law_case_45 X hr hb hFr
  refine g_tableOut (tgt := 1992) X dL_law_33 (by omega) (by omega) (by decide) ?_
  exact law_tail X hr hb (by omega) (by omega)
set_option maxRecDepth 100000 in
set_option maxHeartbeats 8000000 in
theorem whole_start {p : Program} {e : Env} {s : State} {m : MethodId} {below : List Frame} {meth : Method} {c : Code} (l : Launch) (hflags : l.flags = flags0) {b L : Nat} {xs : Nat → Int32} (hL : L ≤ 7) (C0 : lw_At p s m meth c b L xs) : W p l e room_1 s m #[Value.ref b] below meth c s.heap [] 0 0 (lw_Z below #[Value.ref b] s) (entryFrame m ([Value.ref b] : List Value).toArray 4) := by
  obtain ⟨D, cA, hK, hO⟩ := gStart C0
  obtain ⟨hx, hb0, hr, hml, hown, hts, hX, hbl, hlocks, hgv⟩ := id C0
  have X : gCx p s m #[Value.ref b] meth c s.heap.size D cA "ParishUnionLaw" code 4 := ⟨hx, hb0, hml, hown, fun w hw => hts w (List.mem_filter.mp hw).1, hlocks, hK, hO⟩
  suffices h : G p l e room_1 s m #[Value.ref b] below meth c s.heap.size D cA 4 (lw_Z below #[Value.ref b] s) 0 0 (fun _ _ => 0) 0 0 [(0, .ref b)] [] by
    have hl := lv_entry ([.ref b]) (n := 4) (Nat.le_of_ble_eq_true rfl)
    rw [lg_entry_eq]
    exact h s.heap [] _ hl ⟨rfl, fun k q h => by simp [gws] at h⟩ va_S.rf
  refine g_new (n := 3) (N := 10) (ci := 11) X tyX11 iX11 tyX11_ok rfl rfl gtyok_11 kw_1_21 kw_1_22 kw_1_1 lay_0 (Nat.le_of_ble_eq_true rfl) (Nat.le_of_ble_eq_true rfl) dL_law_0 rfl ?_
  refine G.nm (fun M1 e2 => ?_)
  refine g_dup (n := 4) X dL_law_3 rfl rfl ?_
  refine g_callIv (n := 7) (As := []) (rest := [gA s.heap.size 0]) (cs1 := 190) (ss1 := 11302) X (c_X11_init_0 ((congrFun (congrFun e2 _) _).trans (gnew_eq _ _ _))) okX11_init kw_1_23 kw_1_24 rfl ⟨rfl, rfl⟩ ⟨Nat.le_of_ble_eq_true rfl, Nat.le_of_ble_eq_true rfl⟩ rfl rfl (Nat.le_of_ble_eq_true rfl) ⟨Nat.le_of_ble_eq_true rfl, Nat.le_of_ble_eq_true rfl⟩ rfl rfl dL_law_4 rfl (fun M4 P5 => ?_)
  obtain ⟨g7, g8, g9, g10, g11, g12, g13, g14, g15, g16, g17, g18, g19, g20, g21, g22, g23, g24, g25, g26, g27, g28, g29, g30, g31, g32, g33, g34, g35, g36, g37, g38, g39, g40, g41, g42, g43, g44, g45, g46, g47, g48, g49, g50, g51, g52, g53, g54, g55, g56, g57, g58, g59, g60, g61, g62, g63, g64, g65, g66, g67, g68, g69, rents70, way71, beds72, zr73, zr74, zr75, zr76, zr77, F6⟩ := P5
  refine g_astore_n (n := 8) (L' := [(1, gA s.heap.size 0), (0, .ref b)]) X dL_law_7 rfl (by decide) rfl rfl ?_
  refine g_new (n := 11) (N := 24) (ci := 12) X tyX12 iX12 tyX12_ok rfl rfl gtyok_12 kw_6_21 kw_6_22 kw_1_13 lay_190 (Nat.le_of_ble_eq_true rfl) (Nat.le_of_ble_eq_true rfl) dL_law_8 rfl ?_
  refine G.nm (fun M78 e79 => ?_)
  refine g_dup (n := 12) X dL_law_11 rfl rfl ?_
  refine g_callIv (n := 15) (As := []) (rest := [gA s.heap.size 190]) (cs1 := 206) (ss1 := 87467) X (c_X12_init_190 ((congrFun (congrFun e79 _) _).trans (gnew_eq _ _ _)) ((congrFun (congrFun e79 _) _).trans (gnew_eq _ _ _)) ((congrFun (congrFun e79 _) _).trans (gnew_eq _ _ _)) ((congrFun (congrFun e79 _) _).trans (gnew_eq _ _ _)) ((congrFun (congrFun e79 _) _).trans (gnew_eq _ _ _)) ((congrFun (congrFun e79 _) _).trans (gnew_eq _ _ _)) ((congrFun (congrFun e79 _) _).trans (gnew_eq _ _ _)) ((congrFun (congrFun e79 _) _).trans (gnew_eq _ _ _))) okX12_init kw_6_23 kw_6_24 rfl ⟨rfl, rfl⟩ ⟨Nat.le_of_ble_eq_true rfl, Nat.le_of_ble_eq_true rfl⟩ rfl rfl (Nat.le_of_ble_eq_true rfl) ⟨Nat.le_of_ble_eq_true rfl, Nat.le_of_ble_eq_true rfl⟩ rfl rfl dL_law_12 rfl (fun M81 P82 => ?_)
  obtain ⟨g84, g85, g86, g87, g88, g89, g90, g91, g92, g93, g94, g95, g96, g97, g98, g99, g100, g101, g102, g103, g104, g105, g106, g107, hS108, F83⟩ := P82
  refine g_astore_n (n := 16) (L' := [(2, gA s.heap.size 190), (1, gA s.heap.size 0), (0, .ref b)]) X dL_law_15 rfl (by decide) rfl rfl ?_
  refine g_iconst (n := 17) X dL_law_16 rfl ?_
  refine g_istore_n (n := 18) (L' := [(3, gJ 0), (2, gA s.heap.size 190), (1, gA s.heap.size 0), (0, .ref b)]) X dL_law_17 rfl (by decide) rfl rfl ?_
  exact law_loop X hr hL ⟨hbl, hX⟩ ⟨⟨((congrFun (F83 0 (by omega)) _).trans ((congrFun (congrFun e79 _) _).trans ((gnew_ne (by omega)).trans g7))), ((congrFun (F83 0 (by omega)) _).trans ((congrFun (congrFun e79 _) _).trans ((gnew_ne (by omega)).trans g8))), ((congrFun (F83 0 (by omega)) _).trans ((congrFun (congrFun e79 _) _).trans ((gnew_ne (by omega)).trans g9))), ((congrFun (F83 0 (by omega)) _).trans ((congrFun (congrFun e79 _) _).trans ((gnew_ne (by omega)).trans g10))), ((congrFun (F83 0 (by omega)) _).trans ((congrFun (congrFun e79 _) _).trans ((gnew_ne (by omega)).trans g11))), ((congrFun (F83 0 (by omega)) _).trans ((congrFun (congrFun e79 _) _).trans ((gnew_ne (by omega)).trans g12))), ((congrFun (F83 0 (by omega)) _).trans ((congrFun (congrFun e79 _) _).trans ((gnew_ne (by omega)).trans g13))), ((congrFun (F83 0 (by omega)) _).trans ((congrFun (congrFun e79 _) _).trans ((gnew_ne (by omega)).trans g14))), ((congrFun (F83 0 (by omega)) _).trans ((congrFun (congrFun e79 _) _).trans ((gnew_ne (by omega)).trans g15))), ((congrFun (F83 0 (by omega)) _).trans ((congrFun (congrFun e79 _) _).trans ((gnew_ne (by omega)).trans g16))), ((congrFun (F83 1 (by omega)) _).trans ((congrFun (congrFun e79 _) _).trans ((gnew_ne (by omega)).trans g17))), ((congrFun (F83 1 (by omega)) _).trans ((congrFun (congrFun e79 _) _).trans ((gnew_ne (by omega)).trans g18)))⟩, ⟨((congrFun (F83 1 (by omega)) _).trans ((congrFun (congrFun e79 _) _).trans ((gnew_ne (by omega)).trans g19))), ((congrFun (F83 1 (by omega)) _).trans ((congrFun (congrFun e79 _) _).trans ((gnew_ne (by omega)).trans g20))), ((congrFun (F83 1 (by omega)) _).trans ((congrFun (congrFun e79 _) _).trans ((gnew_ne (by omega)).trans g21))), ((congrFun (F83 1 (by omega)) _).trans ((congrFun (congrFun e79 _) _).trans ((gnew_ne (by omega)).trans g22))), ((congrFun (F83 1 (by omega)) _).trans ((congrFun (congrFun e79 _) _).trans ((gnew_ne (by omega)).trans g23))), ((congrFun (F83 1 (by omega)) _).trans ((congrFun (congrFun e79 _) _).trans ((gnew_ne (by omega)).trans g24))), ((congrFun (F83 1 (by omega)) _).trans ((congrFun (congrFun e79 _) _).trans ((gnew_ne (by omega)).trans g25))), ((congrFun (F83 1 (by omega)) _).trans ((congrFun (congrFun e79 _) _).trans ((gnew_ne (by omega)).trans g26))), ((congrFun (F83 1 (by omega)) _).trans ((congrFun (congrFun e79 _) _).trans ((gnew_ne (by omega)).trans g27))), ((congrFun (F83 1 (by omega)) _).trans ((congrFun (congrFun e79 _) _).trans ((gnew_ne (by omega)).trans g28))), ((congrFun (F83 1 (by omega)) _).trans ((congrFun (congrFun e79 _) _).trans ((gnew_ne (by omega)).trans g29))), ((congrFun (F83 1 (by omega)) _).trans ((congrFun (congrFun e79 _) _).trans ((gnew_ne (by omega)).trans g30)))⟩, ⟨((congrFun (F83 1 (by omega)) _).trans ((congrFun (congrFun e79 _) _).trans ((gnew_ne (by omega)).trans g31))), ((congrFun (F83 1 (by omega)) _).trans ((congrFun (congrFun e79 _) _).trans ((gnew_ne (by omega)).trans g32))), ((congrFun (F83 2 (by omega)) _).trans ((congrFun (congrFun e79 _) _).trans ((gnew_ne (by omega)).trans g40))), ((congrFun (F83 2 (by omega)) _).trans ((congrFun (congrFun e79 _) _).trans ((gnew_ne (by omega)).trans g41))), ((congrFun (F83 5 (by omega)) _).trans ((congrFun (congrFun e79 _) _).trans ((gnew_ne (by omega)).trans g33))), ((congrFun (F83 7 (by omega)) _).trans ((congrFun (congrFun e79 _) _).trans ((gnew_ne (by omega)).trans g34))), ((congrFun (F83 9 (by omega)) _).trans ((congrFun (congrFun e79 _) _).trans ((gnew_ne (by omega)).trans g42))), ((congrFun (F83 9 (by omega)) _).trans ((congrFun (congrFun e79 _) _).trans ((gnew_ne (by omega)).trans g43))), ((congrFun (F83 9 (by omega)) _).trans ((congrFun (congrFun e79 _) _).trans ((gnew_ne (by omega)).trans g44))), ((congrFun (F83 9 (by omega)) _).trans ((congrFun (congrFun e79 _) _).trans ((gnew_ne (by omega)).trans g45))), ((congrFun (F83 9 (by omega)) _).trans ((congrFun (congrFun e79 _) _).trans ((gnew_ne (by omega)).trans g46))), ((congrFun (F83 9 (by omega)) _).trans ((congrFun (congrFun e79 _) _).trans ((gnew_ne (by omega)).trans g47)))⟩, ⟨((congrFun (F83 15 (by omega)) _).trans ((congrFun (congrFun e79 _) _).trans ((gnew_ne (by omega)).trans g48))), ((congrFun (F83 15 (by omega)) _).trans ((congrFun (congrFun e79 _) _).trans ((gnew_ne (by omega)).trans g49))), ((congrFun (F83 15 (by omega)) _).trans ((congrFun (congrFun e79 _) _).trans ((gnew_ne (by omega)).trans g50))), ((congrFun (F83 15 (by omega)) _).trans ((congrFun (congrFun e79 _) _).trans ((gnew_ne (by omega)).trans g51))), ((congrFun (F83 15 (by omega)) _).trans ((congrFun (congrFun e79 _) _).trans ((gnew_ne (by omega)).trans g52))), ((congrFun (F83 15 (by omega)) _).trans ((congrFun (congrFun e79 _) _).trans ((gnew_ne (by omega)).trans g53))), ((congrFun (F83 15 (by omega)) _).trans ((congrFun (congrFun e79 _) _).trans ((gnew_ne (by omega)).trans g54))), ((congrFun (F83 15 (by omega)) _).trans ((congrFun (congrFun e79 _) _).trans ((gnew_ne (by omega)).trans g55))), ((congrFun (F83 15 (by omega)) _).trans ((congrFun (congrFun e79 _) _).trans ((gnew_ne (by omega)).trans g56))), ((congrFun (F83 15 (by omega)) _).trans ((congrFun (congrFun e79 _) _).trans ((gnew_ne (by omega)).trans g57))), ((congrFun (F83 23 (by omega)) _).trans ((congrFun (congrFun e79 _) _).trans ((gnew_ne (by omega)).trans g58))), ((congrFun (F83 23 (by omega)) _).trans ((congrFun (congrFun e79 _) _).trans ((gnew_ne (by omega)).trans g59)))⟩, ⟨((congrFun (F83 26 (by omega)) _).trans ((congrFun (congrFun e79 _) _).trans ((gnew_ne (by omega)).trans g60))), ((congrFun (F83 26 (by omega)) _).trans ((congrFun (congrFun e79 _) _).trans ((gnew_ne (by omega)).trans g61))), ((congrFun (F83 26 (by omega)) _).trans ((congrFun (congrFun e79 _) _).trans ((gnew_ne (by omega)).trans g62))), ((congrFun (F83 26 (by omega)) _).trans ((congrFun (congrFun e79 _) _).trans ((gnew_ne (by omega)).trans g63))), ((congrFun (F83 87 (by omega)) _).trans ((congrFun (congrFun e79 _) _).trans ((gnew_ne (by omega)).trans g35))), ((congrFun (F83 87 (by omega)) _).trans ((congrFun (congrFun e79 _) _).trans ((gnew_ne (by omega)).trans g36))), ((congrFun (F83 87 (by omega)) _).trans ((congrFun (congrFun e79 _) _).trans ((gnew_ne (by omega)).trans g37))), ((congrFun (F83 87 (by omega)) _).trans ((congrFun (congrFun e79 _) _).trans ((gnew_ne (by omega)).trans g38))), ((congrFun (F83 87 (by omega)) _).trans ((congrFun (congrFun e79 _) _).trans ((gnew_ne (by omega)).trans g39))), ((congrFun (F83 153 (by omega)) _).trans ((congrFun (congrFun e79 _) _).trans ((gnew_ne (by omega)).trans g64))), ((congrFun (F83 153 (by omega)) _).trans ((congrFun (congrFun e79 _) _).trans ((gnew_ne (by omega)).trans g65))), ((congrFun (F83 153 (by omega)) _).trans ((congrFun (congrFun e79 _) _).trans ((gnew_ne (by omega)).trans g66)))⟩, ⟨((congrFun (F83 153 (by omega)) _).trans ((congrFun (congrFun e79 _) _).trans ((gnew_ne (by omega)).trans g67))), ((congrFun (F83 153 (by omega)) _).trans ((congrFun (congrFun e79 _) _).trans ((gnew_ne (by omega)).trans g68))), ((congrFun (F83 159 (by omega)) _).trans ((congrFun (congrFun e79 _) _).trans ((gnew_ne (by omega)).trans g69))), g84, g85, g86, g87, g88, g89, g90, g91, g92⟩, ⟨g93, g94, g95, g96, g97, g98, g99, g100, g101, g102, g103, g104⟩, ⟨g105, g106, g107, (fun i h0 h1 => by rw [show M81 3 = M4 3 from ((F83 3 (by omega)).trans ((congrFun e79 _).trans ((gnew_off _ (by omega)).trans rfl)))]; exact rents70 i h0 h1), (fun i h0 h1 => by rw [show M81 4 = M4 4 from ((F83 4 (by omega)).trans ((congrFun e79 _).trans ((gnew_off _ (by omega)).trans rfl)))]; exact way71 i h0 h1), (fun i h0 h1 => by rw [show M81 16 = M4 16 from ((F83 16 (by omega)).trans ((congrFun e79 _).trans ((gnew_off _ (by omega)).trans rfl)))]; exact beds72 i h0 h1), (fun i h0 h1 => by rw [show M81 17 = M4 17 from ((F83 17 (by omega)).trans ((congrFun e79 _).trans ((gnew_off _ (by omega)).trans rfl)))]; exact zr73 i), (fun i h0 h1 => by rw [show M81 18 = M4 18 from ((F83 18 (by omega)).trans ((congrFun e79 _).trans ((gnew_off _ (by omega)).trans rfl)))]; exact zr74 i), (fun i h0 h1 => by rw [show M81 30 = M4 30 from ((F83 30 (by omega)).trans ((congrFun e79 _).trans ((gnew_off _ (by omega)).trans rfl)))]; exact zr75 i), (fun i h0 h1 => by rw [show M81 8 = M4 8 from ((F83 8 (by omega)).trans ((congrFun e79 _).trans ((gnew_off _ (by omega)).trans rfl)))]; exact zr76 i), (fun i h0 h1 => by rw [show M81 14 = M4 14 from ((F83 14 (by omega)).trans ((congrFun e79 _).trans ((gnew_off _ (by omega)).trans rfl)))]; exact zr77 i), (fun i h0 h1 => by rw [show M81 191 = M81 191 from rfl]; exact hS108 i h0 h1)⟩⟩
