theorem dL_law_1276 : decode code 1276 = .ok (.aload_n 1, 1) := by decide +kernel
theorem dL_law_1277 : decode code 1277 = .ok (.aload_n 0, 1) := by decide +kernel
theorem dL_law_1278 : decode code 1278 = .ok (.iload_n 3, 1) := by decide +kernel
theorem dL_law_1279 : decode code 1279 = .ok (.iconst 1, 1) := by decide +kernel
theorem dL_law_1280 : decode code 1280 = .ok (.iadd, 1) := by decide +kernel
theorem dL_law_1281 : decode code 1281 = .ok (.iaload, 1) := by decide +kernel
theorem dL_law_1282 : decode code 1282 = .ok (.aload_n 0, 1) := by decide +kernel
theorem dL_law_1283 : decode code 1283 = .ok (.iload_n 3, 1) := by decide +kernel
theorem dL_law_1284 : decode code 1284 = .ok (.iconst 2, 1) := by decide +kernel
theorem dL_law_1285 : decode code 1285 = .ok (.iadd, 1) := by decide +kernel
theorem dL_law_1286 : decode code 1286 = .ok (.iaload, 1) := by decide +kernel
theorem dL_law_1287 : decode code 1287 = .ok (.invokevirtual 121, 3) := by decide +kernel
theorem kw_4_167 : (Jvm.Cond.methodLink "ParishUnionLaw" (121 : Nat) ({ cls := "ParishUnion", name := "heard", desc := "(II)I" } : Jvm.MethodName)) ∈ gT := gT_of (tb_4 _ (List.mem_of_getElem? (i := 167) rfl)) rfl
theorem kw_4_170 : (Jvm.Cond.code ({ cls := "ParishUnion", name := "heard", desc := "(II)I" } : Jvm.MethodName) prog_1_method_26_code (3 : Nat) (Option.some Jvm.ClassFile.FieldType.int)) ∈ gT := gT_of (tb_4 _ (List.mem_of_getElem? (i := 170) rfl)) rfl
theorem okX11_heard : gQok yX11_heard cX11_heard 3 (Option.some Jvm.ClassFile.FieldType.int) 2 := ⟨kw_4_170, kw_1_1, by decide +kernel, by decide +kernel, by decide +kernel⟩
theorem kw_4_168 : (Jvm.Cond.instanceMethod ({ cls := "ParishUnion", name := "heard", desc := "(II)I" } : Jvm.MethodName)) ∈ gT := gT_of (tb_4 _ (List.mem_of_getElem? (i := 168) rfl)) rfl
theorem kw_4_169 : (Jvm.Cond.selects "ParishUnion" ({ cls := "ParishUnion", name := "heard", desc := "(II)I" } : Jvm.MethodName) ({ cls := "ParishUnion", name := "heard", desc := "(II)I" } : Jvm.MethodName)) ∈ gT := gT_of (tb_4 _ (List.mem_of_getElem? (i := 169) rfl)) rfl
theorem dL_law_1290 : decode code 1290 = .ok (.aload_n 2, 1) := by decide +kernel
theorem dL_law_1291 : decode code 1291 = .ok (.aload_n 0, 1) := by decide +kernel
theorem dL_law_1292 : decode code 1292 = .ok (.iload_n 3, 1) := by decide +kernel
theorem dL_law_1293 : decode code 1293 = .ok (.iconst 1, 1) := by decide +kernel
theorem dL_law_1294 : decode code 1294 = .ok (.iadd, 1) := by decide +kernel
theorem dL_law_1295 : decode code 1295 = .ok (.iaload, 1) := by decide +kernel
theorem dL_law_1296 : decode code 1296 = .ok (.aload_n 0, 1) := by decide +kernel
theorem dL_law_1297 : decode code 1297 = .ok (.iload_n 3, 1) := by decide +kernel
theorem dL_law_1298 : decode code 1298 = .ok (.iconst 2, 1) := by decide +kernel
theorem dL_law_1299 : decode code 1299 = .ok (.iadd, 1) := by decide +kernel
theorem dL_law_1300 : decode code 1300 = .ok (.iaload, 1) := by decide +kernel
theorem dL_law_1301 : decode code 1301 = .ok (.invokevirtual 124, 3) := by decide +kernel
theorem kw_7_130 : (Jvm.Cond.methodLink "ParishUnionLaw" (124 : Nat) ({ cls := "ParishUnionModel", name := "heard", desc := "(II)I" } : Jvm.MethodName)) ∈ gT := gT_of (tb_7 _ (List.mem_of_getElem? (i := 130) rfl)) rfl
theorem kw_7_133 : (Jvm.Cond.code ({ cls := "ParishUnionModel", name := "heard", desc := "(II)I" } : Jvm.MethodName) prog_14_method_71_code (3 : Nat) (Option.some Jvm.ClassFile.FieldType.int)) ∈ gT := gT_of (tb_7 _ (List.mem_of_getElem? (i := 133) rfl)) rfl
theorem okX12_heard : gQok yX12_heard cX12_heard 3 (Option.some Jvm.ClassFile.FieldType.int) 2 := ⟨kw_7_133, kw_1_13, by decide +kernel, by decide +kernel, by decide +kernel⟩
theorem kw_7_131 : (Jvm.Cond.instanceMethod ({ cls := "ParishUnionModel", name := "heard", desc := "(II)I" } : Jvm.MethodName)) ∈ gT := gT_of (tb_7 _ (List.mem_of_getElem? (i := 131) rfl)) rfl
theorem kw_7_132 : (Jvm.Cond.selects "ParishUnionModel" ({ cls := "ParishUnionModel", name := "heard", desc := "(II)I" } : Jvm.MethodName) ({ cls := "ParishUnionModel", name := "heard", desc := "(II)I" } : Jvm.MethodName)) ∈ gT := gT_of (tb_7 _ (List.mem_of_getElem? (i := 132) rfl)) rfl
theorem dL_law_1304 : decode code 1304 = .ok (.if_icmp .eq 688, 3) := by decide +kernel
set_option maxRecDepth 100000 in
set_option maxHeartbeats 4000000 in
theorem law_case_24 {p : Program} {e : Env} {s : State} {m : MethodId} {below : List Frame} {meth : Method} {c : Code} {l : Launch} {D : va_G} {cA : Nat → ClassId} {b : Nat} {xs : Nat → Int32} (X : gCx p s m #[Value.ref b] meth c s.heap.size D cA "ParishUnionLaw" code 4) (hr : meth.sig.returnType = ret) (hb : b < s.heap.size ∧ va_X b 7 xs s s.heap) {M : gM} (hFr : gFr M) : G p l e room_1 s m #[Value.ref b] below meth c s.heap.size D cA 4 (lw_Z below #[Value.ref b] s) 206 87467 M 206 1276 [(3, gJ 0), (2, gA s.heap.size 190), (1, gA s.heap.size 0), (0, .ref b)] [] := by
  have rents := gFr_rents hFr
  have way := gFr_way hFr
  have beds := gFr_beds hFr
  have frost0 := gFr_frost0 hFr
  have rows0 := gFr_rows0 hFr
  have rooms0 := gFr_rooms0 hFr
  have tape0 := gFr_tape0 hFr
  have car0 := gFr_car0 hFr
  have hS := gFr_hS hFr
  obtain ⟨v0, e0, r0⟩ : ∃ z : Int, xs 0 = Int32.ofInt z ∧ -2147483648 ≤ z ∧ z ≤ 2147483647 := ⟨_, gi_of _, gi_rg _⟩
  obtain ⟨v1, e1, r1⟩ : ∃ z : Int, xs 1 = Int32.ofInt z ∧ -2147483648 ≤ z ∧ z ≤ 2147483647 := ⟨_, gi_of _, gi_rg _⟩
  obtain ⟨v2, e2, r2⟩ : ∃ z : Int, xs 2 = Int32.ofInt z ∧ -2147483648 ≤ z ∧ z ≤ 2147483647 := ⟨_, gi_of _, gi_rg _⟩
  obtain ⟨v3, e3, r3⟩ : ∃ z : Int, xs 3 = Int32.ofInt z ∧ -2147483648 ≤ z ∧ z ≤ 2147483647 := ⟨_, gi_of _, gi_rg _⟩
  obtain ⟨v4, e4, r4⟩ : ∃ z : Int, xs 4 = Int32.ofInt z ∧ -2147483648 ≤ z ∧ z ≤ 2147483647 := ⟨_, gi_of _, gi_rg _⟩
  obtain ⟨v5, e5, r5⟩ : ∃ z : Int, xs 5 = Int32.ofInt z ∧ -2147483648 ≤ z ∧ z ≤ 2147483647 := ⟨_, gi_of _, gi_rg _⟩
  obtain ⟨v6, e6, r6⟩ : ∃ z : Int, xs 6 = Int32.ofInt z ∧ -2147483648 ≤ z ∧ z ≤ 2147483647 := ⟨_, gi_of _, gi_rg _⟩
  refine g_aload_n (n := 1277) X 2 dL_law_1276 rfl rfl rfl ?_
  refine g_aload_n (n := 1278) X 3 dL_law_1277 rfl rfl rfl ?_
  refine g_iload_n (n := 1279) X 0 dL_law_1278 rfl rfl rfl ?_
  refine g_iconst (n := 1280) X dL_law_1279 rfl ?_
  refine g_iadd (n := 1281) (z := 1) X dL_law_1280 rfl rfl ?_
  refine g_scrld (n := 1282) (z := v1) X hb (by omega) (by omega) (by omega) dL_law_1281 rfl e1 ?_
  refine g_aload_n (n := 1283) X 3 dL_law_1282 rfl rfl rfl ?_
  refine g_iload_n (n := 1284) X 0 dL_law_1283 rfl rfl rfl ?_
  refine g_iconst (n := 1285) X dL_law_1284 rfl ?_
  refine g_iadd (n := 1286) (z := 2) X dL_law_1285 rfl rfl ?_
  refine g_scrld (n := 1287) (z := v2) X hb (by omega) (by omega) (by omega) dL_law_1286 rfl e2 ?_
  refine g_callVi (n := 1290) (As := [gJ v1, gJ v2]) (rest := []) (cs1 := 206) (ss1 := 87467) X (c_X11_heard v1 v2 (by omega) (by omega) (by omega) (gFr_0_0 hFr) (gFr_1_0 hFr) (gFr_2_1 hFr) (gFr_1_15 hFr) (gFr_1_7 hFr) (gFr_23_0 hFr) way) okX11_heard kw_4_167 ⟨kw_4_168, kw_4_169⟩ ⟨rfl, rfl⟩ ⟨Nat.le_of_ble_eq_true rfl, Nat.le_of_ble_eq_true rfl⟩ rfl (by omega) (by omega) lay_0 rfl rfl (Nat.le_of_ble_eq_true rfl) ⟨Nat.le_of_ble_eq_true rfl, Nat.le_of_ble_eq_true rfl⟩ rfl rfl dL_law_1287 rfl (fun z1 M2 P3 => ?_)
  obtain ⟨P3, F4⟩ := P3
  refine g_aload_n (n := 1291) X 1 dL_law_1290 rfl rfl rfl ?_
  refine g_aload_n (n := 1292) X 3 dL_law_1291 rfl rfl rfl ?_
  refine g_iload_n (n := 1293) X 0 dL_law_1292 rfl rfl rfl ?_
  refine g_iconst (n := 1294) X dL_law_1293 rfl ?_
  refine g_iadd (n := 1295) (z := 1) X dL_law_1294 rfl rfl ?_
  refine g_scrld (n := 1296) (z := v1) X hb (by omega) (by omega) (by omega) dL_law_1295 rfl e1 ?_
  refine g_aload_n (n := 1297) X 3 dL_law_1296 rfl rfl rfl ?_
  refine g_iload_n (n := 1298) X 0 dL_law_1297 rfl rfl rfl ?_
  refine g_iconst (n := 1299) X dL_law_1298 rfl ?_
  refine g_iadd (n := 1300) (z := 2) X dL_law_1299 rfl rfl ?_
  refine g_scrld (n := 1301) (z := v2) X hb (by omega) (by omega) (by omega) dL_law_1300 rfl e2 ?_
  refine g_callVi (n := 1304) (As := [gJ v1, gJ v2]) (rest := [gJ z1]) (cs1 := 206) (ss1 := 87467) X (c_X12_heard v1 v2 (by omega) (by omega) (by omega) ((congrFun (F4 190) _).trans (gFr_190_1 hFr)) (fun i h0 h1 => (congrFun ((F4 191).trans rfl) i).trans (hS i h0 h1))) okX12_heard kw_7_130 ⟨kw_7_131, kw_7_132⟩ ⟨rfl, rfl⟩ ⟨Nat.le_of_ble_eq_true rfl, Nat.le_of_ble_eq_true rfl⟩ rfl (by omega) (by omega) lay_190 rfl rfl (Nat.le_of_ble_eq_true rfl) ⟨Nat.le_of_ble_eq_true rfl, Nat.le_of_ble_eq_true rfl⟩ rfl rfl dL_law_1301 rfl (fun z5 M6 P7 => ?_)
  obtain ⟨P7, F8⟩ := P7
  refine g_icmp_eq (n := 1307) (tgt := 1992) X dL_law_1304 (by decide) (by omega) (by omega) rfl (fun c9 => ?_) (fun c9 => by exfalso; omega)
  exact law_tail X hr hb (by omega) (by omega)
theorem dL_law_1309 : decode code 1309 = .ok (.aload_n 1, 1) := by decide +kernel
theorem dL_law_1310 : decode code 1310 = .ok (.aload_n 0, 1) := by decide +kernel
theorem dL_law_1311 : decode code 1311 = .ok (.iload_n 3, 1) := by decide +kernel
theorem dL_law_1312 : decode code 1312 = .ok (.iconst 1, 1) := by decide +kernel
theorem dL_law_1313 : decode code 1313 = .ok (.iadd, 1) := by decide +kernel
theorem dL_law_1314 : decode code 1314 = .ok (.iaload, 1) := by decide +kernel
theorem dL_law_1315 : decode code 1315 = .ok (.invokevirtual 125, 3) := by decide +kernel
theorem kw_4_181 : (Jvm.Cond.methodLink "ParishUnionLaw" (125 : Nat) ({ cls := "ParishUnion", name := "week", desc := "(I)I" } : Jvm.MethodName)) ∈ gT := gT_of (tb_4 _ (List.mem_of_getElem? (i := 181) rfl)) rfl
theorem kw_4_184 : (Jvm.Cond.code ({ cls := "ParishUnion", name := "week", desc := "(I)I" } : Jvm.MethodName) prog_1_method_27_code (2 : Nat) (Option.some Jvm.ClassFile.FieldType.int)) ∈ gT := gT_of (tb_4 _ (List.mem_of_getElem? (i := 184) rfl)) rfl
theorem okX11_week : gQok yX11_week cX11_week 2 (Option.some Jvm.ClassFile.FieldType.int) 1 := ⟨kw_4_184, kw_1_1, by decide +kernel, by decide +kernel, by decide +kernel⟩
theorem kw_4_182 : (Jvm.Cond.instanceMethod ({ cls := "ParishUnion", name := "week", desc := "(I)I" } : Jvm.MethodName)) ∈ gT := gT_of (tb_4 _ (List.mem_of_getElem? (i := 182) rfl)) rfl
theorem kw_4_183 : (Jvm.Cond.selects "ParishUnion" ({ cls := "ParishUnion", name := "week", desc := "(I)I" } : Jvm.MethodName) ({ cls := "ParishUnion", name := "week", desc := "(I)I" } : Jvm.MethodName)) ∈ gT := gT_of (tb_4 _ (List.mem_of_getElem? (i := 183) rfl)) rfl
theorem dL_law_1318 : decode code 1318 = .ok (.aload_n 2, 1) := by decide +kernel
theorem dL_law_1319 : decode code 1319 = .ok (.aload_n 0, 1) := by decide +kernel
theorem dL_law_1320 : decode code 1320 = .ok (.iload_n 3, 1) := by decide +kernel
theorem dL_law_1321 : decode code 1321 = .ok (.iconst 1, 1) := by decide +kernel
theorem dL_law_1322 : decode code 1322 = .ok (.iadd, 1) := by decide +kernel
theorem dL_law_1323 : decode code 1323 = .ok (.iaload, 1) := by decide +kernel
theorem dL_law_1324 : decode code 1324 = .ok (.invokevirtual 128, 3) := by decide +kernel
theorem kw_7_138 : (Jvm.Cond.methodLink "ParishUnionLaw" (128 : Nat) ({ cls := "ParishUnionModel", name := "week", desc := "(I)I" } : Jvm.MethodName)) ∈ gT := gT_of (tb_7 _ (List.mem_of_getElem? (i := 138) rfl)) rfl
theorem kw_7_141 : (Jvm.Cond.code ({ cls := "ParishUnionModel", name := "week", desc := "(I)I" } : Jvm.MethodName) prog_14_method_78_code (3 : Nat) (Option.some Jvm.ClassFile.FieldType.int)) ∈ gT := gT_of (tb_7 _ (List.mem_of_getElem? (i := 141) rfl)) rfl
theorem okX12_week : gQok yX12_week cX12_week 3 (Option.some Jvm.ClassFile.FieldType.int) 1 := ⟨kw_7_141, kw_1_13, by decide +kernel, by decide +kernel, by decide +kernel⟩
theorem kw_7_139 : (Jvm.Cond.instanceMethod ({ cls := "ParishUnionModel", name := "week", desc := "(I)I" } : Jvm.MethodName)) ∈ gT := gT_of (tb_7 _ (List.mem_of_getElem? (i := 139) rfl)) rfl
theorem kw_7_140 : (Jvm.Cond.selects "ParishUnionModel" ({ cls := "ParishUnionModel", name := "week", desc := "(I)I" } : Jvm.MethodName) ({ cls := "ParishUnionModel", name := "week", desc := "(I)I" } : Jvm.MethodName)) ∈ gT := gT_of (tb_7 _ (List.mem_of_getElem? (i := 140) rfl)) rfl
theorem dL_law_1327 : decode code 1327 = .ok (.if_icmp .eq 665, 3) := by decide +kernel
set_option maxRecDepth 100000 in
set_option maxHeartbeats 4000000 in
theorem law_case_25 {p : Program} {e : Env} {s : State} {m : MethodId} {below : List Frame} {meth : Method} {c : Code} {l : Launch} {D : va_G} {cA : Nat → ClassId} {b : Nat} {xs : Nat → Int32} (X : gCx p s m #[Value.ref b] meth c s.heap.size D cA "ParishUnionLaw" code 4) (hr : meth.sig.returnType = ret) (hb : b < s.heap.size ∧ va_X b 7 xs s s.heap) {M : gM} (hFr : gFr M) : G p l e room_1 s m #[Value.ref b] below meth c s.heap.size D cA 4 (lw_Z below #[Value.ref b] s) 206 87467 M 206 1309 [(3, gJ 0), (2, gA s.heap.size 190), (1, gA s.heap.size 0), (0, .ref b)] [] := by
  have rents := gFr_rents hFr
  have way := gFr_way hFr
  have beds := gFr_beds hFr
  have frost0 := gFr_frost0 hFr
  have rows0 := gFr_rows0 hFr
  have rooms0 := gFr_rooms0 hFr
  have tape0 := gFr_tape0 hFr
  have car0 := gFr_car0 hFr
  have hS := gFr_hS hFr
  obtain ⟨v0, e0, r0⟩ : ∃ z : Int, xs 0 = Int32.ofInt z ∧ -2147483648 ≤ z ∧ z ≤ 2147483647 := ⟨_, gi_of _, gi_rg _⟩
  obtain ⟨v1, e1, r1⟩ : ∃ z : Int, xs 1 = Int32.ofInt z ∧ -2147483648 ≤ z ∧ z ≤ 2147483647 := ⟨_, gi_of _, gi_rg _⟩
  obtain ⟨v2, e2, r2⟩ : ∃ z : Int, xs 2 = Int32.ofInt z ∧ -2147483648 ≤ z ∧ z ≤ 2147483647 := ⟨_, gi_of _, gi_rg _⟩
  obtain ⟨v3, e3, r3⟩ : ∃ z : Int, xs 3 = Int32.ofInt z ∧ -2147483648 ≤ z ∧ z ≤ 2147483647 := ⟨_, gi_of _, gi_rg _⟩
  obtain ⟨v4, e4, r4⟩ : ∃ z : Int, xs 4 = Int32.ofInt z ∧ -2147483648 ≤ z ∧ z ≤ 2147483647 := ⟨_, gi_of _, gi_rg _⟩
  obtain ⟨v5, e5, r5⟩ : ∃ z : Int, xs 5 = Int32.ofInt z ∧ -2147483648 ≤ z ∧ z ≤ 2147483647 := ⟨_, gi_of _, gi_rg _⟩
  obtain ⟨v6, e6, r6⟩ : ∃ z : Int, xs 6 = Int32.ofInt z ∧ -2147483648 ≤ z ∧ z ≤ 2147483647 := ⟨_, gi_of _, gi_rg _⟩
  refine g_aload_n (n := 1310) X 2 dL_law_1309 rfl rfl rfl ?_
  refine g_aload_n (n := 1311) X 3 dL_law_1310 rfl rfl rfl ?_
  refine g_iload_n (n := 1312) X 0 dL_law_1311 rfl rfl rfl ?_
  refine g_iconst (n := 1313) X dL_law_1312 rfl ?_
  refine g_iadd (n := 1314) (z := 1) X dL_law_1313 rfl rfl ?_
  refine g_scrld (n := 1315) (z := v1) X hb (by omega) (by omega) (by omega) dL_law_1314 rfl e1 ?_
  refine g_callVi (n := 1318) (As := [gJ v1]) (rest := []) (cs1 := 206) (ss1 := 87467) X (c_X11_week v1 (by omega) (by omega) (gFr_0_0 hFr) (gFr_0_1 hFr) (gFr_1_12 hFr) (gFr_1_11 hFr) (gFr_1_15 hFr) (gFr_1_10 hFr) (gFr_1_13 hFr) (gFr_1_7 hFr) (gFr_1_6 hFr) (gFr_15_1 hFr) (gFr_23_0 hFr) (gFr_23_1 hFr) frost0) okX11_week kw_4_181 ⟨kw_4_182, kw_4_183⟩ ⟨rfl, rfl⟩ ⟨Nat.le_of_ble_eq_true rfl, Nat.le_of_ble_eq_true rfl⟩ rfl (by omega) (by omega) lay_0 rfl rfl (Nat.le_of_ble_eq_true rfl) ⟨Nat.le_of_ble_eq_true rfl, Nat.le_of_ble_eq_true rfl⟩ rfl rfl dL_law_1315 rfl (fun z1 M2 P3 => ?_)
  obtain ⟨P3, F4⟩ := P3
  refine g_aload_n (n := 1319) X 1 dL_law_1318 rfl rfl rfl ?_
  refine g_aload_n (n := 1320) X 3 dL_law_1319 rfl rfl rfl ?_
  refine g_iload_n (n := 1321) X 0 dL_law_1320 rfl rfl rfl ?_
  refine g_iconst (n := 1322) X dL_law_1321 rfl ?_
  refine g_iadd (n := 1323) (z := 1) X dL_law_1322 rfl rfl ?_
  refine g_scrld (n := 1324) (z := v1) X hb (by omega) (by omega) (by omega) dL_law_1323 rfl e1 ?_
  refine g_callVi (n := 1327) (As := [gJ v1]) (rest := [gJ z1]) (cs1 := 206) (ss1 := 87467) X (c_X12_week v1 (by omega) (by omega) ((congrFun (F4 190 (by omega) (by omega) (by omega) (by omega)) _).trans (gFr_190_1 hFr)) ((congrFun (F4 191 (by omega) (by omega) (by omega) (by omega)) _).trans ((hS 0 (by omega) (by omega)).trans (by decide))) ((congrFun (F4 191 (by omega) (by omega) (by omega) (by omega)) _).trans ((hS 1 (by omega) (by omega)).trans (by decide))) ((congrFun (F4 191 (by omega) (by omega) (by omega) (by omega)) _).trans ((hS 4 (by omega) (by omega)).trans (by decide)))) okX12_week kw_7_138 ⟨kw_7_139, kw_7_140⟩ ⟨rfl, rfl⟩ ⟨Nat.le_of_ble_eq_true rfl, Nat.le_of_ble_eq_true rfl⟩ rfl (by omega) (by omega) lay_190 rfl rfl (Nat.le_of_ble_eq_true rfl) ⟨Nat.le_of_ble_eq_true rfl, Nat.le_of_ble_eq_true rfl⟩ rfl rfl dL_law_1324 rfl (fun z5 M6 P7 => ?_)
  obtain ⟨P7, F8⟩ := P7
  refine g_icmp_eq (n := 1330) (tgt := 1992) X dL_law_1327 (by decide) (by omega) (by omega) rfl (fun c9 => ?_) (fun c9 => by exfalso; omega)
  exact law_tail X hr hb (by omega) (by omega)
theorem dL_law_1332 : decode code 1332 = .ok (.aload_n 1, 1) := by decide +kernel
theorem dL_law_1333 : decode code 1333 = .ok (.aload_n 0, 1) := by decide +kernel
theorem dL_law_1334 : decode code 1334 = .ok (.iload_n 3, 1) := by decide +kernel
theorem dL_law_1335 : decode code 1335 = .ok (.iconst 1, 1) := by decide +kernel
theorem dL_law_1336 : decode code 1336 = .ok (.iadd, 1) := by decide +kernel
theorem dL_law_1337 : decode code 1337 = .ok (.iaload, 1) := by decide +kernel
theorem dL_law_1338 : decode code 1338 = .ok (.aload_n 0, 1) := by decide +kernel
theorem dL_law_1339 : decode code 1339 = .ok (.iload_n 3, 1) := by decide +kernel
theorem dL_law_1340 : decode code 1340 = .ok (.iconst 2, 1) := by decide +kernel
theorem dL_law_1341 : decode code 1341 = .ok (.iadd, 1) := by decide +kernel
theorem dL_law_1342 : decode code 1342 = .ok (.iaload, 1) := by decide +kernel
theorem dL_law_1343 : decode code 1343 = .ok (.invokevirtual 129, 3) := by decide +kernel
theorem kw_5_7 : (Jvm.Cond.methodLink "ParishUnionLaw" (129 : Nat) ({ cls := "ParishUnion", name := "gone", desc := "(II)I" } : Jvm.MethodName)) ∈ gT := gT_of (tb_5 _ (List.mem_of_getElem? (i := 7) rfl)) rfl
theorem kw_5_10 : (Jvm.Cond.code ({ cls := "ParishUnion", name := "gone", desc := "(II)I" } : Jvm.MethodName) prog_1_method_28_code (3 : Nat) (Option.some Jvm.ClassFile.FieldType.int)) ∈ gT := gT_of (tb_5 _ (List.mem_of_getElem? (i := 10) rfl)) rfl
theorem okX11_gone : gQok yX11_gone cX11_gone 3 (Option.some Jvm.ClassFile.FieldType.int) 2 := ⟨kw_5_10, kw_1_1, by decide +kernel, by decide +kernel, by decide +kernel⟩
theorem kw_5_8 : (Jvm.Cond.instanceMethod ({ cls := "ParishUnion", name := "gone", desc := "(II)I" } : Jvm.MethodName)) ∈ gT := gT_of (tb_5 _ (List.mem_of_getElem? (i := 8) rfl)) rfl
theorem kw_5_9 : (Jvm.Cond.selects "ParishUnion" ({ cls := "ParishUnion", name := "gone", desc := "(II)I" } : Jvm.MethodName) ({ cls := "ParishUnion", name := "gone", desc := "(II)I" } : Jvm.MethodName)) ∈ gT := gT_of (tb_5 _ (List.mem_of_getElem? (i := 9) rfl)) rfl
theorem dL_law_1346 : decode code 1346 = .ok (.aload_n 2, 1) := by decide +kernel
theorem dL_law_1347 : decode code 1347 = .ok (.aload_n 0, 1) := by decide +kernel
theorem dL_law_1348 : decode code 1348 = .ok (.iload_n 3, 1) := by decide +kernel
theorem dL_law_1349 : decode code 1349 = .ok (.iconst 1, 1) := by decide +kernel
theorem dL_law_1350 : decode code 1350 = .ok (.iadd, 1) := by decide +kernel
theorem dL_law_1351 : decode code 1351 = .ok (.iaload, 1) := by decide +kernel
theorem dL_law_1352 : decode code 1352 = .ok (.aload_n 0, 1) := by decide +kernel
theorem dL_law_1353 : decode code 1353 = .ok (.iload_n 3, 1) := by decide +kernel
theorem dL_law_1354 : decode code 1354 = .ok (.iconst 2, 1) := by decide +kernel
theorem dL_law_1355 : decode code 1355 = .ok (.iadd, 1) := by decide +kernel
theorem dL_law_1356 : decode code 1356 = .ok (.iaload, 1) := by decide +kernel
theorem dL_law_1357 : decode code 1357 = .ok (.invokevirtual 132, 3) := by decide +kernel
theorem kw_7_166 : (Jvm.Cond.methodLink "ParishUnionLaw" (132 : Nat) ({ cls := "ParishUnionModel", name := "gone", desc := "(II)I" } : Jvm.MethodName)) ∈ gT := gT_of (tb_7 _ (List.mem_of_getElem? (i := 166) rfl)) rfl
theorem kw_7_169 : (Jvm.Cond.code ({ cls := "ParishUnionModel", name := "gone", desc := "(II)I" } : Jvm.MethodName) prog_14_method_80_code (3 : Nat) (Option.some Jvm.ClassFile.FieldType.int)) ∈ gT := gT_of (tb_7 _ (List.mem_of_getElem? (i := 169) rfl)) rfl
theorem okX12_gone : gQok yX12_gone cX12_gone 3 (Option.some Jvm.ClassFile.FieldType.int) 2 := ⟨kw_7_169, kw_1_13, by decide +kernel, by decide +kernel, by decide +kernel⟩
theorem kw_7_167 : (Jvm.Cond.instanceMethod ({ cls := "ParishUnionModel", name := "gone", desc := "(II)I" } : Jvm.MethodName)) ∈ gT := gT_of (tb_7 _ (List.mem_of_getElem? (i := 167) rfl)) rfl
theorem kw_7_168 : (Jvm.Cond.selects "ParishUnionModel" ({ cls := "ParishUnionModel", name := "gone", desc := "(II)I" } : Jvm.MethodName) ({ cls := "ParishUnionModel", name := "gone", desc := "(II)I" } : Jvm.MethodName)) ∈ gT := gT_of (tb_7 _ (List.mem_of_getElem? (i := 168) rfl)) rfl
theorem dL_law_1360 : decode code 1360 = .ok (.if_icmp .eq 632, 3) := by decide +kernel
set_option maxRecDepth 100000 in
set_option maxHeartbeats 4000000 in
theorem law_case_26 {p : Program} {e : Env} {s : State} {m : MethodId} {below : List Frame} {meth : Method} {c : Code} {l : Launch} {D : va_G} {cA : Nat → ClassId} {b : Nat} {xs : Nat → Int32} (X : gCx p s m #[Value.ref b] meth c s.heap.size D cA "ParishUnionLaw" code 4) (hr : meth.sig.returnType = ret) (hb : b < s.heap.size ∧ va_X b 7 xs s s.heap) {M : gM} (hFr : gFr M) : G p l e room_1 s m #[Value.ref b] below meth c s.heap.size D cA 4 (lw_Z below #[Value.ref b] s) 206 87467 M 206 1332 [(3, gJ 0), (2, gA s.heap.size 190), (1, gA s.heap.size 0), (0, .ref b)] [] := by
  have rents := gFr_rents hFr
  have way := gFr_way hFr
  have beds := gFr_beds hFr
  have frost0 := gFr_frost0 hFr
  have rows0 := gFr_rows0 hFr
  have rooms0 := gFr_rooms0 hFr
  have tape0 := gFr_tape0 hFr
  have car0 := gFr_car0 hFr
  have hS := gFr_hS hFr
  obtain ⟨v0, e0, r0⟩ : ∃ z : Int, xs 0 = Int32.ofInt z ∧ -2147483648 ≤ z ∧ z ≤ 2147483647 := ⟨_, gi_of _, gi_rg _⟩
  obtain ⟨v1, e1, r1⟩ : ∃ z : Int, xs 1 = Int32.ofInt z ∧ -2147483648 ≤ z ∧ z ≤ 2147483647 := ⟨_, gi_of _, gi_rg _⟩
  obtain ⟨v2, e2, r2⟩ : ∃ z : Int, xs 2 = Int32.ofInt z ∧ -2147483648 ≤ z ∧ z ≤ 2147483647 := ⟨_, gi_of _, gi_rg _⟩
  obtain ⟨v3, e3, r3⟩ : ∃ z : Int, xs 3 = Int32.ofInt z ∧ -2147483648 ≤ z ∧ z ≤ 2147483647 := ⟨_, gi_of _, gi_rg _⟩
  obtain ⟨v4, e4, r4⟩ : ∃ z : Int, xs 4 = Int32.ofInt z ∧ -2147483648 ≤ z ∧ z ≤ 2147483647 := ⟨_, gi_of _, gi_rg _⟩
  obtain ⟨v5, e5, r5⟩ : ∃ z : Int, xs 5 = Int32.ofInt z ∧ -2147483648 ≤ z ∧ z ≤ 2147483647 := ⟨_, gi_of _, gi_rg _⟩
  obtain ⟨v6, e6, r6⟩ : ∃ z : Int, xs 6 = Int32.ofInt z ∧ -2147483648 ≤ z ∧ z ≤ 2147483647 := ⟨_, gi_of _, gi_rg _⟩
  refine g_aload_n (n := 1333) X 2 dL_law_1332 rfl rfl rfl ?_
  refine g_aload_n (n := 1334) X 3 dL_law_1333 rfl rfl rfl ?_
  refine g_iload_n (n := 1335) X 0 dL_law_1334 rfl rfl rfl ?_
  refine g_iconst (n := 1336) X dL_law_1335 rfl ?_
  refine g_iadd (n := 1337) (z := 1) X dL_law_1336 rfl rfl ?_
  refine g_scrld (n := 1338) (z := v1) X hb (by omega) (by omega) (by omega) dL_law_1337 rfl e1 ?_
  refine g_aload_n (n := 1339) X 3 dL_law_1338 rfl rfl rfl ?_
  refine g_iload_n (n := 1340) X 0 dL_law_1339 rfl rfl rfl ?_
  refine g_iconst (n := 1341) X dL_law_1340 rfl ?_
  refine g_iadd (n := 1342) (z := 2) X dL_law_1341 rfl rfl ?_
  refine g_scrld (n := 1343) (z := v2) X hb (by omega) (by omega) (by omega) dL_law_1342 rfl e2 ?_
  refine g_callVi (n := 1346) (As := [gJ v1, gJ v2]) (rest := []) (cs1 := 206) (ss1 := 87467) X (c_X11_gone v1 v2 (by omega) (by omega) (by omega) (gFr_0_0 hFr) (gFr_1_15 hFr)) okX11_gone kw_5_7 ⟨kw_5_8, kw_5_9⟩ ⟨rfl, rfl⟩ ⟨Nat.le_of_ble_eq_true rfl, Nat.le_of_ble_eq_true rfl⟩ rfl (by omega) (by omega) lay_0 rfl rfl (Nat.le_of_ble_eq_true rfl) ⟨Nat.le_of_ble_eq_true rfl, Nat.le_of_ble_eq_true rfl⟩ rfl rfl dL_law_1343 rfl (fun z1 M2 P3 => ?_)
  obtain ⟨P3, F4⟩ := P3
  refine g_aload_n (n := 1347) X 1 dL_law_1346 rfl rfl rfl ?_
  refine g_aload_n (n := 1348) X 3 dL_law_1347 rfl rfl rfl ?_
  refine g_iload_n (n := 1349) X 0 dL_law_1348 rfl rfl rfl ?_
  refine g_iconst (n := 1350) X dL_law_1349 rfl ?_
  refine g_iadd (n := 1351) (z := 1) X dL_law_1350 rfl rfl ?_
  refine g_scrld (n := 1352) (z := v1) X hb (by omega) (by omega) (by omega) dL_law_1351 rfl e1 ?_
  refine g_aload_n (n := 1353) X 3 dL_law_1352 rfl rfl rfl ?_
  refine g_iload_n (n := 1354) X 0 dL_law_1353 rfl rfl rfl ?_
  refine g_iconst (n := 1355) X dL_law_1354 rfl ?_
  refine g_iadd (n := 1356) (z := 2) X dL_law_1355 rfl rfl ?_
  refine g_scrld (n := 1357) (z := v2) X hb (by omega) (by omega) (by omega) dL_law_1356 rfl e2 ?_
  refine g_callVi (n := 1360) (As := [gJ v1, gJ v2]) (rest := [gJ z1]) (cs1 := 206) (ss1 := 87467) X (c_X12_gone v1 v2 (by omega) (by omega) (by omega) ((congrFun (F4 190) _).trans (gFr_190_1 hFr)) ((congrFun (F4 191) _).trans ((hS 0 (by omega) (by omega)).trans (by decide)))) okX12_gone kw_7_166 ⟨kw_7_167, kw_7_168⟩ ⟨rfl, rfl⟩ ⟨Nat.le_of_ble_eq_true rfl, Nat.le_of_ble_eq_true rfl⟩ rfl (by omega) (by omega) lay_190 rfl rfl (Nat.le_of_ble_eq_true rfl) ⟨Nat.le_of_ble_eq_true rfl, Nat.le_of_ble_eq_true rfl⟩ rfl rfl dL_law_1357 rfl (fun z5 M6 P7 => ?_)
  obtain ⟨P7, F8⟩ := P7
  refine g_icmp_eq (n := 1363) (tgt := 1992) X dL_law_1360 (by decide) (by omega) (by omega) rfl (fun c9 => ?_) (fun c9 => by exfalso; omega)
  exact law_tail X hr hb (by omega) (by omega)
theorem dL_law_1365 : decode code 1365 = .ok (.aload_n 1, 1) := by decide +kernel
theorem dL_law_1366 : decode code 1366 = .ok (.aload_n 0, 1) := by decide +kernel
theorem dL_law_1367 : decode code 1367 = .ok (.iload_n 3, 1) := by decide +kernel
theorem dL_law_1368 : decode code 1368 = .ok (.iconst 1, 1) := by decide +kernel
theorem dL_law_1369 : decode code 1369 = .ok (.iadd, 1) := by decide +kernel
theorem dL_law_1370 : decode code 1370 = .ok (.iaload, 1) := by decide +kernel
theorem dL_law_1371 : decode code 1371 = .ok (.aload_n 0, 1) := by decide +kernel
theorem dL_law_1372 : decode code 1372 = .ok (.iload_n 3, 1) := by decide +kernel
theorem dL_law_1373 : decode code 1373 = .ok (.iconst 2, 1) := by decide +kernel
theorem dL_law_1374 : decode code 1374 = .ok (.iadd, 1) := by decide +kernel
theorem dL_law_1375 : decode code 1375 = .ok (.iaload, 1) := by decide +kernel
theorem dL_law_1376 : decode code 1376 = .ok (.aload_n 0, 1) := by decide +kernel
theorem dL_law_1377 : decode code 1377 = .ok (.iload_n 3, 1) := by decide +kernel
theorem dL_law_1378 : decode code 1378 = .ok (.iconst 3, 1) := by decide +kernel
theorem dL_law_1379 : decode code 1379 = .ok (.iadd, 1) := by decide +kernel
theorem dL_law_1380 : decode code 1380 = .ok (.iaload, 1) := by decide +kernel
theorem dL_law_1381 : decode code 1381 = .ok (.invokevirtual 133, 3) := by decide +kernel
theorem kw_5_20 : (Jvm.Cond.methodLink "ParishUnionLaw" (133 : Nat) ({ cls := "ParishUnion", name := "was", desc := "(III)I" } : Jvm.MethodName)) ∈ gT := gT_of (tb_5 _ (List.mem_of_getElem? (i := 20) rfl)) rfl
theorem kw_5_23 : (Jvm.Cond.code ({ cls := "ParishUnion", name := "was", desc := "(III)I" } : Jvm.MethodName) prog_1_method_29_code (5 : Nat) (Option.some Jvm.ClassFile.FieldType.int)) ∈ gT := gT_of (tb_5 _ (List.mem_of_getElem? (i := 23) rfl)) rfl
theorem okX11_was : gQok yX11_was cX11_was 5 (Option.some Jvm.ClassFile.FieldType.int) 3 := ⟨kw_5_23, kw_1_1, by decide +kernel, by decide +kernel, by decide +kernel⟩
theorem kw_5_21 : (Jvm.Cond.instanceMethod ({ cls := "ParishUnion", name := "was", desc := "(III)I" } : Jvm.MethodName)) ∈ gT := gT_of (tb_5 _ (List.mem_of_getElem? (i := 21) rfl)) rfl
theorem kw_5_22 : (Jvm.Cond.selects "ParishUnion" ({ cls := "ParishUnion", name := "was", desc := "(III)I" } : Jvm.MethodName) ({ cls := "ParishUnion", name := "was", desc := "(III)I" } : Jvm.MethodName)) ∈ gT := gT_of (tb_5 _ (List.mem_of_getElem? (i := 22) rfl)) rfl
theorem dL_law_1384 : decode code 1384 = .ok (.aload_n 2, 1) := by decide +kernel
theorem dL_law_1385 : decode code 1385 = .ok (.aload_n 0, 1) := by decide +kernel
theorem dL_law_1386 : decode code 1386 = .ok (.iload_n 3, 1) := by decide +kernel
theorem dL_law_1387 : decode code 1387 = .ok (.iconst 1, 1) := by decide +kernel
theorem dL_law_1388 : decode code 1388 = .ok (.iadd, 1) := by decide +kernel
theorem dL_law_1389 : decode code 1389 = .ok (.iaload, 1) := by decide +kernel
theorem dL_law_1390 : decode code 1390 = .ok (.aload_n 0, 1) := by decide +kernel
theorem dL_law_1391 : decode code 1391 = .ok (.iload_n 3, 1) := by decide +kernel
theorem dL_law_1392 : decode code 1392 = .ok (.iconst 2, 1) := by decide +kernel
theorem dL_law_1393 : decode code 1393 = .ok (.iadd, 1) := by decide +kernel
theorem dL_law_1394 : decode code 1394 = .ok (.iaload, 1) := by decide +kernel
theorem dL_law_1395 : decode code 1395 = .ok (.aload_n 0, 1) := by decide +kernel
theorem dL_law_1396 : decode code 1396 = .ok (.iload_n 3, 1) := by decide +kernel
theorem dL_law_1397 : decode code 1397 = .ok (.iconst 3, 1) := by decide +kernel
theorem dL_law_1398 : decode code 1398 = .ok (.iadd, 1) := by decide +kernel
theorem dL_law_1399 : decode code 1399 = .ok (.iaload, 1) := by decide +kernel
theorem dL_law_1400 : decode code 1400 = .ok (.invokevirtual 136, 3) := by decide +kernel
theorem kw_7_178 : (Jvm.Cond.methodLink "ParishUnionLaw" (136 : Nat) ({ cls := "ParishUnionModel", name := "was", desc := "(III)I" } : Jvm.MethodName)) ∈ gT := gT_of (tb_7 _ (List.mem_of_getElem? (i := 178) rfl)) rfl
theorem kw_7_181 : (Jvm.Cond.code ({ cls := "ParishUnionModel", name := "was", desc := "(III)I" } : Jvm.MethodName) prog_14_method_81_code (4 : Nat) (Option.some Jvm.ClassFile.FieldType.int)) ∈ gT := gT_of (tb_7 _ (List.mem_of_getElem? (i := 181) rfl)) rfl
theorem okX12_was : gQok yX12_was cX12_was 4 (Option.some Jvm.ClassFile.FieldType.int) 3 := ⟨kw_7_181, kw_1_13, by decide +kernel, by decide +kernel, by decide +kernel⟩
theorem kw_7_179 : (Jvm.Cond.instanceMethod ({ cls := "ParishUnionModel", name := "was", desc := "(III)I" } : Jvm.MethodName)) ∈ gT := gT_of (tb_7 _ (List.mem_of_getElem? (i := 179) rfl)) rfl
theorem kw_7_180 : (Jvm.Cond.selects "ParishUnionModel" ({ cls := "ParishUnionModel", name := "was", desc := "(III)I" } : Jvm.MethodName) ({ cls := "ParishUnionModel", name := "was", desc := "(III)I" } : Jvm.MethodName)) ∈ gT := gT_of (tb_7 _ (List.mem_of_getElem? (i := 180) rfl)) rfl
theorem dL_law_1403 : decode code 1403 = .ok (.if_icmp .eq 589, 3) := by decide +kernel
set_option maxRecDepth 100000 in
set_option maxHeartbeats 4000000 in
theorem law_case_27 {p : Program} {e : Env} {s : State} {m : MethodId} {below : List Frame} {meth : Method} {c : Code} {l : Launch} {D : va_G} {cA : Nat → ClassId} {b : Nat} {xs : Nat → Int32} (X : gCx p s m #[Value.ref b] meth c s.heap.size D cA "ParishUnionLaw" code 4) (hr : meth.sig.returnType = ret) (hb : b < s.heap.size ∧ va_X b 7 xs s s.heap) {M : gM} (hFr : gFr M) : G p l e room_1 s m #[Value.ref b] below meth c s.heap.size D cA 4 (lw_Z below #[Value.ref b] s) 206 87467 M 206 1365 [(3, gJ 0), (2, gA s.heap.size 190), (1, gA s.heap.size 0), (0, .ref b)] [] := by
  have rents := gFr_rents hFr
  have way := gFr_way hFr
  have beds := gFr_beds hFr
  have frost0 := gFr_frost0 hFr
  have rows0 := gFr_rows0 hFr
  have rooms0 := gFr_rooms0 hFr
  have tape0 := gFr_tape0 hFr
  have car0 := gFr_car0 hFr
  have hS := gFr_hS hFr
  obtain ⟨v0, e0, r0⟩ : ∃ z : Int, xs 0 = Int32.ofInt z ∧ -2147483648 ≤ z ∧ z ≤ 2147483647 := ⟨_, gi_of _, gi_rg _⟩
  obtain ⟨v1, e1, r1⟩ : ∃ z : Int, xs 1 = Int32.ofInt z ∧ -2147483648 ≤ z ∧ z ≤ 2147483647 := ⟨_, gi_of _, gi_rg _⟩
  obtain ⟨v2, e2, r2⟩ : ∃ z : Int, xs 2 = Int32.ofInt z ∧ -2147483648 ≤ z ∧ z ≤ 2147483647 := ⟨_, gi_of _, gi_rg _⟩
  obtain ⟨v3, e3, r3⟩ : ∃ z : Int, xs 3 = Int32.ofInt z ∧ -2147483648 ≤ z ∧ z ≤ 2147483647 := ⟨_, gi_of _, gi_rg _⟩
  obtain ⟨v4, e4, r4⟩ : ∃ z : Int, xs 4 = Int32.ofInt z ∧ -2147483648 ≤ z ∧ z ≤ 2147483647 := ⟨_, gi_of _, gi_rg _⟩
  obtain ⟨v5, e5, r5⟩ : ∃ z : Int, xs 5 = Int32.ofInt z ∧ -2147483648 ≤ z ∧ z ≤ 2147483647 := ⟨_, gi_of _, gi_rg _⟩
  obtain ⟨v6, e6, r6⟩ : ∃ z : Int, xs 6 = Int32.ofInt z ∧ -2147483648 ≤ z ∧ z ≤ 2147483647 := ⟨_, gi_of _, gi_rg _⟩
  refine g_aload_n (n := 1366) X 2 dL_law_1365 rfl rfl rfl ?_
  refine g_aload_n (n := 1367) X 3 dL_law_1366 rfl rfl rfl ?_
  refine g_iload_n (n := 1368) X 0 dL_law_1367 rfl rfl rfl ?_
  refine g_iconst (n := 1369) X dL_law_1368 rfl ?_
  refine g_iadd (n := 1370) (z := 1) X dL_law_1369 rfl rfl ?_
  refine g_scrld (n := 1371) (z := v1) X hb (by omega) (by omega) (by omega) dL_law_1370 rfl e1 ?_
  refine g_aload_n (n := 1372) X 3 dL_law_1371 rfl rfl rfl ?_
  refine g_iload_n (n := 1373) X 0 dL_law_1372 rfl rfl rfl ?_
  refine g_iconst (n := 1374) X dL_law_1373 rfl ?_
  refine g_iadd (n := 1375) (z := 2) X dL_law_1374 rfl rfl ?_
  refine g_scrld (n := 1376) (z := v2) X hb (by omega) (by omega) (by omega) dL_law_1375 rfl e2 ?_
  refine g_aload_n (n := 1377) X 3 dL_law_1376 rfl rfl rfl ?_
  refine g_iload_n (n := 1378) X 0 dL_law_1377 rfl rfl rfl ?_
  refine g_iconst (n := 1379) X dL_law_1378 rfl ?_
  refine g_iadd (n := 1380) (z := 3) X dL_law_1379 rfl rfl ?_
  refine g_scrld (n := 1381) (z := v3) X hb (by omega) (by omega) (by omega) dL_law_1380 rfl e3 ?_
  refine g_callVi (n := 1384) (As := [gJ v1, gJ v2, gJ v3]) (rest := []) (cs1 := 206) (ss1 := 87467) X (c_X11_was v1 v2 v3 (by omega) (by omega) (by omega) (by omega) (gFr_0_0 hFr) (gFr_1_10 hFr)) okX11_was kw_5_20 ⟨kw_5_21, kw_5_22⟩ ⟨rfl, rfl⟩ ⟨Nat.le_of_ble_eq_true rfl, Nat.le_of_ble_eq_true rfl⟩ rfl (by omega) (by omega) lay_0 rfl rfl (Nat.le_of_ble_eq_true rfl) ⟨Nat.le_of_ble_eq_true rfl, Nat.le_of_ble_eq_true rfl⟩ rfl rfl dL_law_1381 rfl (fun z1 M2 P3 => ?_)
  obtain ⟨P3, F4⟩ := P3
  refine g_aload_n (n := 1385) X 1 dL_law_1384 rfl rfl rfl ?_
  refine g_aload_n (n := 1386) X 3 dL_law_1385 rfl rfl rfl ?_
  refine g_iload_n (n := 1387) X 0 dL_law_1386 rfl rfl rfl ?_
  refine g_iconst (n := 1388) X dL_law_1387 rfl ?_
  refine g_iadd (n := 1389) (z := 1) X dL_law_1388 rfl rfl ?_
  refine g_scrld (n := 1390) (z := v1) X hb (by omega) (by omega) (by omega) dL_law_1389 rfl e1 ?_
  refine g_aload_n (n := 1391) X 3 dL_law_1390 rfl rfl rfl ?_
  refine g_iload_n (n := 1392) X 0 dL_law_1391 rfl rfl rfl ?_
  refine g_iconst (n := 1393) X dL_law_1392 rfl ?_
  refine g_iadd (n := 1394) (z := 2) X dL_law_1393 rfl rfl ?_
  refine g_scrld (n := 1395) (z := v2) X hb (by omega) (by omega) (by omega) dL_law_1394 rfl e2 ?_
  refine g_aload_n (n := 1396) X 3 dL_law_1395 rfl rfl rfl ?_
  refine g_iload_n (n := 1397) X 0 dL_law_1396 rfl rfl rfl ?_
  refine g_iconst (n := 1398) X dL_law_1397 rfl ?_
  refine g_iadd (n := 1399) (z := 3) X dL_law_1398 rfl rfl ?_
  refine g_scrld (n := 1400) (z := v3) X hb (by omega) (by omega) (by omega) dL_law_1399 rfl e3 ?_
  refine g_callVi (n := 1403) (As := [gJ v1, gJ v2, gJ v3]) (rest := [gJ z1]) (cs1 := 206) (ss1 := 87467) X (c_X12_was v1 v2 v3 (by omega) (by omega) (by omega) (by omega) ((congrFun (F4 190) _).trans (gFr_190_1 hFr)) ((congrFun (F4 191) _).trans ((hS 0 (by omega) (by omega)).trans (by decide)))) okX12_was kw_7_178 ⟨kw_7_179, kw_7_180⟩ ⟨rfl, rfl⟩ ⟨Nat.le_of_ble_eq_true rfl, Nat.le_of_ble_eq_true rfl⟩ rfl (by omega) (by omega) lay_190 rfl rfl (Nat.le_of_ble_eq_true rfl) ⟨Nat.le_of_ble_eq_true rfl, Nat.le_of_ble_eq_true rfl⟩ rfl rfl dL_law_1400 rfl (fun z5 M6 P7 => ?_)
  obtain ⟨P7, F8⟩ := P7
  refine g_icmp_eq (n := 1406) (tgt := 1992) X dL_law_1403 (by decide) (by omega) (by omega) rfl (fun c9 => ?_) (fun c9 => by exfalso; omega)
  exact law_tail X hr hb (by omega) (by omega)
