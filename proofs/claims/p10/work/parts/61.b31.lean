theorem dL_law_1276 : decode code 1276 = .ok (.aload_n 1, 1) := dc_43 (by decide +kernel)
theorem dL_law_1277 : decode code 1277 = .ok (.aload_n 0, 1) := dc_42 (by decide +kernel)
theorem dL_law_1278 : decode code 1278 = .ok (.iload_n 3, 1) := dc_29 (by decide +kernel)
theorem dL_law_1279 : decode code 1279 = .ok (.iconst 1, 1) := dc_4 (by decide +kernel)
theorem dL_law_1280 : decode code 1280 = .ok (.iadd, 1) := dc_96 (by decide +kernel)
theorem dL_law_1281 : decode code 1281 = .ok (.iaload, 1) := dc_46 (by decide +kernel)
theorem dL_law_1282 : decode code 1282 = .ok (.aload_n 0, 1) := dc_42 (by decide +kernel)
theorem dL_law_1283 : decode code 1283 = .ok (.iload_n 3, 1) := dc_29 (by decide +kernel)
theorem dL_law_1284 : decode code 1284 = .ok (.iconst 2, 1) := dc_5 (by decide +kernel)
theorem dL_law_1285 : decode code 1285 = .ok (.iadd, 1) := dc_96 (by decide +kernel)
theorem dL_law_1286 : decode code 1286 = .ok (.iaload, 1) := dc_46 (by decide +kernel)
theorem dL_law_1287 : decode code 1287 = .ok (.invokevirtual 121, 3) := dc_182 0 121 (by decide +kernel)
theorem kw_4_167 : (Jvm.Cond.methodLink "ParishUnionLaw" (121 : Nat) ({ cls := "ParishUnion", name := "heard", desc := "(II)I" } : Jvm.MethodName)) ∈ gT := gT_of (tb_4 _ (List.mem_of_getElem? (i := 167) rfl)) rfl
theorem kw_4_170 : (Jvm.Cond.code ({ cls := "ParishUnion", name := "heard", desc := "(II)I" } : Jvm.MethodName) prog_1_method_26_code (3 : Nat) (Option.some Jvm.ClassFile.FieldType.int)) ∈ gT := gT_of (tb_4 _ (List.mem_of_getElem? (i := 170) rfl)) rfl
theorem okX11_heard : gQok yX11_heard cX11_heard 3 (Option.some Jvm.ClassFile.FieldType.int) 2 := ⟨kw_4_170, kw_1_1, by decide +kernel, by decide +kernel, by decide +kernel⟩
theorem kw_4_168 : (Jvm.Cond.instanceMethod ({ cls := "ParishUnion", name := "heard", desc := "(II)I" } : Jvm.MethodName)) ∈ gT := gT_of (tb_4 _ (List.mem_of_getElem? (i := 168) rfl)) rfl
theorem kw_4_169 : (Jvm.Cond.selects "ParishUnion" ({ cls := "ParishUnion", name := "heard", desc := "(II)I" } : Jvm.MethodName) ({ cls := "ParishUnion", name := "heard", desc := "(II)I" } : Jvm.MethodName)) ∈ gT := gT_of (tb_4 _ (List.mem_of_getElem? (i := 169) rfl)) rfl
theorem dL_law_1290 : decode code 1290 = .ok (.pop, 1) := dc_87 (by decide +kernel)
theorem dL_law_1291 : decode code 1291 = .ok (.aload_n 2, 1) := dc_44 (by decide +kernel)
theorem dL_law_1292 : decode code 1292 = .ok (.aload_n 0, 1) := dc_42 (by decide +kernel)
theorem dL_law_1293 : decode code 1293 = .ok (.iload_n 3, 1) := dc_29 (by decide +kernel)
theorem dL_law_1294 : decode code 1294 = .ok (.iconst 1, 1) := dc_4 (by decide +kernel)
theorem dL_law_1295 : decode code 1295 = .ok (.iadd, 1) := dc_96 (by decide +kernel)
theorem dL_law_1296 : decode code 1296 = .ok (.iaload, 1) := dc_46 (by decide +kernel)
theorem dL_law_1297 : decode code 1297 = .ok (.aload_n 0, 1) := dc_42 (by decide +kernel)
theorem dL_law_1298 : decode code 1298 = .ok (.iload_n 3, 1) := dc_29 (by decide +kernel)
theorem dL_law_1299 : decode code 1299 = .ok (.iconst 2, 1) := dc_5 (by decide +kernel)
theorem dL_law_1300 : decode code 1300 = .ok (.iadd, 1) := dc_96 (by decide +kernel)
theorem dL_law_1301 : decode code 1301 = .ok (.iaload, 1) := dc_46 (by decide +kernel)
theorem dL_law_1302 : decode code 1302 = .ok (.invokevirtual 124, 3) := dc_182 0 124 (by decide +kernel)
theorem kw_7_130 : (Jvm.Cond.methodLink "ParishUnionLaw" (124 : Nat) ({ cls := "ParishUnionModel", name := "heard", desc := "(II)I" } : Jvm.MethodName)) ∈ gT := gT_of (tb_7 _ (List.mem_of_getElem? (i := 130) rfl)) rfl
theorem kw_7_133 : (Jvm.Cond.code ({ cls := "ParishUnionModel", name := "heard", desc := "(II)I" } : Jvm.MethodName) prog_14_method_71_code (3 : Nat) (Option.some Jvm.ClassFile.FieldType.int)) ∈ gT := gT_of (tb_7 _ (List.mem_of_getElem? (i := 133) rfl)) rfl
theorem okX12_heard : gQok yX12_heard cX12_heard 3 (Option.some Jvm.ClassFile.FieldType.int) 2 := ⟨kw_7_133, kw_1_13, by decide +kernel, by decide +kernel, by decide +kernel⟩
theorem kw_7_131 : (Jvm.Cond.instanceMethod ({ cls := "ParishUnionModel", name := "heard", desc := "(II)I" } : Jvm.MethodName)) ∈ gT := gT_of (tb_7 _ (List.mem_of_getElem? (i := 131) rfl)) rfl
theorem kw_7_132 : (Jvm.Cond.selects "ParishUnionModel" ({ cls := "ParishUnionModel", name := "heard", desc := "(II)I" } : Jvm.MethodName) ({ cls := "ParishUnionModel", name := "heard", desc := "(II)I" } : Jvm.MethodName)) ∈ gT := gT_of (tb_7 _ (List.mem_of_getElem? (i := 132) rfl)) rfl
theorem dL_law_1305 : decode code 1305 = .ok (.pop, 1) := dc_87 (by decide +kernel)
theorem dL_law_1306 : decode code 1306 = .ok (.goto 686, 3) := dc_167 2 174 686 (by decide +kernel)
set_option maxRecDepth 100000 in
set_option maxHeartbeats 4000000 in
theorem law_case_24 {p : Program} {e : Env} {s : State} {m : MethodId} {below : List Frame} {meth : Method} {cd : Code} {l : Launch} {D : va_G} {cA : Nat → ClassId} {b Ln : Nat} {xs : Nat → Int32} (X : gCx p s m #[Value.ref b] meth cd s.heap.size D cA "ParishUnionLaw" code 4) (hr : meth.sig.returnType = ret) (hb : b < s.heap.size ∧ va_X b Ln xs s s.heap) (hLn : Ln ≤ 3584) {sz cs ss : Nat} {M : gM} (L : lwI sz cs ss M) (i : Int) (hi : 0 ≤ i ∧ i + 7 ≤ (Ln : Int)) (kk : ∀ (sz cs ss : Nat) (M1 : gM), lwI sz cs ss M1 → G p l e room_1 s m #[Value.ref b] below meth cd s.heap.size D cA 4 (lw_Z below #[Value.ref b] s) cs ss M1 sz 1992 [(3, gJ i), (2, gA s.heap.size 190), (1, gA s.heap.size 0), (0, .ref b)] []) : G p l e room_1 s m #[Value.ref b] below meth cd s.heap.size D cA 4 (lw_Z below #[Value.ref b] s) cs ss M sz 1276 [(3, gJ i), (2, gA s.heap.size 190), (1, gA s.heap.size 0), (0, .ref b)] [] := by
  obtain ⟨hsz, I, C, W, LA, LB, LK, LR⟩ := L
  have hN := gN_of hsz I
  obtain ⟨ac, hac, rac⟩ : ∃ v : Int, M 1 13 = v ∧ (0 ≤ v ∧ v ≤ 10) := by
    obtain ⟨v, hv, rv⟩ := gRd I (by decide) (gsz hsz (by decide)) rc_1_13.1
    exact ⟨v, hv, by omega⟩
  obtain ⟨ab, hab, rab⟩ : ∃ v : Int, M 191 4 = v ∧ (0 ≤ v ∧ v ≤ 10) := by
    obtain ⟨v, hv, rv⟩ := gRd I (by decide) (gsz hsz (by decide)) (rs_NA (k := 4) (by omega)).1
    exact ⟨v, hv, by omega⟩
  have hRm : cs + 0 ≤ room_1.cells ∧ ss + 0 ≤ room_1.slots := by
    show cs + 0 ≤ 349274 ∧ ss + 0 ≤ 8054428
    have := lwK.room LK
    omega
  obtain ⟨u1, eu1, ru1⟩ : ∃ z : Int, xs (i + 1).toNat = Int32.ofInt z ∧ (-2147483648 ≤ z ∧ z ≤ 2147483647) := ⟨_, gi_of _, gi_rg _⟩
  obtain ⟨u2, eu2, ru2⟩ : ∃ z : Int, xs (i + 2).toNat = Int32.ofInt z ∧ (-2147483648 ≤ z ∧ z ≤ 2147483647) := ⟨_, gi_of _, gi_rg _⟩
  obtain ⟨u3, eu3, ru3⟩ : ∃ z : Int, xs (i + 3).toNat = Int32.ofInt z ∧ (-2147483648 ≤ z ∧ z ≤ 2147483647) := ⟨_, gi_of _, gi_rg _⟩
  obtain ⟨u4, eu4, ru4⟩ : ∃ z : Int, xs (i + 4).toNat = Int32.ofInt z ∧ (-2147483648 ≤ z ∧ z ≤ 2147483647) := ⟨_, gi_of _, gi_rg _⟩
  obtain ⟨u5, eu5, ru5⟩ : ∃ z : Int, xs (i + 5).toNat = Int32.ofInt z ∧ (-2147483648 ≤ z ∧ z ≤ 2147483647) := ⟨_, gi_of _, gi_rg _⟩
  obtain ⟨u6, eu6, ru6⟩ : ∃ z : Int, xs (i + 6).toNat = Int32.ofInt z ∧ (-2147483648 ≤ z ∧ z ≤ 2147483647) := ⟨_, gi_of _, gi_rg _⟩
  refine g_aload_n (n := 1277) X 2 dL_law_1276 rfl rfl rfl ?_
  refine g_aload_n (n := 1278) X 3 dL_law_1277 rfl rfl rfl ?_
  refine g_iload_n (n := 1279) X 0 dL_law_1278 rfl rfl rfl ?_
  refine g_iconst (n := 1280) X dL_law_1279 rfl ?_
  refine g_iadd (n := 1281) (z := i + 1) X dL_law_1280 (by omega) rfl ?_
  refine g_scrld (n := 1282) (z := u1) X hb (by omega) (by omega) (by omega) dL_law_1281 rfl eu1 ?_
  refine g_aload_n (n := 1283) X 3 dL_law_1282 rfl rfl rfl ?_
  refine g_iload_n (n := 1284) X 0 dL_law_1283 rfl rfl rfl ?_
  refine g_iconst (n := 1285) X dL_law_1284 rfl ?_
  refine g_iadd (n := 1286) (z := i + 2) X dL_law_1285 (by omega) rfl ?_
  refine g_scrld (n := 1287) (z := u2) X hb (by omega) (by omega) (by omega) dL_law_1286 rfl eu2 ?_
  refine g_callVi (n := 1290) (As := [gJ u1, gJ u2]) (rest := []) (cs1 := cs) (ss1 := ss) X (s_X11_heard u1 (by omega) u2 (by omega) hsz I C ) okX11_heard kw_4_167 ⟨kw_4_168, kw_4_169⟩ ⟨rfl, rfl⟩ ⟨Nat.le_of_ble_eq_true rfl, Nat.le_of_ble_eq_true rfl⟩ rfl (by decide) (gsz hsz (by decide)) lay_0 rfl rfl (Nat.le_of_ble_eq_true rfl) hRm rfl rfl dL_law_1287 rfl (fun v1 M2 P3 => ?_)
  obtain ⟨rfl, rv1⟩ := P3
  refine g_pop (n := 1291) X dL_law_1290 rfl rfl ?_
  refine g_aload_n (n := 1292) X 1 dL_law_1291 rfl rfl rfl ?_
  refine g_aload_n (n := 1293) X 3 dL_law_1292 rfl rfl rfl ?_
  refine g_iload_n (n := 1294) X 0 dL_law_1293 rfl rfl rfl ?_
  refine g_iconst (n := 1295) X dL_law_1294 rfl ?_
  refine g_iadd (n := 1296) (z := i + 1) X dL_law_1295 (by omega) rfl ?_
  refine g_scrld (n := 1297) (z := u1) X hb (by omega) (by omega) (by omega) dL_law_1296 rfl eu1 ?_
  refine g_aload_n (n := 1298) X 3 dL_law_1297 rfl rfl rfl ?_
  refine g_iload_n (n := 1299) X 0 dL_law_1298 rfl rfl rfl ?_
  refine g_iconst (n := 1300) X dL_law_1299 rfl ?_
  refine g_iadd (n := 1301) (z := i + 2) X dL_law_1300 (by omega) rfl ?_
  refine g_scrld (n := 1302) (z := u2) X hb (by omega) (by omega) (by omega) dL_law_1301 rfl eu2 ?_
  refine g_callVi (n := 1305) (As := [gJ u1, gJ u2]) (rest := []) (cs1 := cs) (ss1 := ss) X (s_X12_heard u1 (by omega) u2 (by omega) hsz I C ) okX12_heard kw_7_130 ⟨kw_7_131, kw_7_132⟩ ⟨rfl, rfl⟩ ⟨Nat.le_of_ble_eq_true rfl, Nat.le_of_ble_eq_true rfl⟩ rfl (by decide) (gsz hsz (by decide)) lay_190 rfl rfl (Nat.le_of_ble_eq_true rfl) hRm rfl rfl dL_law_1302 rfl (fun v4 M5 P6 => ?_)
  obtain ⟨rfl, rv4⟩ := P6
  refine g_pop (n := 1306) X dL_law_1305 rfl rfl ?_
  refine g_goto (tgt := 1992) X dL_law_1306 (by decide) ?_
  exact kk _ _ _ _ ⟨hsz, I, C, W, LA, LB, (lwK.fr LK (gFr.rf : gFr 0 M M) rfl), ⟨LR.1, LR.2.1, LR.2.2.1, LR.2.2.2.1, LR.2.2.2.2.1, LR.2.2.2.2.2.1, LR.2.2.2.2.2.2.1, LR.2.2.2.2.2.2.2.1, LR.2.2.2.2.2.2.2.2.1, LR.2.2.2.2.2.2.2.2.2.1, LR.2.2.2.2.2.2.2.2.2.2.1, LR.2.2.2.2.2.2.2.2.2.2.2.1, LR.2.2.2.2.2.2.2.2.2.2.2.2⟩⟩
theorem dL_law_1309 : decode code 1309 = .ok (.aload_n 1, 1) := dc_43 (by decide +kernel)
theorem dL_law_1310 : decode code 1310 = .ok (.aload_n 0, 1) := dc_42 (by decide +kernel)
theorem dL_law_1311 : decode code 1311 = .ok (.iload_n 3, 1) := dc_29 (by decide +kernel)
theorem dL_law_1312 : decode code 1312 = .ok (.iconst 1, 1) := dc_4 (by decide +kernel)
theorem dL_law_1313 : decode code 1313 = .ok (.iadd, 1) := dc_96 (by decide +kernel)
theorem dL_law_1314 : decode code 1314 = .ok (.iaload, 1) := dc_46 (by decide +kernel)
theorem dL_law_1315 : decode code 1315 = .ok (.invokevirtual 125, 3) := dc_182 0 125 (by decide +kernel)
theorem kw_4_181 : (Jvm.Cond.methodLink "ParishUnionLaw" (125 : Nat) ({ cls := "ParishUnion", name := "week", desc := "(I)I" } : Jvm.MethodName)) ∈ gT := gT_of (tb_4 _ (List.mem_of_getElem? (i := 181) rfl)) rfl
theorem kw_4_184 : (Jvm.Cond.code ({ cls := "ParishUnion", name := "week", desc := "(I)I" } : Jvm.MethodName) prog_1_method_27_code (2 : Nat) (Option.some Jvm.ClassFile.FieldType.int)) ∈ gT := gT_of (tb_4 _ (List.mem_of_getElem? (i := 184) rfl)) rfl
theorem okX11_week : gQok yX11_week cX11_week 2 (Option.some Jvm.ClassFile.FieldType.int) 1 := ⟨kw_4_184, kw_1_1, by decide +kernel, by decide +kernel, by decide +kernel⟩
theorem kw_4_182 : (Jvm.Cond.instanceMethod ({ cls := "ParishUnion", name := "week", desc := "(I)I" } : Jvm.MethodName)) ∈ gT := gT_of (tb_4 _ (List.mem_of_getElem? (i := 182) rfl)) rfl
theorem kw_4_183 : (Jvm.Cond.selects "ParishUnion" ({ cls := "ParishUnion", name := "week", desc := "(I)I" } : Jvm.MethodName) ({ cls := "ParishUnion", name := "week", desc := "(I)I" } : Jvm.MethodName)) ∈ gT := gT_of (tb_4 _ (List.mem_of_getElem? (i := 183) rfl)) rfl
theorem dL_law_1318 : decode code 1318 = .ok (.pop, 1) := dc_87 (by decide +kernel)
theorem dL_law_1319 : decode code 1319 = .ok (.aload_n 2, 1) := dc_44 (by decide +kernel)
theorem dL_law_1320 : decode code 1320 = .ok (.aload_n 0, 1) := dc_42 (by decide +kernel)
theorem dL_law_1321 : decode code 1321 = .ok (.iload_n 3, 1) := dc_29 (by decide +kernel)
theorem dL_law_1322 : decode code 1322 = .ok (.iconst 1, 1) := dc_4 (by decide +kernel)
theorem dL_law_1323 : decode code 1323 = .ok (.iadd, 1) := dc_96 (by decide +kernel)
theorem dL_law_1324 : decode code 1324 = .ok (.iaload, 1) := dc_46 (by decide +kernel)
theorem dL_law_1325 : decode code 1325 = .ok (.invokevirtual 128, 3) := dc_182 0 128 (by decide +kernel)
theorem kw_7_138 : (Jvm.Cond.methodLink "ParishUnionLaw" (128 : Nat) ({ cls := "ParishUnionModel", name := "week", desc := "(I)I" } : Jvm.MethodName)) ∈ gT := gT_of (tb_7 _ (List.mem_of_getElem? (i := 138) rfl)) rfl
theorem kw_7_141 : (Jvm.Cond.code ({ cls := "ParishUnionModel", name := "week", desc := "(I)I" } : Jvm.MethodName) prog_14_method_78_code (3 : Nat) (Option.some Jvm.ClassFile.FieldType.int)) ∈ gT := gT_of (tb_7 _ (List.mem_of_getElem? (i := 141) rfl)) rfl
theorem okX12_week : gQok yX12_week cX12_week 3 (Option.some Jvm.ClassFile.FieldType.int) 1 := ⟨kw_7_141, kw_1_13, by decide +kernel, by decide +kernel, by decide +kernel⟩
theorem kw_7_139 : (Jvm.Cond.instanceMethod ({ cls := "ParishUnionModel", name := "week", desc := "(I)I" } : Jvm.MethodName)) ∈ gT := gT_of (tb_7 _ (List.mem_of_getElem? (i := 139) rfl)) rfl
theorem kw_7_140 : (Jvm.Cond.selects "ParishUnionModel" ({ cls := "ParishUnionModel", name := "week", desc := "(I)I" } : Jvm.MethodName) ({ cls := "ParishUnionModel", name := "week", desc := "(I)I" } : Jvm.MethodName)) ∈ gT := gT_of (tb_7 _ (List.mem_of_getElem? (i := 140) rfl)) rfl
theorem dL_law_1328 : decode code 1328 = .ok (.pop, 1) := dc_87 (by decide +kernel)
theorem dL_law_1329 : decode code 1329 = .ok (.goto 663, 3) := dc_167 2 151 663 (by decide +kernel)
set_option maxRecDepth 100000 in
set_option maxHeartbeats 4000000 in
theorem law_case_25 {p : Program} {e : Env} {s : State} {m : MethodId} {below : List Frame} {meth : Method} {cd : Code} {l : Launch} {D : va_G} {cA : Nat → ClassId} {b Ln : Nat} {xs : Nat → Int32} (X : gCx p s m #[Value.ref b] meth cd s.heap.size D cA "ParishUnionLaw" code 4) (hr : meth.sig.returnType = ret) (hb : b < s.heap.size ∧ va_X b Ln xs s s.heap) (hLn : Ln ≤ 3584) {sz cs ss : Nat} {M : gM} (L : lwI sz cs ss M) (i : Int) (hi : 0 ≤ i ∧ i + 7 ≤ (Ln : Int)) (kk : ∀ (sz cs ss : Nat) (M1 : gM), lwI sz cs ss M1 → G p l e room_1 s m #[Value.ref b] below meth cd s.heap.size D cA 4 (lw_Z below #[Value.ref b] s) cs ss M1 sz 1992 [(3, gJ i), (2, gA s.heap.size 190), (1, gA s.heap.size 0), (0, .ref b)] []) : G p l e room_1 s m #[Value.ref b] below meth cd s.heap.size D cA 4 (lw_Z below #[Value.ref b] s) cs ss M sz 1309 [(3, gJ i), (2, gA s.heap.size 190), (1, gA s.heap.size 0), (0, .ref b)] [] := by
  obtain ⟨hsz, I, C, W, LA, LB, LK, LR⟩ := L
  have hN := gN_of hsz I
  obtain ⟨ac, hac, rac⟩ : ∃ v : Int, M 1 13 = v ∧ (0 ≤ v ∧ v ≤ 10) := by
    obtain ⟨v, hv, rv⟩ := gRd I (by decide) (gsz hsz (by decide)) rc_1_13.1
    exact ⟨v, hv, by omega⟩
  obtain ⟨ab, hab, rab⟩ : ∃ v : Int, M 191 4 = v ∧ (0 ≤ v ∧ v ≤ 10) := by
    obtain ⟨v, hv, rv⟩ := gRd I (by decide) (gsz hsz (by decide)) (rs_NA (k := 4) (by omega)).1
    exact ⟨v, hv, by omega⟩
  have hRm : cs + 0 ≤ room_1.cells ∧ ss + 0 ≤ room_1.slots := by
    show cs + 0 ≤ 349274 ∧ ss + 0 ≤ 8054428
    have := lwK.room LK
    omega
  obtain ⟨u1, eu1, ru1⟩ : ∃ z : Int, xs (i + 1).toNat = Int32.ofInt z ∧ (-2147483648 ≤ z ∧ z ≤ 2147483647) := ⟨_, gi_of _, gi_rg _⟩
  obtain ⟨u2, eu2, ru2⟩ : ∃ z : Int, xs (i + 2).toNat = Int32.ofInt z ∧ (-2147483648 ≤ z ∧ z ≤ 2147483647) := ⟨_, gi_of _, gi_rg _⟩
  obtain ⟨u3, eu3, ru3⟩ : ∃ z : Int, xs (i + 3).toNat = Int32.ofInt z ∧ (-2147483648 ≤ z ∧ z ≤ 2147483647) := ⟨_, gi_of _, gi_rg _⟩
  obtain ⟨u4, eu4, ru4⟩ : ∃ z : Int, xs (i + 4).toNat = Int32.ofInt z ∧ (-2147483648 ≤ z ∧ z ≤ 2147483647) := ⟨_, gi_of _, gi_rg _⟩
  obtain ⟨u5, eu5, ru5⟩ : ∃ z : Int, xs (i + 5).toNat = Int32.ofInt z ∧ (-2147483648 ≤ z ∧ z ≤ 2147483647) := ⟨_, gi_of _, gi_rg _⟩
  obtain ⟨u6, eu6, ru6⟩ : ∃ z : Int, xs (i + 6).toNat = Int32.ofInt z ∧ (-2147483648 ≤ z ∧ z ≤ 2147483647) := ⟨_, gi_of _, gi_rg _⟩
  refine g_aload_n (n := 1310) X 2 dL_law_1309 rfl rfl rfl ?_
  refine g_aload_n (n := 1311) X 3 dL_law_1310 rfl rfl rfl ?_
  refine g_iload_n (n := 1312) X 0 dL_law_1311 rfl rfl rfl ?_
  refine g_iconst (n := 1313) X dL_law_1312 rfl ?_
  refine g_iadd (n := 1314) (z := i + 1) X dL_law_1313 (by omega) rfl ?_
  refine g_scrld (n := 1315) (z := u1) X hb (by omega) (by omega) (by omega) dL_law_1314 rfl eu1 ?_
  refine g_callVi (n := 1318) (As := [gJ u1]) (rest := []) (cs1 := cs) (ss1 := ss) X (s_X11_week u1 (by omega) hsz I C ) okX11_week kw_4_181 ⟨kw_4_182, kw_4_183⟩ ⟨rfl, rfl⟩ ⟨Nat.le_of_ble_eq_true rfl, Nat.le_of_ble_eq_true rfl⟩ rfl (by decide) (gsz hsz (by decide)) lay_0 rfl rfl (Nat.le_of_ble_eq_true rfl) hRm rfl rfl dL_law_1315 rfl (fun v1 M2 P3 => ?_)
  obtain ⟨rv1, IM2, CM2, FM2, xM2⟩ := P3
  refine g_pop (n := 1319) X dL_law_1318 rfl rfl ?_
  refine g_aload_n (n := 1320) X 1 dL_law_1319 rfl rfl rfl ?_
  refine g_aload_n (n := 1321) X 3 dL_law_1320 rfl rfl rfl ?_
  refine g_iload_n (n := 1322) X 0 dL_law_1321 rfl rfl rfl ?_
  refine g_iconst (n := 1323) X dL_law_1322 rfl ?_
  refine g_iadd (n := 1324) (z := i + 1) X dL_law_1323 (by omega) rfl ?_
  refine g_scrld (n := 1325) (z := u1) X hb (by omega) (by omega) (by omega) dL_law_1324 rfl eu1 ?_
  refine g_callVi (n := 1328) (As := [gJ u1]) (rest := []) (cs1 := cs) (ss1 := ss) X (s_X12_week u1 (by omega) hsz IM2 CM2 (gW.fr (S := 50399312) W ⟨sz, hsz, I⟩ (gFr.c gFr.rf FM2 rfl) rfl)) okX12_week kw_7_138 ⟨kw_7_139, kw_7_140⟩ ⟨rfl, rfl⟩ ⟨Nat.le_of_ble_eq_true rfl, Nat.le_of_ble_eq_true rfl⟩ rfl (by decide) (gsz hsz (by decide)) lay_190 rfl rfl (Nat.le_of_ble_eq_true rfl) hRm rfl rfl dL_law_1325 rfl (fun v4 M5 P6 => ?_)
  obtain ⟨rv4, IM5, CM5, FM5, xM5⟩ := P6
  refine g_pop (n := 1329) X dL_law_1328 rfl rfl ?_
  refine g_goto (tgt := 1992) X dL_law_1329 (by decide) ?_
  have ex0 : M5 1 15 = M2 1 15 := gFr.at FM5 rc_1_15.2.2 rfl
  have em0 : M2 191 0 = M 191 0 := gFr.at FM2 (rs_NOW (k := 0) (by omega)).2.2 rfl
  have lr0 : M 1 15 = M 191 0 := LR.1
  have lr1 : M 1 10 = M 191 1 := LR.2.1
  have lr4 : M 1 11 = M 191 2 := LR.2.2.2.2.1
  have lr5 : M 1 12 = M 191 3 := LR.2.2.2.2.2.1
  have xa := xM2
  have xb := xM5.2
  have hR_now : rl_now 1 191 M5 := (by omega : M5 1 15 = M5 191 0)
  exact kk _ _ _ _ ⟨hsz, IM5, CM5, xM5.1, (by rw [((gFr.at FM5 rc_1_13.2.2 rfl).trans (gFr.at FM2 rc_1_13.2.2 rfl))]; exact LA), (by rw [((gFr.at FM5 (rs_NA (k := 4) (by omega)).2.2 rfl).trans (gFr.at FM2 (rs_NA (k := 4) (by omega)).2.2 rfl))]; exact LB), (lwK.fr LK ((gFr.c (gFr.c gFr.rf FM2 rfl) FM5 rfl) : gFr 2475884181819525777930127440 M M5) rfl), ⟨hR_now, (rl_npers.fr (rl_npers.fr LR.2.1 hN FM2 rfl) (gN_of hsz IM2) FM5 rfl), (rl_sex.fr (rl_sex.fr LR.2.2.1 hN FM2 rfl) (gN_of hsz IM2) FM5 rfl), (rl_born.fr (rl_born.fr LR.2.2.2.1 hN FM2 rfl) (gN_of hsz IM2) FM5 rfl), (rl_nright.fr (rl_nright.fr LR.2.2.2.2.1 hN FM2 rfl) (gN_of hsz IM2) FM5 rfl), (rl_nent.fr (rl_nent.fr LR.2.2.2.2.2.1 hN FM2 rfl) (gN_of hsz IM2) FM5 rfl), (rl_rkind.fr (rl_rkind.fr LR.2.2.2.2.2.2.1 hN FM2 rfl) (gN_of hsz IM2) FM5 rfl), (rl_rwho.fr (rl_rwho.fr LR.2.2.2.2.2.2.2.1 hN FM2 rfl) (gN_of hsz IM2) FM5 rfl), (rl_rto.fr (rl_rto.fr LR.2.2.2.2.2.2.2.2.1 hN FM2 rfl) (gN_of hsz IM2) FM5 rfl), (rl_rn.fr (rl_rn.fr LR.2.2.2.2.2.2.2.2.2.1 hN FM2 rfl) (gN_of hsz IM2) FM5 rfl), (rl_rweek.fr (rl_rweek.fr LR.2.2.2.2.2.2.2.2.2.2.1 hN FM2 rfl) (gN_of hsz IM2) FM5 rfl), (rl_rsure.fr (rl_rsure.fr LR.2.2.2.2.2.2.2.2.2.2.2.1 hN FM2 rfl) (gN_of hsz IM2) FM5 rfl), (rl_proofs.fr (rl_proofs.fr LR.2.2.2.2.2.2.2.2.2.2.2.2 hN FM2 rfl) (gN_of hsz IM2) FM5 rfl)⟩⟩
theorem dL_law_1332 : decode code 1332 = .ok (.aload_n 1, 1) := dc_43 (by decide +kernel)
theorem dL_law_1333 : decode code 1333 = .ok (.aload_n 0, 1) := dc_42 (by decide +kernel)
theorem dL_law_1334 : decode code 1334 = .ok (.iload_n 3, 1) := dc_29 (by decide +kernel)
theorem dL_law_1335 : decode code 1335 = .ok (.iconst 1, 1) := dc_4 (by decide +kernel)
theorem dL_law_1336 : decode code 1336 = .ok (.iadd, 1) := dc_96 (by decide +kernel)
theorem dL_law_1337 : decode code 1337 = .ok (.iaload, 1) := dc_46 (by decide +kernel)
theorem dL_law_1338 : decode code 1338 = .ok (.aload_n 0, 1) := dc_42 (by decide +kernel)
theorem dL_law_1339 : decode code 1339 = .ok (.iload_n 3, 1) := dc_29 (by decide +kernel)
theorem dL_law_1340 : decode code 1340 = .ok (.iconst 2, 1) := dc_5 (by decide +kernel)
theorem dL_law_1341 : decode code 1341 = .ok (.iadd, 1) := dc_96 (by decide +kernel)
theorem dL_law_1342 : decode code 1342 = .ok (.iaload, 1) := dc_46 (by decide +kernel)
theorem dL_law_1343 : decode code 1343 = .ok (.invokevirtual 129, 3) := dc_182 0 129 (by decide +kernel)
theorem kw_5_7 : (Jvm.Cond.methodLink "ParishUnionLaw" (129 : Nat) ({ cls := "ParishUnion", name := "gone", desc := "(II)I" } : Jvm.MethodName)) ∈ gT := gT_of (tb_5 _ (List.mem_of_getElem? (i := 7) rfl)) rfl
theorem kw_5_10 : (Jvm.Cond.code ({ cls := "ParishUnion", name := "gone", desc := "(II)I" } : Jvm.MethodName) prog_1_method_28_code (3 : Nat) (Option.some Jvm.ClassFile.FieldType.int)) ∈ gT := gT_of (tb_5 _ (List.mem_of_getElem? (i := 10) rfl)) rfl
theorem okX11_gone : gQok yX11_gone cX11_gone 3 (Option.some Jvm.ClassFile.FieldType.int) 2 := ⟨kw_5_10, kw_1_1, by decide +kernel, by decide +kernel, by decide +kernel⟩
theorem kw_5_8 : (Jvm.Cond.instanceMethod ({ cls := "ParishUnion", name := "gone", desc := "(II)I" } : Jvm.MethodName)) ∈ gT := gT_of (tb_5 _ (List.mem_of_getElem? (i := 8) rfl)) rfl
theorem kw_5_9 : (Jvm.Cond.selects "ParishUnion" ({ cls := "ParishUnion", name := "gone", desc := "(II)I" } : Jvm.MethodName) ({ cls := "ParishUnion", name := "gone", desc := "(II)I" } : Jvm.MethodName)) ∈ gT := gT_of (tb_5 _ (List.mem_of_getElem? (i := 9) rfl)) rfl
theorem dL_law_1346 : decode code 1346 = .ok (.pop, 1) := dc_87 (by decide +kernel)
theorem dL_law_1347 : decode code 1347 = .ok (.aload_n 2, 1) := dc_44 (by decide +kernel)
theorem dL_law_1348 : decode code 1348 = .ok (.aload_n 0, 1) := dc_42 (by decide +kernel)
theorem dL_law_1349 : decode code 1349 = .ok (.iload_n 3, 1) := dc_29 (by decide +kernel)
theorem dL_law_1350 : decode code 1350 = .ok (.iconst 1, 1) := dc_4 (by decide +kernel)
theorem dL_law_1351 : decode code 1351 = .ok (.iadd, 1) := dc_96 (by decide +kernel)
theorem dL_law_1352 : decode code 1352 = .ok (.iaload, 1) := dc_46 (by decide +kernel)
theorem dL_law_1353 : decode code 1353 = .ok (.aload_n 0, 1) := dc_42 (by decide +kernel)
theorem dL_law_1354 : decode code 1354 = .ok (.iload_n 3, 1) := dc_29 (by decide +kernel)
theorem dL_law_1355 : decode code 1355 = .ok (.iconst 2, 1) := dc_5 (by decide +kernel)
theorem dL_law_1356 : decode code 1356 = .ok (.iadd, 1) := dc_96 (by decide +kernel)
theorem dL_law_1357 : decode code 1357 = .ok (.iaload, 1) := dc_46 (by decide +kernel)
theorem dL_law_1358 : decode code 1358 = .ok (.invokevirtual 132, 3) := dc_182 0 132 (by decide +kernel)
theorem kw_7_166 : (Jvm.Cond.methodLink "ParishUnionLaw" (132 : Nat) ({ cls := "ParishUnionModel", name := "gone", desc := "(II)I" } : Jvm.MethodName)) ∈ gT := gT_of (tb_7 _ (List.mem_of_getElem? (i := 166) rfl)) rfl
theorem kw_7_169 : (Jvm.Cond.code ({ cls := "ParishUnionModel", name := "gone", desc := "(II)I" } : Jvm.MethodName) prog_14_method_80_code (3 : Nat) (Option.some Jvm.ClassFile.FieldType.int)) ∈ gT := gT_of (tb_7 _ (List.mem_of_getElem? (i := 169) rfl)) rfl
theorem okX12_gone : gQok yX12_gone cX12_gone 3 (Option.some Jvm.ClassFile.FieldType.int) 2 := ⟨kw_7_169, kw_1_13, by decide +kernel, by decide +kernel, by decide +kernel⟩
theorem kw_7_167 : (Jvm.Cond.instanceMethod ({ cls := "ParishUnionModel", name := "gone", desc := "(II)I" } : Jvm.MethodName)) ∈ gT := gT_of (tb_7 _ (List.mem_of_getElem? (i := 167) rfl)) rfl
theorem kw_7_168 : (Jvm.Cond.selects "ParishUnionModel" ({ cls := "ParishUnionModel", name := "gone", desc := "(II)I" } : Jvm.MethodName) ({ cls := "ParishUnionModel", name := "gone", desc := "(II)I" } : Jvm.MethodName)) ∈ gT := gT_of (tb_7 _ (List.mem_of_getElem? (i := 168) rfl)) rfl
theorem dL_law_1361 : decode code 1361 = .ok (.pop, 1) := dc_87 (by decide +kernel)
theorem dL_law_1362 : decode code 1362 = .ok (.goto 630, 3) := dc_167 2 118 630 (by decide +kernel)
set_option maxRecDepth 100000 in
set_option maxHeartbeats 4000000 in
theorem law_case_26 {p : Program} {e : Env} {s : State} {m : MethodId} {below : List Frame} {meth : Method} {cd : Code} {l : Launch} {D : va_G} {cA : Nat → ClassId} {b Ln : Nat} {xs : Nat → Int32} (X : gCx p s m #[Value.ref b] meth cd s.heap.size D cA "ParishUnionLaw" code 4) (hr : meth.sig.returnType = ret) (hb : b < s.heap.size ∧ va_X b Ln xs s s.heap) (hLn : Ln ≤ 3584) {sz cs ss : Nat} {M : gM} (L : lwI sz cs ss M) (i : Int) (hi : 0 ≤ i ∧ i + 7 ≤ (Ln : Int)) (kk : ∀ (sz cs ss : Nat) (M1 : gM), lwI sz cs ss M1 → G p l e room_1 s m #[Value.ref b] below meth cd s.heap.size D cA 4 (lw_Z below #[Value.ref b] s) cs ss M1 sz 1992 [(3, gJ i), (2, gA s.heap.size 190), (1, gA s.heap.size 0), (0, .ref b)] []) : G p l e room_1 s m #[Value.ref b] below meth cd s.heap.size D cA 4 (lw_Z below #[Value.ref b] s) cs ss M sz 1332 [(3, gJ i), (2, gA s.heap.size 190), (1, gA s.heap.size 0), (0, .ref b)] [] := by
  obtain ⟨hsz, I, C, W, LA, LB, LK, LR⟩ := L
  have hN := gN_of hsz I
  obtain ⟨ac, hac, rac⟩ : ∃ v : Int, M 1 13 = v ∧ (0 ≤ v ∧ v ≤ 10) := by
    obtain ⟨v, hv, rv⟩ := gRd I (by decide) (gsz hsz (by decide)) rc_1_13.1
    exact ⟨v, hv, by omega⟩
  obtain ⟨ab, hab, rab⟩ : ∃ v : Int, M 191 4 = v ∧ (0 ≤ v ∧ v ≤ 10) := by
    obtain ⟨v, hv, rv⟩ := gRd I (by decide) (gsz hsz (by decide)) (rs_NA (k := 4) (by omega)).1
    exact ⟨v, hv, by omega⟩
  have hRm : cs + 0 ≤ room_1.cells ∧ ss + 0 ≤ room_1.slots := by
    show cs + 0 ≤ 349274 ∧ ss + 0 ≤ 8054428
    have := lwK.room LK
    omega
  obtain ⟨u1, eu1, ru1⟩ : ∃ z : Int, xs (i + 1).toNat = Int32.ofInt z ∧ (-2147483648 ≤ z ∧ z ≤ 2147483647) := ⟨_, gi_of _, gi_rg _⟩
  obtain ⟨u2, eu2, ru2⟩ : ∃ z : Int, xs (i + 2).toNat = Int32.ofInt z ∧ (-2147483648 ≤ z ∧ z ≤ 2147483647) := ⟨_, gi_of _, gi_rg _⟩
  obtain ⟨u3, eu3, ru3⟩ : ∃ z : Int, xs (i + 3).toNat = Int32.ofInt z ∧ (-2147483648 ≤ z ∧ z ≤ 2147483647) := ⟨_, gi_of _, gi_rg _⟩
  obtain ⟨u4, eu4, ru4⟩ : ∃ z : Int, xs (i + 4).toNat = Int32.ofInt z ∧ (-2147483648 ≤ z ∧ z ≤ 2147483647) := ⟨_, gi_of _, gi_rg _⟩
  obtain ⟨u5, eu5, ru5⟩ : ∃ z : Int, xs (i + 5).toNat = Int32.ofInt z ∧ (-2147483648 ≤ z ∧ z ≤ 2147483647) := ⟨_, gi_of _, gi_rg _⟩
  obtain ⟨u6, eu6, ru6⟩ : ∃ z : Int, xs (i + 6).toNat = Int32.ofInt z ∧ (-2147483648 ≤ z ∧ z ≤ 2147483647) := ⟨_, gi_of _, gi_rg _⟩
  refine g_aload_n (n := 1333) X 2 dL_law_1332 rfl rfl rfl ?_
  refine g_aload_n (n := 1334) X 3 dL_law_1333 rfl rfl rfl ?_
  refine g_iload_n (n := 1335) X 0 dL_law_1334 rfl rfl rfl ?_
  refine g_iconst (n := 1336) X dL_law_1335 rfl ?_
  refine g_iadd (n := 1337) (z := i + 1) X dL_law_1336 (by omega) rfl ?_
  refine g_scrld (n := 1338) (z := u1) X hb (by omega) (by omega) (by omega) dL_law_1337 rfl eu1 ?_
  refine g_aload_n (n := 1339) X 3 dL_law_1338 rfl rfl rfl ?_
  refine g_iload_n (n := 1340) X 0 dL_law_1339 rfl rfl rfl ?_
  refine g_iconst (n := 1341) X dL_law_1340 rfl ?_
  refine g_iadd (n := 1342) (z := i + 2) X dL_law_1341 (by omega) rfl ?_
  refine g_scrld (n := 1343) (z := u2) X hb (by omega) (by omega) (by omega) dL_law_1342 rfl eu2 ?_
  refine g_callVi (n := 1346) (As := [gJ u1, gJ u2]) (rest := []) (cs1 := cs) (ss1 := ss) X (s_X11_gone u1 (by omega) u2 (by omega) hsz I C ) okX11_gone kw_5_7 ⟨kw_5_8, kw_5_9⟩ ⟨rfl, rfl⟩ ⟨Nat.le_of_ble_eq_true rfl, Nat.le_of_ble_eq_true rfl⟩ rfl (by decide) (gsz hsz (by decide)) lay_0 rfl rfl (Nat.le_of_ble_eq_true rfl) hRm rfl rfl dL_law_1343 rfl (fun v1 M2 P3 => ?_)
  obtain ⟨rfl, rv1⟩ := P3
  refine g_pop (n := 1347) X dL_law_1346 rfl rfl ?_
  refine g_aload_n (n := 1348) X 1 dL_law_1347 rfl rfl rfl ?_
  refine g_aload_n (n := 1349) X 3 dL_law_1348 rfl rfl rfl ?_
  refine g_iload_n (n := 1350) X 0 dL_law_1349 rfl rfl rfl ?_
  refine g_iconst (n := 1351) X dL_law_1350 rfl ?_
  refine g_iadd (n := 1352) (z := i + 1) X dL_law_1351 (by omega) rfl ?_
  refine g_scrld (n := 1353) (z := u1) X hb (by omega) (by omega) (by omega) dL_law_1352 rfl eu1 ?_
  refine g_aload_n (n := 1354) X 3 dL_law_1353 rfl rfl rfl ?_
  refine g_iload_n (n := 1355) X 0 dL_law_1354 rfl rfl rfl ?_
  refine g_iconst (n := 1356) X dL_law_1355 rfl ?_
  refine g_iadd (n := 1357) (z := i + 2) X dL_law_1356 (by omega) rfl ?_
  refine g_scrld (n := 1358) (z := u2) X hb (by omega) (by omega) (by omega) dL_law_1357 rfl eu2 ?_
  refine g_callVi (n := 1361) (As := [gJ u1, gJ u2]) (rest := []) (cs1 := cs) (ss1 := ss) X (s_X12_gone u1 (by omega) u2 (by omega) hsz I C ) okX12_gone kw_7_166 ⟨kw_7_167, kw_7_168⟩ ⟨rfl, rfl⟩ ⟨Nat.le_of_ble_eq_true rfl, Nat.le_of_ble_eq_true rfl⟩ rfl (by decide) (gsz hsz (by decide)) lay_190 rfl rfl (Nat.le_of_ble_eq_true rfl) hRm rfl rfl dL_law_1358 rfl (fun v4 M5 P6 => ?_)
  obtain ⟨rfl, rv4⟩ := P6
  refine g_pop (n := 1362) X dL_law_1361 rfl rfl ?_
  refine g_goto (tgt := 1992) X dL_law_1362 (by decide) ?_
  exact kk _ _ _ _ ⟨hsz, I, C, W, LA, LB, (lwK.fr LK (gFr.rf : gFr 0 M M) rfl), ⟨LR.1, LR.2.1, LR.2.2.1, LR.2.2.2.1, LR.2.2.2.2.1, LR.2.2.2.2.2.1, LR.2.2.2.2.2.2.1, LR.2.2.2.2.2.2.2.1, LR.2.2.2.2.2.2.2.2.1, LR.2.2.2.2.2.2.2.2.2.1, LR.2.2.2.2.2.2.2.2.2.2.1, LR.2.2.2.2.2.2.2.2.2.2.2.1, LR.2.2.2.2.2.2.2.2.2.2.2.2⟩⟩
theorem dL_law_1365 : decode code 1365 = .ok (.aload_n 1, 1) := dc_43 (by decide +kernel)
theorem dL_law_1366 : decode code 1366 = .ok (.aload_n 0, 1) := dc_42 (by decide +kernel)
theorem dL_law_1367 : decode code 1367 = .ok (.iload_n 3, 1) := dc_29 (by decide +kernel)
theorem dL_law_1368 : decode code 1368 = .ok (.iconst 1, 1) := dc_4 (by decide +kernel)
theorem dL_law_1369 : decode code 1369 = .ok (.iadd, 1) := dc_96 (by decide +kernel)
theorem dL_law_1370 : decode code 1370 = .ok (.iaload, 1) := dc_46 (by decide +kernel)
theorem dL_law_1371 : decode code 1371 = .ok (.aload_n 0, 1) := dc_42 (by decide +kernel)
theorem dL_law_1372 : decode code 1372 = .ok (.iload_n 3, 1) := dc_29 (by decide +kernel)
theorem dL_law_1373 : decode code 1373 = .ok (.iconst 2, 1) := dc_5 (by decide +kernel)
theorem dL_law_1374 : decode code 1374 = .ok (.iadd, 1) := dc_96 (by decide +kernel)
theorem dL_law_1375 : decode code 1375 = .ok (.iaload, 1) := dc_46 (by decide +kernel)
theorem dL_law_1376 : decode code 1376 = .ok (.aload_n 0, 1) := dc_42 (by decide +kernel)
theorem dL_law_1377 : decode code 1377 = .ok (.iload_n 3, 1) := dc_29 (by decide +kernel)
theorem dL_law_1378 : decode code 1378 = .ok (.iconst 3, 1) := dc_6 (by decide +kernel)
theorem dL_law_1379 : decode code 1379 = .ok (.iadd, 1) := dc_96 (by decide +kernel)
theorem dL_law_1380 : decode code 1380 = .ok (.iaload, 1) := dc_46 (by decide +kernel)
theorem dL_law_1381 : decode code 1381 = .ok (.invokevirtual 133, 3) := dc_182 0 133 (by decide +kernel)
theorem kw_5_20 : (Jvm.Cond.methodLink "ParishUnionLaw" (133 : Nat) ({ cls := "ParishUnion", name := "was", desc := "(III)I" } : Jvm.MethodName)) ∈ gT := gT_of (tb_5 _ (List.mem_of_getElem? (i := 20) rfl)) rfl
theorem kw_5_23 : (Jvm.Cond.code ({ cls := "ParishUnion", name := "was", desc := "(III)I" } : Jvm.MethodName) prog_1_method_29_code (5 : Nat) (Option.some Jvm.ClassFile.FieldType.int)) ∈ gT := gT_of (tb_5 _ (List.mem_of_getElem? (i := 23) rfl)) rfl
theorem okX11_was : gQok yX11_was cX11_was 5 (Option.some Jvm.ClassFile.FieldType.int) 3 := ⟨kw_5_23, kw_1_1, by decide +kernel, by decide +kernel, by decide +kernel⟩
theorem kw_5_21 : (Jvm.Cond.instanceMethod ({ cls := "ParishUnion", name := "was", desc := "(III)I" } : Jvm.MethodName)) ∈ gT := gT_of (tb_5 _ (List.mem_of_getElem? (i := 21) rfl)) rfl
theorem kw_5_22 : (Jvm.Cond.selects "ParishUnion" ({ cls := "ParishUnion", name := "was", desc := "(III)I" } : Jvm.MethodName) ({ cls := "ParishUnion", name := "was", desc := "(III)I" } : Jvm.MethodName)) ∈ gT := gT_of (tb_5 _ (List.mem_of_getElem? (i := 22) rfl)) rfl
theorem dL_law_1384 : decode code 1384 = .ok (.pop, 1) := dc_87 (by decide +kernel)
theorem dL_law_1385 : decode code 1385 = .ok (.aload_n 2, 1) := dc_44 (by decide +kernel)
theorem dL_law_1386 : decode code 1386 = .ok (.aload_n 0, 1) := dc_42 (by decide +kernel)
theorem dL_law_1387 : decode code 1387 = .ok (.iload_n 3, 1) := dc_29 (by decide +kernel)
theorem dL_law_1388 : decode code 1388 = .ok (.iconst 1, 1) := dc_4 (by decide +kernel)
theorem dL_law_1389 : decode code 1389 = .ok (.iadd, 1) := dc_96 (by decide +kernel)
theorem dL_law_1390 : decode code 1390 = .ok (.iaload, 1) := dc_46 (by decide +kernel)
theorem dL_law_1391 : decode code 1391 = .ok (.aload_n 0, 1) := dc_42 (by decide +kernel)
theorem dL_law_1392 : decode code 1392 = .ok (.iload_n 3, 1) := dc_29 (by decide +kernel)
theorem dL_law_1393 : decode code 1393 = .ok (.iconst 2, 1) := dc_5 (by decide +kernel)
theorem dL_law_1394 : decode code 1394 = .ok (.iadd, 1) := dc_96 (by decide +kernel)
theorem dL_law_1395 : decode code 1395 = .ok (.iaload, 1) := dc_46 (by decide +kernel)
theorem dL_law_1396 : decode code 1396 = .ok (.aload_n 0, 1) := dc_42 (by decide +kernel)
theorem dL_law_1397 : decode code 1397 = .ok (.iload_n 3, 1) := dc_29 (by decide +kernel)
theorem dL_law_1398 : decode code 1398 = .ok (.iconst 3, 1) := dc_6 (by decide +kernel)
theorem dL_law_1399 : decode code 1399 = .ok (.iadd, 1) := dc_96 (by decide +kernel)
theorem dL_law_1400 : decode code 1400 = .ok (.iaload, 1) := dc_46 (by decide +kernel)
theorem dL_law_1401 : decode code 1401 = .ok (.invokevirtual 136, 3) := dc_182 0 136 (by decide +kernel)
theorem kw_7_178 : (Jvm.Cond.methodLink "ParishUnionLaw" (136 : Nat) ({ cls := "ParishUnionModel", name := "was", desc := "(III)I" } : Jvm.MethodName)) ∈ gT := gT_of (tb_7 _ (List.mem_of_getElem? (i := 178) rfl)) rfl
theorem kw_7_181 : (Jvm.Cond.code ({ cls := "ParishUnionModel", name := "was", desc := "(III)I" } : Jvm.MethodName) prog_14_method_81_code (4 : Nat) (Option.some Jvm.ClassFile.FieldType.int)) ∈ gT := gT_of (tb_7 _ (List.mem_of_getElem? (i := 181) rfl)) rfl
theorem okX12_was : gQok yX12_was cX12_was 4 (Option.some Jvm.ClassFile.FieldType.int) 3 := ⟨kw_7_181, kw_1_13, by decide +kernel, by decide +kernel, by decide +kernel⟩
theorem kw_7_179 : (Jvm.Cond.instanceMethod ({ cls := "ParishUnionModel", name := "was", desc := "(III)I" } : Jvm.MethodName)) ∈ gT := gT_of (tb_7 _ (List.mem_of_getElem? (i := 179) rfl)) rfl
theorem kw_7_180 : (Jvm.Cond.selects "ParishUnionModel" ({ cls := "ParishUnionModel", name := "was", desc := "(III)I" } : Jvm.MethodName) ({ cls := "ParishUnionModel", name := "was", desc := "(III)I" } : Jvm.MethodName)) ∈ gT := gT_of (tb_7 _ (List.mem_of_getElem? (i := 180) rfl)) rfl
theorem dL_law_1404 : decode code 1404 = .ok (.pop, 1) := dc_87 (by decide +kernel)
theorem dL_law_1405 : decode code 1405 = .ok (.goto 587, 3) := dc_167 2 75 587 (by decide +kernel)
set_option maxRecDepth 100000 in
set_option maxHeartbeats 4000000 in
theorem law_case_27 {p : Program} {e : Env} {s : State} {m : MethodId} {below : List Frame} {meth : Method} {cd : Code} {l : Launch} {D : va_G} {cA : Nat → ClassId} {b Ln : Nat} {xs : Nat → Int32} (X : gCx p s m #[Value.ref b] meth cd s.heap.size D cA "ParishUnionLaw" code 4) (hr : meth.sig.returnType = ret) (hb : b < s.heap.size ∧ va_X b Ln xs s s.heap) (hLn : Ln ≤ 3584) {sz cs ss : Nat} {M : gM} (L : lwI sz cs ss M) (i : Int) (hi : 0 ≤ i ∧ i + 7 ≤ (Ln : Int)) (kk : ∀ (sz cs ss : Nat) (M1 : gM), lwI sz cs ss M1 → G p l e room_1 s m #[Value.ref b] below meth cd s.heap.size D cA 4 (lw_Z below #[Value.ref b] s) cs ss M1 sz 1992 [(3, gJ i), (2, gA s.heap.size 190), (1, gA s.heap.size 0), (0, .ref b)] []) : G p l e room_1 s m #[Value.ref b] below meth cd s.heap.size D cA 4 (lw_Z below #[Value.ref b] s) cs ss M sz 1365 [(3, gJ i), (2, gA s.heap.size 190), (1, gA s.heap.size 0), (0, .ref b)] [] := by
  obtain ⟨hsz, I, C, W, LA, LB, LK, LR⟩ := L
  have hN := gN_of hsz I
  obtain ⟨ac, hac, rac⟩ : ∃ v : Int, M 1 13 = v ∧ (0 ≤ v ∧ v ≤ 10) := by
    obtain ⟨v, hv, rv⟩ := gRd I (by decide) (gsz hsz (by decide)) rc_1_13.1
    exact ⟨v, hv, by omega⟩
  obtain ⟨ab, hab, rab⟩ : ∃ v : Int, M 191 4 = v ∧ (0 ≤ v ∧ v ≤ 10) := by
    obtain ⟨v, hv, rv⟩ := gRd I (by decide) (gsz hsz (by decide)) (rs_NA (k := 4) (by omega)).1
    exact ⟨v, hv, by omega⟩
  have hRm : cs + 0 ≤ room_1.cells ∧ ss + 0 ≤ room_1.slots := by
    show cs + 0 ≤ 349274 ∧ ss + 0 ≤ 8054428
    have := lwK.room LK
    omega
  obtain ⟨u1, eu1, ru1⟩ : ∃ z : Int, xs (i + 1).toNat = Int32.ofInt z ∧ (-2147483648 ≤ z ∧ z ≤ 2147483647) := ⟨_, gi_of _, gi_rg _⟩
  obtain ⟨u2, eu2, ru2⟩ : ∃ z : Int, xs (i + 2).toNat = Int32.ofInt z ∧ (-2147483648 ≤ z ∧ z ≤ 2147483647) := ⟨_, gi_of _, gi_rg _⟩
  obtain ⟨u3, eu3, ru3⟩ : ∃ z : Int, xs (i + 3).toNat = Int32.ofInt z ∧ (-2147483648 ≤ z ∧ z ≤ 2147483647) := ⟨_, gi_of _, gi_rg _⟩
  obtain ⟨u4, eu4, ru4⟩ : ∃ z : Int, xs (i + 4).toNat = Int32.ofInt z ∧ (-2147483648 ≤ z ∧ z ≤ 2147483647) := ⟨_, gi_of _, gi_rg _⟩
  obtain ⟨u5, eu5, ru5⟩ : ∃ z : Int, xs (i + 5).toNat = Int32.ofInt z ∧ (-2147483648 ≤ z ∧ z ≤ 2147483647) := ⟨_, gi_of _, gi_rg _⟩
  obtain ⟨u6, eu6, ru6⟩ : ∃ z : Int, xs (i + 6).toNat = Int32.ofInt z ∧ (-2147483648 ≤ z ∧ z ≤ 2147483647) := ⟨_, gi_of _, gi_rg _⟩
  refine g_aload_n (n := 1366) X 2 dL_law_1365 rfl rfl rfl ?_
  refine g_aload_n (n := 1367) X 3 dL_law_1366 rfl rfl rfl ?_
  refine g_iload_n (n := 1368) X 0 dL_law_1367 rfl rfl rfl ?_
  refine g_iconst (n := 1369) X dL_law_1368 rfl ?_
  refine g_iadd (n := 1370) (z := i + 1) X dL_law_1369 (by omega) rfl ?_
  refine g_scrld (n := 1371) (z := u1) X hb (by omega) (by omega) (by omega) dL_law_1370 rfl eu1 ?_
  refine g_aload_n (n := 1372) X 3 dL_law_1371 rfl rfl rfl ?_
  refine g_iload_n (n := 1373) X 0 dL_law_1372 rfl rfl rfl ?_
  refine g_iconst (n := 1374) X dL_law_1373 rfl ?_
  refine g_iadd (n := 1375) (z := i + 2) X dL_law_1374 (by omega) rfl ?_
  refine g_scrld (n := 1376) (z := u2) X hb (by omega) (by omega) (by omega) dL_law_1375 rfl eu2 ?_
  refine g_aload_n (n := 1377) X 3 dL_law_1376 rfl rfl rfl ?_
  refine g_iload_n (n := 1378) X 0 dL_law_1377 rfl rfl rfl ?_
  refine g_iconst (n := 1379) X dL_law_1378 rfl ?_
  refine g_iadd (n := 1380) (z := i + 3) X dL_law_1379 (by omega) rfl ?_
  refine g_scrld (n := 1381) (z := u3) X hb (by omega) (by omega) (by omega) dL_law_1380 rfl eu3 ?_
  refine g_callVi (n := 1384) (As := [gJ u1, gJ u2, gJ u3]) (rest := []) (cs1 := cs) (ss1 := ss) X (s_X11_was u1 (by omega) u2 (by omega) u3 (by omega) hsz I C ) okX11_was kw_5_20 ⟨kw_5_21, kw_5_22⟩ ⟨rfl, rfl⟩ ⟨Nat.le_of_ble_eq_true rfl, Nat.le_of_ble_eq_true rfl⟩ rfl (by decide) (gsz hsz (by decide)) lay_0 rfl rfl (Nat.le_of_ble_eq_true rfl) hRm rfl rfl dL_law_1381 rfl (fun v1 M2 P3 => ?_)
  obtain ⟨rfl, rv1⟩ := P3
  refine g_pop (n := 1385) X dL_law_1384 rfl rfl ?_
  refine g_aload_n (n := 1386) X 1 dL_law_1385 rfl rfl rfl ?_
  refine g_aload_n (n := 1387) X 3 dL_law_1386 rfl rfl rfl ?_
  refine g_iload_n (n := 1388) X 0 dL_law_1387 rfl rfl rfl ?_
  refine g_iconst (n := 1389) X dL_law_1388 rfl ?_
  refine g_iadd (n := 1390) (z := i + 1) X dL_law_1389 (by omega) rfl ?_
  refine g_scrld (n := 1391) (z := u1) X hb (by omega) (by omega) (by omega) dL_law_1390 rfl eu1 ?_
  refine g_aload_n (n := 1392) X 3 dL_law_1391 rfl rfl rfl ?_
  refine g_iload_n (n := 1393) X 0 dL_law_1392 rfl rfl rfl ?_
  refine g_iconst (n := 1394) X dL_law_1393 rfl ?_
  refine g_iadd (n := 1395) (z := i + 2) X dL_law_1394 (by omega) rfl ?_
  refine g_scrld (n := 1396) (z := u2) X hb (by omega) (by omega) (by omega) dL_law_1395 rfl eu2 ?_
  refine g_aload_n (n := 1397) X 3 dL_law_1396 rfl rfl rfl ?_
  refine g_iload_n (n := 1398) X 0 dL_law_1397 rfl rfl rfl ?_
  refine g_iconst (n := 1399) X dL_law_1398 rfl ?_
  refine g_iadd (n := 1400) (z := i + 3) X dL_law_1399 (by omega) rfl ?_
  refine g_scrld (n := 1401) (z := u3) X hb (by omega) (by omega) (by omega) dL_law_1400 rfl eu3 ?_
  refine g_callVi (n := 1404) (As := [gJ u1, gJ u2, gJ u3]) (rest := []) (cs1 := cs) (ss1 := ss) X (s_X12_was u1 (by omega) u2 (by omega) u3 (by omega) hsz I C ) okX12_was kw_7_178 ⟨kw_7_179, kw_7_180⟩ ⟨rfl, rfl⟩ ⟨Nat.le_of_ble_eq_true rfl, Nat.le_of_ble_eq_true rfl⟩ rfl (by decide) (gsz hsz (by decide)) lay_190 rfl rfl (Nat.le_of_ble_eq_true rfl) hRm rfl rfl dL_law_1401 rfl (fun v4 M5 P6 => ?_)
  obtain ⟨rfl, rv4⟩ := P6
  refine g_pop (n := 1405) X dL_law_1404 rfl rfl ?_
  refine g_goto (tgt := 1992) X dL_law_1405 (by decide) ?_
  exact kk _ _ _ _ ⟨hsz, I, C, W, LA, LB, (lwK.fr LK (gFr.rf : gFr 0 M M) rfl), ⟨LR.1, LR.2.1, LR.2.2.1, LR.2.2.2.1, LR.2.2.2.2.1, LR.2.2.2.2.2.1, LR.2.2.2.2.2.2.1, LR.2.2.2.2.2.2.2.1, LR.2.2.2.2.2.2.2.2.1, LR.2.2.2.2.2.2.2.2.2.1, LR.2.2.2.2.2.2.2.2.2.2.1, LR.2.2.2.2.2.2.2.2.2.2.2.1, LR.2.2.2.2.2.2.2.2.2.2.2.2⟩⟩
theorem dL_law_1408 : decode code 1408 = .ok (.aload_n 1, 1) := dc_43 (by decide +kernel)
theorem dL_law_1409 : decode code 1409 = .ok (.aload_n 0, 1) := dc_42 (by decide +kernel)
theorem dL_law_1410 : decode code 1410 = .ok (.iload_n 3, 1) := dc_29 (by decide +kernel)
theorem dL_law_1411 : decode code 1411 = .ok (.iconst 1, 1) := dc_4 (by decide +kernel)
theorem dL_law_1412 : decode code 1412 = .ok (.iadd, 1) := dc_96 (by decide +kernel)
theorem dL_law_1413 : decode code 1413 = .ok (.iaload, 1) := dc_46 (by decide +kernel)
theorem dL_law_1414 : decode code 1414 = .ok (.aload_n 0, 1) := dc_42 (by decide +kernel)
theorem dL_law_1415 : decode code 1415 = .ok (.iload_n 3, 1) := dc_29 (by decide +kernel)
theorem dL_law_1416 : decode code 1416 = .ok (.iconst 2, 1) := dc_5 (by decide +kernel)
theorem dL_law_1417 : decode code 1417 = .ok (.iadd, 1) := dc_96 (by decide +kernel)
theorem dL_law_1418 : decode code 1418 = .ok (.iaload, 1) := dc_46 (by decide +kernel)
theorem dL_law_1419 : decode code 1419 = .ok (.aload_n 0, 1) := dc_42 (by decide +kernel)
theorem dL_law_1420 : decode code 1420 = .ok (.iload_n 3, 1) := dc_29 (by decide +kernel)
theorem dL_law_1421 : decode code 1421 = .ok (.iconst 3, 1) := dc_6 (by decide +kernel)
theorem dL_law_1422 : decode code 1422 = .ok (.iadd, 1) := dc_96 (by decide +kernel)
theorem dL_law_1423 : decode code 1423 = .ok (.iaload, 1) := dc_46 (by decide +kernel)
theorem dL_law_1424 : decode code 1424 = .ok (.invokevirtual 137, 3) := dc_182 0 137 (by decide +kernel)
theorem kw_5_51 : (Jvm.Cond.methodLink "ParishUnionLaw" (137 : Nat) ({ cls := "ParishUnion", name := "share", desc := "(III)I" } : Jvm.MethodName)) ∈ gT := gT_of (tb_5 _ (List.mem_of_getElem? (i := 51) rfl)) rfl
theorem kw_5_54 : (Jvm.Cond.code ({ cls := "ParishUnion", name := "share", desc := "(III)I" } : Jvm.MethodName) prog_1_method_30_code (4 : Nat) (Option.some Jvm.ClassFile.FieldType.int)) ∈ gT := gT_of (tb_5 _ (List.mem_of_getElem? (i := 54) rfl)) rfl
theorem okX11_share : gQok yX11_share cX11_share 4 (Option.some Jvm.ClassFile.FieldType.int) 3 := ⟨kw_5_54, kw_1_1, by decide +kernel, by decide +kernel, by decide +kernel⟩
theorem kw_5_52 : (Jvm.Cond.instanceMethod ({ cls := "ParishUnion", name := "share", desc := "(III)I" } : Jvm.MethodName)) ∈ gT := gT_of (tb_5 _ (List.mem_of_getElem? (i := 52) rfl)) rfl
theorem kw_5_53 : (Jvm.Cond.selects "ParishUnion" ({ cls := "ParishUnion", name := "share", desc := "(III)I" } : Jvm.MethodName) ({ cls := "ParishUnion", name := "share", desc := "(III)I" } : Jvm.MethodName)) ∈ gT := gT_of (tb_5 _ (List.mem_of_getElem? (i := 53) rfl)) rfl
theorem dL_law_1427 : decode code 1427 = .ok (.pop, 1) := dc_87 (by decide +kernel)
theorem dL_law_1428 : decode code 1428 = .ok (.aload_n 2, 1) := dc_44 (by decide +kernel)
theorem dL_law_1429 : decode code 1429 = .ok (.aload_n 0, 1) := dc_42 (by decide +kernel)
theorem dL_law_1430 : decode code 1430 = .ok (.iload_n 3, 1) := dc_29 (by decide +kernel)
theorem dL_law_1431 : decode code 1431 = .ok (.iconst 1, 1) := dc_4 (by decide +kernel)
theorem dL_law_1432 : decode code 1432 = .ok (.iadd, 1) := dc_96 (by decide +kernel)
theorem dL_law_1433 : decode code 1433 = .ok (.iaload, 1) := dc_46 (by decide +kernel)
theorem dL_law_1434 : decode code 1434 = .ok (.aload_n 0, 1) := dc_42 (by decide +kernel)
theorem dL_law_1435 : decode code 1435 = .ok (.iload_n 3, 1) := dc_29 (by decide +kernel)
theorem dL_law_1436 : decode code 1436 = .ok (.iconst 2, 1) := dc_5 (by decide +kernel)
theorem dL_law_1437 : decode code 1437 = .ok (.iadd, 1) := dc_96 (by decide +kernel)
theorem dL_law_1438 : decode code 1438 = .ok (.iaload, 1) := dc_46 (by decide +kernel)
theorem dL_law_1439 : decode code 1439 = .ok (.aload_n 0, 1) := dc_42 (by decide +kernel)
theorem dL_law_1440 : decode code 1440 = .ok (.iload_n 3, 1) := dc_29 (by decide +kernel)
theorem dL_law_1441 : decode code 1441 = .ok (.iconst 3, 1) := dc_6 (by decide +kernel)
theorem dL_law_1442 : decode code 1442 = .ok (.iadd, 1) := dc_96 (by decide +kernel)
theorem dL_law_1443 : decode code 1443 = .ok (.iaload, 1) := dc_46 (by decide +kernel)
theorem dL_law_1444 : decode code 1444 = .ok (.invokevirtual 140, 3) := dc_182 0 140 (by decide +kernel)
theorem kw_7_182 : (Jvm.Cond.methodLink "ParishUnionLaw" (140 : Nat) ({ cls := "ParishUnionModel", name := "share", desc := "(III)I" } : Jvm.MethodName)) ∈ gT := gT_of (tb_7 _ (List.mem_of_getElem? (i := 182) rfl)) rfl
theorem kw_7_185 : (Jvm.Cond.code ({ cls := "ParishUnionModel", name := "share", desc := "(III)I" } : Jvm.MethodName) prog_14_method_83_code (4 : Nat) (Option.some Jvm.ClassFile.FieldType.int)) ∈ gT := gT_of (tb_7 _ (List.mem_of_getElem? (i := 185) rfl)) rfl
theorem okX12_share : gQok yX12_share cX12_share 4 (Option.some Jvm.ClassFile.FieldType.int) 3 := ⟨kw_7_185, kw_1_13, by decide +kernel, by decide +kernel, by decide +kernel⟩
theorem kw_7_183 : (Jvm.Cond.instanceMethod ({ cls := "ParishUnionModel", name := "share", desc := "(III)I" } : Jvm.MethodName)) ∈ gT := gT_of (tb_7 _ (List.mem_of_getElem? (i := 183) rfl)) rfl
theorem kw_7_184 : (Jvm.Cond.selects "ParishUnionModel" ({ cls := "ParishUnionModel", name := "share", desc := "(III)I" } : Jvm.MethodName) ({ cls := "ParishUnionModel", name := "share", desc := "(III)I" } : Jvm.MethodName)) ∈ gT := gT_of (tb_7 _ (List.mem_of_getElem? (i := 184) rfl)) rfl
theorem dL_law_1447 : decode code 1447 = .ok (.pop, 1) := dc_87 (by decide +kernel)
theorem dL_law_1448 : decode code 1448 = .ok (.goto 544, 3) := dc_167 2 32 544 (by decide +kernel)
set_option maxRecDepth 100000 in
set_option maxHeartbeats 4000000 in
theorem law_case_28 {p : Program} {e : Env} {s : State} {m : MethodId} {below : List Frame} {meth : Method} {cd : Code} {l : Launch} {D : va_G} {cA : Nat → ClassId} {b Ln : Nat} {xs : Nat → Int32} (X : gCx p s m #[Value.ref b] meth cd s.heap.size D cA "ParishUnionLaw" code 4) (hr : meth.sig.returnType = ret) (hb : b < s.heap.size ∧ va_X b Ln xs s s.heap) (hLn : Ln ≤ 3584) {sz cs ss : Nat} {M : gM} (L : lwI sz cs ss M) (i : Int) (hi : 0 ≤ i ∧ i + 7 ≤ (Ln : Int)) (kk : ∀ (sz cs ss : Nat) (M1 : gM), lwI sz cs ss M1 → G p l e room_1 s m #[Value.ref b] below meth cd s.heap.size D cA 4 (lw_Z below #[Value.ref b] s) cs ss M1 sz 1992 [(3, gJ i), (2, gA s.heap.size 190), (1, gA s.heap.size 0), (0, .ref b)] []) : G p l e room_1 s m #[Value.ref b] below meth cd s.heap.size D cA 4 (lw_Z below #[Value.ref b] s) cs ss M sz 1408 [(3, gJ i), (2, gA s.heap.size 190), (1, gA s.heap.size 0), (0, .ref b)] [] := by
  obtain ⟨hsz, I, C, W, LA, LB, LK, LR⟩ := L
  have hN := gN_of hsz I
  obtain ⟨ac, hac, rac⟩ : ∃ v : Int, M 1 13 = v ∧ (0 ≤ v ∧ v ≤ 10) := by
    obtain ⟨v, hv, rv⟩ := gRd I (by decide) (gsz hsz (by decide)) rc_1_13.1
    exact ⟨v, hv, by omega⟩
  obtain ⟨ab, hab, rab⟩ : ∃ v : Int, M 191 4 = v ∧ (0 ≤ v ∧ v ≤ 10) := by
    obtain ⟨v, hv, rv⟩ := gRd I (by decide) (gsz hsz (by decide)) (rs_NA (k := 4) (by omega)).1
    exact ⟨v, hv, by omega⟩
  have hRm : cs + 0 ≤ room_1.cells ∧ ss + 0 ≤ room_1.slots := by
    show cs + 0 ≤ 349274 ∧ ss + 0 ≤ 8054428
    have := lwK.room LK
    omega
  obtain ⟨u1, eu1, ru1⟩ : ∃ z : Int, xs (i + 1).toNat = Int32.ofInt z ∧ (-2147483648 ≤ z ∧ z ≤ 2147483647) := ⟨_, gi_of _, gi_rg _⟩
  obtain ⟨u2, eu2, ru2⟩ : ∃ z : Int, xs (i + 2).toNat = Int32.ofInt z ∧ (-2147483648 ≤ z ∧ z ≤ 2147483647) := ⟨_, gi_of _, gi_rg _⟩
  obtain ⟨u3, eu3, ru3⟩ : ∃ z : Int, xs (i + 3).toNat = Int32.ofInt z ∧ (-2147483648 ≤ z ∧ z ≤ 2147483647) := ⟨_, gi_of _, gi_rg _⟩
  obtain ⟨u4, eu4, ru4⟩ : ∃ z : Int, xs (i + 4).toNat = Int32.ofInt z ∧ (-2147483648 ≤ z ∧ z ≤ 2147483647) := ⟨_, gi_of _, gi_rg _⟩
  obtain ⟨u5, eu5, ru5⟩ : ∃ z : Int, xs (i + 5).toNat = Int32.ofInt z ∧ (-2147483648 ≤ z ∧ z ≤ 2147483647) := ⟨_, gi_of _, gi_rg _⟩
  obtain ⟨u6, eu6, ru6⟩ : ∃ z : Int, xs (i + 6).toNat = Int32.ofInt z ∧ (-2147483648 ≤ z ∧ z ≤ 2147483647) := ⟨_, gi_of _, gi_rg _⟩
  refine g_aload_n (n := 1409) X 2 dL_law_1408 rfl rfl rfl ?_
  refine g_aload_n (n := 1410) X 3 dL_law_1409 rfl rfl rfl ?_
  refine g_iload_n (n := 1411) X 0 dL_law_1410 rfl rfl rfl ?_
  refine g_iconst (n := 1412) X dL_law_1411 rfl ?_
  refine g_iadd (n := 1413) (z := i + 1) X dL_law_1412 (by omega) rfl ?_
  refine g_scrld (n := 1414) (z := u1) X hb (by omega) (by omega) (by omega) dL_law_1413 rfl eu1 ?_
  refine g_aload_n (n := 1415) X 3 dL_law_1414 rfl rfl rfl ?_
  refine g_iload_n (n := 1416) X 0 dL_law_1415 rfl rfl rfl ?_
  refine g_iconst (n := 1417) X dL_law_1416 rfl ?_
  refine g_iadd (n := 1418) (z := i + 2) X dL_law_1417 (by omega) rfl ?_
  refine g_scrld (n := 1419) (z := u2) X hb (by omega) (by omega) (by omega) dL_law_1418 rfl eu2 ?_
  refine g_aload_n (n := 1420) X 3 dL_law_1419 rfl rfl rfl ?_
  refine g_iload_n (n := 1421) X 0 dL_law_1420 rfl rfl rfl ?_
  refine g_iconst (n := 1422) X dL_law_1421 rfl ?_
  refine g_iadd (n := 1423) (z := i + 3) X dL_law_1422 (by omega) rfl ?_
  refine g_scrld (n := 1424) (z := u3) X hb (by omega) (by omega) (by omega) dL_law_1423 rfl eu3 ?_
  refine g_callVi (n := 1427) (As := [gJ u1, gJ u2, gJ u3]) (rest := []) (cs1 := cs) (ss1 := ss) X (s_X11_share u1 (by omega) u2 (by omega) u3 (by omega) hsz I C ) okX11_share kw_5_51 ⟨kw_5_52, kw_5_53⟩ ⟨rfl, rfl⟩ ⟨Nat.le_of_ble_eq_true rfl, Nat.le_of_ble_eq_true rfl⟩ rfl (by decide) (gsz hsz (by decide)) lay_0 rfl rfl (Nat.le_of_ble_eq_true rfl) hRm rfl rfl dL_law_1424 rfl (fun v1 M2 P3 => ?_)
  obtain ⟨rv1, IM2, CM2, FM2⟩ := P3
  refine g_pop (n := 1428) X dL_law_1427 rfl rfl ?_
  refine g_aload_n (n := 1429) X 1 dL_law_1428 rfl rfl rfl ?_
  refine g_aload_n (n := 1430) X 3 dL_law_1429 rfl rfl rfl ?_
  refine g_iload_n (n := 1431) X 0 dL_law_1430 rfl rfl rfl ?_
  refine g_iconst (n := 1432) X dL_law_1431 rfl ?_
  refine g_iadd (n := 1433) (z := i + 1) X dL_law_1432 (by omega) rfl ?_
  refine g_scrld (n := 1434) (z := u1) X hb (by omega) (by omega) (by omega) dL_law_1433 rfl eu1 ?_
  refine g_aload_n (n := 1435) X 3 dL_law_1434 rfl rfl rfl ?_
  refine g_iload_n (n := 1436) X 0 dL_law_1435 rfl rfl rfl ?_
  refine g_iconst (n := 1437) X dL_law_1436 rfl ?_
  refine g_iadd (n := 1438) (z := i + 2) X dL_law_1437 (by omega) rfl ?_
  refine g_scrld (n := 1439) (z := u2) X hb (by omega) (by omega) (by omega) dL_law_1438 rfl eu2 ?_
  refine g_aload_n (n := 1440) X 3 dL_law_1439 rfl rfl rfl ?_
  refine g_iload_n (n := 1441) X 0 dL_law_1440 rfl rfl rfl ?_
  refine g_iconst (n := 1442) X dL_law_1441 rfl ?_
  refine g_iadd (n := 1443) (z := i + 3) X dL_law_1442 (by omega) rfl ?_
  refine g_scrld (n := 1444) (z := u3) X hb (by omega) (by omega) (by omega) dL_law_1443 rfl eu3 ?_
  refine g_callVi (n := 1447) (As := [gJ u1, gJ u2, gJ u3]) (rest := []) (cs1 := cs) (ss1 := ss) X (s_X12_share u1 (by omega) u2 (by omega) u3 (by omega) hsz IM2 CM2 (gW.fr (S := 4328521728) W ⟨sz, hsz, I⟩ (gFr.c gFr.rf FM2 rfl) rfl)) okX12_share kw_7_182 ⟨kw_7_183, kw_7_184⟩ ⟨rfl, rfl⟩ ⟨Nat.le_of_ble_eq_true rfl, Nat.le_of_ble_eq_true rfl⟩ rfl (by decide) (gsz hsz (by decide)) lay_190 rfl rfl (Nat.le_of_ble_eq_true rfl) hRm rfl rfl dL_law_1444 rfl (fun v4 M5 P6 => ?_)
  obtain ⟨rv4, IM5, CM5, FM5⟩ := P6
  refine g_pop (n := 1448) X dL_law_1447 rfl rfl ?_
  refine g_goto (tgt := 1992) X dL_law_1448 (by decide) ?_
  exact kk _ _ _ _ ⟨hsz, IM5, CM5, (gW.fr (S := 2475880189251224996384079872) W ⟨sz, hsz, I⟩ (gFr.c (gFr.c gFr.rf FM2 rfl) FM5 rfl) rfl), (by rw [((gFr.at FM5 rc_1_13.2.2 rfl).trans (gFr.at FM2 rc_1_13.2.2 rfl))]; exact LA), (by rw [((gFr.at FM5 (rs_NA (k := 4) (by omega)).2.2 rfl).trans (gFr.at FM2 (rs_NA (k := 4) (by omega)).2.2 rfl))]; exact LB), (lwK.fr LK ((gFr.c (gFr.c gFr.rf FM2 rfl) FM5 rfl) : gFr 2475880189251224996384079872 M M5) rfl), ⟨(rl_now.fr (rl_now.fr LR.1 hN FM2 rfl) (gN_of hsz IM2) FM5 rfl), (rl_npers.fr (rl_npers.fr LR.2.1 hN FM2 rfl) (gN_of hsz IM2) FM5 rfl), (rl_sex.fr (rl_sex.fr LR.2.2.1 hN FM2 rfl) (gN_of hsz IM2) FM5 rfl), (rl_born.fr (rl_born.fr LR.2.2.2.1 hN FM2 rfl) (gN_of hsz IM2) FM5 rfl), (rl_nright.fr (rl_nright.fr LR.2.2.2.2.1 hN FM2 rfl) (gN_of hsz IM2) FM5 rfl), (rl_nent.fr (rl_nent.fr LR.2.2.2.2.2.1 hN FM2 rfl) (gN_of hsz IM2) FM5 rfl), (rl_rkind.fr (rl_rkind.fr LR.2.2.2.2.2.2.1 hN FM2 rfl) (gN_of hsz IM2) FM5 rfl), (rl_rwho.fr (rl_rwho.fr LR.2.2.2.2.2.2.2.1 hN FM2 rfl) (gN_of hsz IM2) FM5 rfl), (rl_rto.fr (rl_rto.fr LR.2.2.2.2.2.2.2.2.1 hN FM2 rfl) (gN_of hsz IM2) FM5 rfl), (rl_rn.fr (rl_rn.fr LR.2.2.2.2.2.2.2.2.2.1 hN FM2 rfl) (gN_of hsz IM2) FM5 rfl), (rl_rweek.fr (rl_rweek.fr LR.2.2.2.2.2.2.2.2.2.2.1 hN FM2 rfl) (gN_of hsz IM2) FM5 rfl), (rl_rsure.fr (rl_rsure.fr LR.2.2.2.2.2.2.2.2.2.2.2.1 hN FM2 rfl) (gN_of hsz IM2) FM5 rfl), (rl_proofs.fr (rl_proofs.fr LR.2.2.2.2.2.2.2.2.2.2.2.2 hN FM2 rfl) (gN_of hsz IM2) FM5 rfl)⟩⟩
theorem dL_law_1451 : decode code 1451 = .ok (.aload_n 1, 1) := dc_43 (by decide +kernel)
theorem dL_law_1452 : decode code 1452 = .ok (.aload_n 0, 1) := dc_42 (by decide +kernel)
theorem dL_law_1453 : decode code 1453 = .ok (.iload_n 3, 1) := dc_29 (by decide +kernel)
theorem dL_law_1454 : decode code 1454 = .ok (.iconst 1, 1) := dc_4 (by decide +kernel)
theorem dL_law_1455 : decode code 1455 = .ok (.iadd, 1) := dc_96 (by decide +kernel)
theorem dL_law_1456 : decode code 1456 = .ok (.iaload, 1) := dc_46 (by decide +kernel)
theorem dL_law_1457 : decode code 1457 = .ok (.aload_n 0, 1) := dc_42 (by decide +kernel)
theorem dL_law_1458 : decode code 1458 = .ok (.iload_n 3, 1) := dc_29 (by decide +kernel)
theorem dL_law_1459 : decode code 1459 = .ok (.iconst 2, 1) := dc_5 (by decide +kernel)
theorem dL_law_1460 : decode code 1460 = .ok (.iadd, 1) := dc_96 (by decide +kernel)
theorem dL_law_1461 : decode code 1461 = .ok (.iaload, 1) := dc_46 (by decide +kernel)
theorem dL_law_1462 : decode code 1462 = .ok (.aload_n 0, 1) := dc_42 (by decide +kernel)
theorem dL_law_1463 : decode code 1463 = .ok (.iload_n 3, 1) := dc_29 (by decide +kernel)
theorem dL_law_1464 : decode code 1464 = .ok (.iconst 3, 1) := dc_6 (by decide +kernel)
theorem dL_law_1465 : decode code 1465 = .ok (.iadd, 1) := dc_96 (by decide +kernel)
theorem dL_law_1466 : decode code 1466 = .ok (.iaload, 1) := dc_46 (by decide +kernel)
theorem dL_law_1467 : decode code 1467 = .ok (.invokevirtual 141, 3) := dc_182 0 141 (by decide +kernel)
theorem kw_5_74 : (Jvm.Cond.methodLink "ParishUnionLaw" (141 : Nat) ({ cls := "ParishUnion", name := "sink", desc := "(III)I" } : Jvm.MethodName)) ∈ gT := gT_of (tb_5 _ (List.mem_of_getElem? (i := 74) rfl)) rfl
theorem kw_5_77 : (Jvm.Cond.code ({ cls := "ParishUnion", name := "sink", desc := "(III)I" } : Jvm.MethodName) prog_1_method_31_code (6 : Nat) (Option.some Jvm.ClassFile.FieldType.int)) ∈ gT := gT_of (tb_5 _ (List.mem_of_getElem? (i := 77) rfl)) rfl
theorem okX11_sink : gQok yX11_sink cX11_sink 6 (Option.some Jvm.ClassFile.FieldType.int) 3 := ⟨kw_5_77, kw_1_1, by decide +kernel, by decide +kernel, by decide +kernel⟩
theorem kw_5_75 : (Jvm.Cond.instanceMethod ({ cls := "ParishUnion", name := "sink", desc := "(III)I" } : Jvm.MethodName)) ∈ gT := gT_of (tb_5 _ (List.mem_of_getElem? (i := 75) rfl)) rfl
theorem kw_5_76 : (Jvm.Cond.selects "ParishUnion" ({ cls := "ParishUnion", name := "sink", desc := "(III)I" } : Jvm.MethodName) ({ cls := "ParishUnion", name := "sink", desc := "(III)I" } : Jvm.MethodName)) ∈ gT := gT_of (tb_5 _ (List.mem_of_getElem? (i := 76) rfl)) rfl
theorem dL_law_1470 : decode code 1470 = .ok (.pop, 1) := dc_87 (by decide +kernel)
theorem dL_law_1471 : decode code 1471 = .ok (.aload_n 2, 1) := dc_44 (by decide +kernel)
theorem dL_law_1472 : decode code 1472 = .ok (.aload_n 0, 1) := dc_42 (by decide +kernel)
theorem dL_law_1473 : decode code 1473 = .ok (.iload_n 3, 1) := dc_29 (by decide +kernel)
theorem dL_law_1474 : decode code 1474 = .ok (.iconst 1, 1) := dc_4 (by decide +kernel)
theorem dL_law_1475 : decode code 1475 = .ok (.iadd, 1) := dc_96 (by decide +kernel)
theorem dL_law_1476 : decode code 1476 = .ok (.iaload, 1) := dc_46 (by decide +kernel)
theorem dL_law_1477 : decode code 1477 = .ok (.aload_n 0, 1) := dc_42 (by decide +kernel)
theorem dL_law_1478 : decode code 1478 = .ok (.iload_n 3, 1) := dc_29 (by decide +kernel)
theorem dL_law_1479 : decode code 1479 = .ok (.iconst 2, 1) := dc_5 (by decide +kernel)
theorem dL_law_1480 : decode code 1480 = .ok (.iadd, 1) := dc_96 (by decide +kernel)
theorem dL_law_1481 : decode code 1481 = .ok (.iaload, 1) := dc_46 (by decide +kernel)
theorem dL_law_1482 : decode code 1482 = .ok (.aload_n 0, 1) := dc_42 (by decide +kernel)
theorem dL_law_1483 : decode code 1483 = .ok (.iload_n 3, 1) := dc_29 (by decide +kernel)
theorem dL_law_1484 : decode code 1484 = .ok (.iconst 3, 1) := dc_6 (by decide +kernel)
theorem dL_law_1485 : decode code 1485 = .ok (.iadd, 1) := dc_96 (by decide +kernel)
theorem dL_law_1486 : decode code 1486 = .ok (.iaload, 1) := dc_46 (by decide +kernel)
theorem dL_law_1487 : decode code 1487 = .ok (.invokevirtual 144, 3) := dc_182 0 144 (by decide +kernel)
theorem kw_7_192 : (Jvm.Cond.methodLink "ParishUnionLaw" (144 : Nat) ({ cls := "ParishUnionModel", name := "sink", desc := "(III)I" } : Jvm.MethodName)) ∈ gT := gT_of (tb_7 _ (List.mem_of_getElem? (i := 192) rfl)) rfl
theorem kw_7_195 : (Jvm.Cond.code ({ cls := "ParishUnionModel", name := "sink", desc := "(III)I" } : Jvm.MethodName) prog_14_method_84_code (6 : Nat) (Option.some Jvm.ClassFile.FieldType.int)) ∈ gT := gT_of (tb_7 _ (List.mem_of_getElem? (i := 195) rfl)) rfl
theorem okX12_sink : gQok yX12_sink cX12_sink 6 (Option.some Jvm.ClassFile.FieldType.int) 3 := ⟨kw_7_195, kw_1_13, by decide +kernel, by decide +kernel, by decide +kernel⟩
theorem kw_7_193 : (Jvm.Cond.instanceMethod ({ cls := "ParishUnionModel", name := "sink", desc := "(III)I" } : Jvm.MethodName)) ∈ gT := gT_of (tb_7 _ (List.mem_of_getElem? (i := 193) rfl)) rfl
theorem kw_7_194 : (Jvm.Cond.selects "ParishUnionModel" ({ cls := "ParishUnionModel", name := "sink", desc := "(III)I" } : Jvm.MethodName) ({ cls := "ParishUnionModel", name := "sink", desc := "(III)I" } : Jvm.MethodName)) ∈ gT := gT_of (tb_7 _ (List.mem_of_getElem? (i := 194) rfl)) rfl
theorem dL_law_1490 : decode code 1490 = .ok (.pop, 1) := dc_87 (by decide +kernel)
theorem dL_law_1491 : decode code 1491 = .ok (.goto 501, 3) := dc_167 1 245 501 (by decide +kernel)
set_option maxRecDepth 100000 in
set_option maxHeartbeats 4000000 in
theorem law_case_29 {p : Program} {e : Env} {s : State} {m : MethodId} {below : List Frame} {meth : Method} {cd : Code} {l : Launch} {D : va_G} {cA : Nat → ClassId} {b Ln : Nat} {xs : Nat → Int32} (X : gCx p s m #[Value.ref b] meth cd s.heap.size D cA "ParishUnionLaw" code 4) (hr : meth.sig.returnType = ret) (hb : b < s.heap.size ∧ va_X b Ln xs s s.heap) (hLn : Ln ≤ 3584) {sz cs ss : Nat} {M : gM} (L : lwI sz cs ss M) (i : Int) (hi : 0 ≤ i ∧ i + 7 ≤ (Ln : Int)) (kk : ∀ (sz cs ss : Nat) (M1 : gM), lwI sz cs ss M1 → G p l e room_1 s m #[Value.ref b] below meth cd s.heap.size D cA 4 (lw_Z below #[Value.ref b] s) cs ss M1 sz 1992 [(3, gJ i), (2, gA s.heap.size 190), (1, gA s.heap.size 0), (0, .ref b)] []) : G p l e room_1 s m #[Value.ref b] below meth cd s.heap.size D cA 4 (lw_Z below #[Value.ref b] s) cs ss M sz 1451 [(3, gJ i), (2, gA s.heap.size 190), (1, gA s.heap.size 0), (0, .ref b)] [] := by
  obtain ⟨hsz, I, C, W, LA, LB, LK, LR⟩ := L
  have hN := gN_of hsz I
  obtain ⟨ac, hac, rac⟩ : ∃ v : Int, M 1 13 = v ∧ (0 ≤ v ∧ v ≤ 10) := by
    obtain ⟨v, hv, rv⟩ := gRd I (by decide) (gsz hsz (by decide)) rc_1_13.1
    exact ⟨v, hv, by omega⟩
  obtain ⟨ab, hab, rab⟩ : ∃ v : Int, M 191 4 = v ∧ (0 ≤ v ∧ v ≤ 10) := by
    obtain ⟨v, hv, rv⟩ := gRd I (by decide) (gsz hsz (by decide)) (rs_NA (k := 4) (by omega)).1
    exact ⟨v, hv, by omega⟩
  have hRm : cs + 0 ≤ room_1.cells ∧ ss + 0 ≤ room_1.slots := by
    show cs + 0 ≤ 349274 ∧ ss + 0 ≤ 8054428
    have := lwK.room LK
    omega
  obtain ⟨u1, eu1, ru1⟩ : ∃ z : Int, xs (i + 1).toNat = Int32.ofInt z ∧ (-2147483648 ≤ z ∧ z ≤ 2147483647) := ⟨_, gi_of _, gi_rg _⟩
  obtain ⟨u2, eu2, ru2⟩ : ∃ z : Int, xs (i + 2).toNat = Int32.ofInt z ∧ (-2147483648 ≤ z ∧ z ≤ 2147483647) := ⟨_, gi_of _, gi_rg _⟩
  obtain ⟨u3, eu3, ru3⟩ : ∃ z : Int, xs (i + 3).toNat = Int32.ofInt z ∧ (-2147483648 ≤ z ∧ z ≤ 2147483647) := ⟨_, gi_of _, gi_rg _⟩
  obtain ⟨u4, eu4, ru4⟩ : ∃ z : Int, xs (i + 4).toNat = Int32.ofInt z ∧ (-2147483648 ≤ z ∧ z ≤ 2147483647) := ⟨_, gi_of _, gi_rg _⟩
  obtain ⟨u5, eu5, ru5⟩ : ∃ z : Int, xs (i + 5).toNat = Int32.ofInt z ∧ (-2147483648 ≤ z ∧ z ≤ 2147483647) := ⟨_, gi_of _, gi_rg _⟩
  obtain ⟨u6, eu6, ru6⟩ : ∃ z : Int, xs (i + 6).toNat = Int32.ofInt z ∧ (-2147483648 ≤ z ∧ z ≤ 2147483647) := ⟨_, gi_of _, gi_rg _⟩
  refine g_aload_n (n := 1452) X 2 dL_law_1451 rfl rfl rfl ?_
  refine g_aload_n (n := 1453) X 3 dL_law_1452 rfl rfl rfl ?_
  refine g_iload_n (n := 1454) X 0 dL_law_1453 rfl rfl rfl ?_
  refine g_iconst (n := 1455) X dL_law_1454 rfl ?_
  refine g_iadd (n := 1456) (z := i + 1) X dL_law_1455 (by omega) rfl ?_
  refine g_scrld (n := 1457) (z := u1) X hb (by omega) (by omega) (by omega) dL_law_1456 rfl eu1 ?_
  refine g_aload_n (n := 1458) X 3 dL_law_1457 rfl rfl rfl ?_
  refine g_iload_n (n := 1459) X 0 dL_law_1458 rfl rfl rfl ?_
  refine g_iconst (n := 1460) X dL_law_1459 rfl ?_
  refine g_iadd (n := 1461) (z := i + 2) X dL_law_1460 (by omega) rfl ?_
  refine g_scrld (n := 1462) (z := u2) X hb (by omega) (by omega) (by omega) dL_law_1461 rfl eu2 ?_
  refine g_aload_n (n := 1463) X 3 dL_law_1462 rfl rfl rfl ?_
  refine g_iload_n (n := 1464) X 0 dL_law_1463 rfl rfl rfl ?_
  refine g_iconst (n := 1465) X dL_law_1464 rfl ?_
  refine g_iadd (n := 1466) (z := i + 3) X dL_law_1465 (by omega) rfl ?_
  refine g_scrld (n := 1467) (z := u3) X hb (by omega) (by omega) (by omega) dL_law_1466 rfl eu3 ?_
  refine g_callVi (n := 1470) (As := [gJ u1, gJ u2, gJ u3]) (rest := []) (cs1 := cs) (ss1 := ss) X (s_X11_sink u1 (by omega) u2 (by omega) u3 (by omega) hsz I C ) okX11_sink kw_5_74 ⟨kw_5_75, kw_5_76⟩ ⟨rfl, rfl⟩ ⟨Nat.le_of_ble_eq_true rfl, Nat.le_of_ble_eq_true rfl⟩ rfl (by decide) (gsz hsz (by decide)) lay_0 rfl rfl (Nat.le_of_ble_eq_true rfl) hRm rfl rfl dL_law_1467 rfl (fun v1 M2 P3 => ?_)
  obtain ⟨rv1, IM2, CM2, FM2⟩ := P3
  refine g_pop (n := 1471) X dL_law_1470 rfl rfl ?_
  refine g_aload_n (n := 1472) X 1 dL_law_1471 rfl rfl rfl ?_
  refine g_aload_n (n := 1473) X 3 dL_law_1472 rfl rfl rfl ?_
  refine g_iload_n (n := 1474) X 0 dL_law_1473 rfl rfl rfl ?_
  refine g_iconst (n := 1475) X dL_law_1474 rfl ?_
  refine g_iadd (n := 1476) (z := i + 1) X dL_law_1475 (by omega) rfl ?_
  refine g_scrld (n := 1477) (z := u1) X hb (by omega) (by omega) (by omega) dL_law_1476 rfl eu1 ?_
  refine g_aload_n (n := 1478) X 3 dL_law_1477 rfl rfl rfl ?_
  refine g_iload_n (n := 1479) X 0 dL_law_1478 rfl rfl rfl ?_
  refine g_iconst (n := 1480) X dL_law_1479 rfl ?_
  refine g_iadd (n := 1481) (z := i + 2) X dL_law_1480 (by omega) rfl ?_
  refine g_scrld (n := 1482) (z := u2) X hb (by omega) (by omega) (by omega) dL_law_1481 rfl eu2 ?_
  refine g_aload_n (n := 1483) X 3 dL_law_1482 rfl rfl rfl ?_
  refine g_iload_n (n := 1484) X 0 dL_law_1483 rfl rfl rfl ?_
  refine g_iconst (n := 1485) X dL_law_1484 rfl ?_
  refine g_iadd (n := 1486) (z := i + 3) X dL_law_1485 (by omega) rfl ?_
  refine g_scrld (n := 1487) (z := u3) X hb (by omega) (by omega) (by omega) dL_law_1486 rfl eu3 ?_
  refine g_callVi (n := 1490) (As := [gJ u1, gJ u2, gJ u3]) (rest := []) (cs1 := cs) (ss1 := ss) X (s_X12_sink u1 (by omega) u2 (by omega) u3 (by omega) hsz IM2 CM2 (gW.fr (S := 4328521728) W ⟨sz, hsz, I⟩ (gFr.c gFr.rf FM2 rfl) rfl)) okX12_sink kw_7_192 ⟨kw_7_193, kw_7_194⟩ ⟨rfl, rfl⟩ ⟨Nat.le_of_ble_eq_true rfl, Nat.le_of_ble_eq_true rfl⟩ rfl (by decide) (gsz hsz (by decide)) lay_190 rfl rfl (Nat.le_of_ble_eq_true rfl) hRm rfl rfl dL_law_1487 rfl (fun v4 M5 P6 => ?_)
  obtain ⟨rv4, IM5, CM5, FM5⟩ := P6
  refine g_pop (n := 1491) X dL_law_1490 rfl rfl ?_
  refine g_goto (tgt := 1992) X dL_law_1491 (by decide) ?_
  exact kk _ _ _ _ ⟨hsz, IM5, CM5, (gW.fr (S := 2475880189251224996384079872) W ⟨sz, hsz, I⟩ (gFr.c (gFr.c gFr.rf FM2 rfl) FM5 rfl) rfl), (by rw [((gFr.at FM5 rc_1_13.2.2 rfl).trans (gFr.at FM2 rc_1_13.2.2 rfl))]; exact LA), (by rw [((gFr.at FM5 (rs_NA (k := 4) (by omega)).2.2 rfl).trans (gFr.at FM2 (rs_NA (k := 4) (by omega)).2.2 rfl))]; exact LB), (lwK.fr LK ((gFr.c (gFr.c gFr.rf FM2 rfl) FM5 rfl) : gFr 2475880189251224996384079872 M M5) rfl), ⟨(rl_now.fr (rl_now.fr LR.1 hN FM2 rfl) (gN_of hsz IM2) FM5 rfl), (rl_npers.fr (rl_npers.fr LR.2.1 hN FM2 rfl) (gN_of hsz IM2) FM5 rfl), (rl_sex.fr (rl_sex.fr LR.2.2.1 hN FM2 rfl) (gN_of hsz IM2) FM5 rfl), (rl_born.fr (rl_born.fr LR.2.2.2.1 hN FM2 rfl) (gN_of hsz IM2) FM5 rfl), (rl_nright.fr (rl_nright.fr LR.2.2.2.2.1 hN FM2 rfl) (gN_of hsz IM2) FM5 rfl), (rl_nent.fr (rl_nent.fr LR.2.2.2.2.2.1 hN FM2 rfl) (gN_of hsz IM2) FM5 rfl), (rl_rkind.fr (rl_rkind.fr LR.2.2.2.2.2.2.1 hN FM2 rfl) (gN_of hsz IM2) FM5 rfl), (rl_rwho.fr (rl_rwho.fr LR.2.2.2.2.2.2.2.1 hN FM2 rfl) (gN_of hsz IM2) FM5 rfl), (rl_rto.fr (rl_rto.fr LR.2.2.2.2.2.2.2.2.1 hN FM2 rfl) (gN_of hsz IM2) FM5 rfl), (rl_rn.fr (rl_rn.fr LR.2.2.2.2.2.2.2.2.2.1 hN FM2 rfl) (gN_of hsz IM2) FM5 rfl), (rl_rweek.fr (rl_rweek.fr LR.2.2.2.2.2.2.2.2.2.2.1 hN FM2 rfl) (gN_of hsz IM2) FM5 rfl), (rl_rsure.fr (rl_rsure.fr LR.2.2.2.2.2.2.2.2.2.2.2.1 hN FM2 rfl) (gN_of hsz IM2) FM5 rfl), (rl_proofs.fr (rl_proofs.fr LR.2.2.2.2.2.2.2.2.2.2.2.2 hN FM2 rfl) (gN_of hsz IM2) FM5 rfl)⟩⟩
theorem dL_law_1494 : decode code 1494 = .ok (.aload_n 1, 1) := dc_43 (by decide +kernel)
theorem dL_law_1495 : decode code 1495 = .ok (.aload_n 0, 1) := dc_42 (by decide +kernel)
theorem dL_law_1496 : decode code 1496 = .ok (.iload_n 3, 1) := dc_29 (by decide +kernel)
theorem dL_law_1497 : decode code 1497 = .ok (.iconst 1, 1) := dc_4 (by decide +kernel)
theorem dL_law_1498 : decode code 1498 = .ok (.iadd, 1) := dc_96 (by decide +kernel)
theorem dL_law_1499 : decode code 1499 = .ok (.iaload, 1) := dc_46 (by decide +kernel)
theorem dL_law_1500 : decode code 1500 = .ok (.aload_n 0, 1) := dc_42 (by decide +kernel)
theorem dL_law_1501 : decode code 1501 = .ok (.iload_n 3, 1) := dc_29 (by decide +kernel)
theorem dL_law_1502 : decode code 1502 = .ok (.iconst 2, 1) := dc_5 (by decide +kernel)
theorem dL_law_1503 : decode code 1503 = .ok (.iadd, 1) := dc_96 (by decide +kernel)
theorem dL_law_1504 : decode code 1504 = .ok (.iaload, 1) := dc_46 (by decide +kernel)
theorem dL_law_1505 : decode code 1505 = .ok (.aload_n 0, 1) := dc_42 (by decide +kernel)
theorem dL_law_1506 : decode code 1506 = .ok (.iload_n 3, 1) := dc_29 (by decide +kernel)
theorem dL_law_1507 : decode code 1507 = .ok (.iconst 3, 1) := dc_6 (by decide +kernel)
theorem dL_law_1508 : decode code 1508 = .ok (.iadd, 1) := dc_96 (by decide +kernel)
theorem dL_law_1509 : decode code 1509 = .ok (.iaload, 1) := dc_46 (by decide +kernel)
theorem dL_law_1510 : decode code 1510 = .ok (.aload_n 0, 1) := dc_42 (by decide +kernel)
theorem dL_law_1511 : decode code 1511 = .ok (.iload_n 3, 1) := dc_29 (by decide +kernel)
theorem dL_law_1512 : decode code 1512 = .ok (.iconst 4, 1) := dc_7 (by decide +kernel)
theorem dL_law_1513 : decode code 1513 = .ok (.iadd, 1) := dc_96 (by decide +kernel)
theorem dL_law_1514 : decode code 1514 = .ok (.iaload, 1) := dc_46 (by decide +kernel)
theorem dL_law_1515 : decode code 1515 = .ok (.invokevirtual 145, 3) := dc_182 0 145 (by decide +kernel)
theorem kw_5_78 : (Jvm.Cond.methodLink "ParishUnionLaw" (145 : Nat) ({ cls := "ParishUnion", name := "owed", desc := "(IIII)I" } : Jvm.MethodName)) ∈ gT := gT_of (tb_5 _ (List.mem_of_getElem? (i := 78) rfl)) rfl
theorem kw_5_81 : (Jvm.Cond.code ({ cls := "ParishUnion", name := "owed", desc := "(IIII)I" } : Jvm.MethodName) prog_1_method_32_code (9 : Nat) (Option.some Jvm.ClassFile.FieldType.int)) ∈ gT := gT_of (tb_5 _ (List.mem_of_getElem? (i := 81) rfl)) rfl
theorem okX11_owed : gQok yX11_owed cX11_owed 9 (Option.some Jvm.ClassFile.FieldType.int) 4 := ⟨kw_5_81, kw_1_1, by decide +kernel, by decide +kernel, by decide +kernel⟩
theorem kw_5_79 : (Jvm.Cond.instanceMethod ({ cls := "ParishUnion", name := "owed", desc := "(IIII)I" } : Jvm.MethodName)) ∈ gT := gT_of (tb_5 _ (List.mem_of_getElem? (i := 79) rfl)) rfl
theorem kw_5_80 : (Jvm.Cond.selects "ParishUnion" ({ cls := "ParishUnion", name := "owed", desc := "(IIII)I" } : Jvm.MethodName) ({ cls := "ParishUnion", name := "owed", desc := "(IIII)I" } : Jvm.MethodName)) ∈ gT := gT_of (tb_5 _ (List.mem_of_getElem? (i := 80) rfl)) rfl
theorem dL_law_1518 : decode code 1518 = .ok (.pop, 1) := dc_87 (by decide +kernel)
theorem dL_law_1519 : decode code 1519 = .ok (.aload_n 2, 1) := dc_44 (by decide +kernel)
theorem dL_law_1520 : decode code 1520 = .ok (.aload_n 0, 1) := dc_42 (by decide +kernel)
theorem dL_law_1521 : decode code 1521 = .ok (.iload_n 3, 1) := dc_29 (by decide +kernel)
theorem dL_law_1522 : decode code 1522 = .ok (.iconst 1, 1) := dc_4 (by decide +kernel)
theorem dL_law_1523 : decode code 1523 = .ok (.iadd, 1) := dc_96 (by decide +kernel)
theorem dL_law_1524 : decode code 1524 = .ok (.iaload, 1) := dc_46 (by decide +kernel)
theorem dL_law_1525 : decode code 1525 = .ok (.aload_n 0, 1) := dc_42 (by decide +kernel)
theorem dL_law_1526 : decode code 1526 = .ok (.iload_n 3, 1) := dc_29 (by decide +kernel)
theorem dL_law_1527 : decode code 1527 = .ok (.iconst 2, 1) := dc_5 (by decide +kernel)
theorem dL_law_1528 : decode code 1528 = .ok (.iadd, 1) := dc_96 (by decide +kernel)
theorem dL_law_1529 : decode code 1529 = .ok (.iaload, 1) := dc_46 (by decide +kernel)
theorem dL_law_1530 : decode code 1530 = .ok (.aload_n 0, 1) := dc_42 (by decide +kernel)
theorem dL_law_1531 : decode code 1531 = .ok (.iload_n 3, 1) := dc_29 (by decide +kernel)
theorem dL_law_1532 : decode code 1532 = .ok (.iconst 3, 1) := dc_6 (by decide +kernel)
theorem dL_law_1533 : decode code 1533 = .ok (.iadd, 1) := dc_96 (by decide +kernel)
theorem dL_law_1534 : decode code 1534 = .ok (.iaload, 1) := dc_46 (by decide +kernel)
theorem dL_law_1535 : decode code 1535 = .ok (.aload_n 0, 1) := dc_42 (by decide +kernel)
theorem dL_law_1536 : decode code 1536 = .ok (.iload_n 3, 1) := dc_29 (by decide +kernel)
theorem dL_law_1537 : decode code 1537 = .ok (.iconst 4, 1) := dc_7 (by decide +kernel)
theorem dL_law_1538 : decode code 1538 = .ok (.iadd, 1) := dc_96 (by decide +kernel)
theorem dL_law_1539 : decode code 1539 = .ok (.iaload, 1) := dc_46 (by decide +kernel)
theorem dL_law_1540 : decode code 1540 = .ok (.invokevirtual 148, 3) := dc_182 0 148 (by decide +kernel)
theorem kw_7_196 : (Jvm.Cond.methodLink "ParishUnionLaw" (148 : Nat) ({ cls := "ParishUnionModel", name := "owed", desc := "(IIII)I" } : Jvm.MethodName)) ∈ gT := gT_of (tb_7 _ (List.mem_of_getElem? (i := 196) rfl)) rfl
theorem kw_7_199 : (Jvm.Cond.code ({ cls := "ParishUnionModel", name := "owed", desc := "(IIII)I" } : Jvm.MethodName) prog_14_method_85_code (9 : Nat) (Option.some Jvm.ClassFile.FieldType.int)) ∈ gT := gT_of (tb_7 _ (List.mem_of_getElem? (i := 199) rfl)) rfl
theorem okX12_owed : gQok yX12_owed cX12_owed 9 (Option.some Jvm.ClassFile.FieldType.int) 4 := ⟨kw_7_199, kw_1_13, by decide +kernel, by decide +kernel, by decide +kernel⟩
theorem kw_7_197 : (Jvm.Cond.instanceMethod ({ cls := "ParishUnionModel", name := "owed", desc := "(IIII)I" } : Jvm.MethodName)) ∈ gT := gT_of (tb_7 _ (List.mem_of_getElem? (i := 197) rfl)) rfl
theorem kw_7_198 : (Jvm.Cond.selects "ParishUnionModel" ({ cls := "ParishUnionModel", name := "owed", desc := "(IIII)I" } : Jvm.MethodName) ({ cls := "ParishUnionModel", name := "owed", desc := "(IIII)I" } : Jvm.MethodName)) ∈ gT := gT_of (tb_7 _ (List.mem_of_getElem? (i := 198) rfl)) rfl
theorem dL_law_1543 : decode code 1543 = .ok (.pop, 1) := dc_87 (by decide +kernel)
theorem dL_law_1544 : decode code 1544 = .ok (.goto 448, 3) := dc_167 1 192 448 (by decide +kernel)
set_option maxRecDepth 100000 in
set_option maxHeartbeats 4000000 in
theorem law_case_30 {p : Program} {e : Env} {s : State} {m : MethodId} {below : List Frame} {meth : Method} {cd : Code} {l : Launch} {D : va_G} {cA : Nat → ClassId} {b Ln : Nat} {xs : Nat → Int32} (X : gCx p s m #[Value.ref b] meth cd s.heap.size D cA "ParishUnionLaw" code 4) (hr : meth.sig.returnType = ret) (hb : b < s.heap.size ∧ va_X b Ln xs s s.heap) (hLn : Ln ≤ 3584) {sz cs ss : Nat} {M : gM} (L : lwI sz cs ss M) (i : Int) (hi : 0 ≤ i ∧ i + 7 ≤ (Ln : Int)) (kk : ∀ (sz cs ss : Nat) (M1 : gM), lwI sz cs ss M1 → G p l e room_1 s m #[Value.ref b] below meth cd s.heap.size D cA 4 (lw_Z below #[Value.ref b] s) cs ss M1 sz 1992 [(3, gJ i), (2, gA s.heap.size 190), (1, gA s.heap.size 0), (0, .ref b)] []) : G p l e room_1 s m #[Value.ref b] below meth cd s.heap.size D cA 4 (lw_Z below #[Value.ref b] s) cs ss M sz 1494 [(3, gJ i), (2, gA s.heap.size 190), (1, gA s.heap.size 0), (0, .ref b)] [] := by
  obtain ⟨hsz, I, C, W, LA, LB, LK, LR⟩ := L
  have hN := gN_of hsz I
  obtain ⟨ac, hac, rac⟩ : ∃ v : Int, M 1 13 = v ∧ (0 ≤ v ∧ v ≤ 10) := by
    obtain ⟨v, hv, rv⟩ := gRd I (by decide) (gsz hsz (by decide)) rc_1_13.1
    exact ⟨v, hv, by omega⟩
  obtain ⟨ab, hab, rab⟩ : ∃ v : Int, M 191 4 = v ∧ (0 ≤ v ∧ v ≤ 10) := by
    obtain ⟨v, hv, rv⟩ := gRd I (by decide) (gsz hsz (by decide)) (rs_NA (k := 4) (by omega)).1
    exact ⟨v, hv, by omega⟩
  have hRm : cs + 0 ≤ room_1.cells ∧ ss + 0 ≤ room_1.slots := by
    show cs + 0 ≤ 349274 ∧ ss + 0 ≤ 8054428
    have := lwK.room LK
    omega
  obtain ⟨u1, eu1, ru1⟩ : ∃ z : Int, xs (i + 1).toNat = Int32.ofInt z ∧ (-2147483648 ≤ z ∧ z ≤ 2147483647) := ⟨_, gi_of _, gi_rg _⟩
  obtain ⟨u2, eu2, ru2⟩ : ∃ z : Int, xs (i + 2).toNat = Int32.ofInt z ∧ (-2147483648 ≤ z ∧ z ≤ 2147483647) := ⟨_, gi_of _, gi_rg _⟩
  obtain ⟨u3, eu3, ru3⟩ : ∃ z : Int, xs (i + 3).toNat = Int32.ofInt z ∧ (-2147483648 ≤ z ∧ z ≤ 2147483647) := ⟨_, gi_of _, gi_rg _⟩
  obtain ⟨u4, eu4, ru4⟩ : ∃ z : Int, xs (i + 4).toNat = Int32.ofInt z ∧ (-2147483648 ≤ z ∧ z ≤ 2147483647) := ⟨_, gi_of _, gi_rg _⟩
  obtain ⟨u5, eu5, ru5⟩ : ∃ z : Int, xs (i + 5).toNat = Int32.ofInt z ∧ (-2147483648 ≤ z ∧ z ≤ 2147483647) := ⟨_, gi_of _, gi_rg _⟩
  obtain ⟨u6, eu6, ru6⟩ : ∃ z : Int, xs (i + 6).toNat = Int32.ofInt z ∧ (-2147483648 ≤ z ∧ z ≤ 2147483647) := ⟨_, gi_of _, gi_rg _⟩
  refine g_aload_n (n := 1495) X 2 dL_law_1494 rfl rfl rfl ?_
  refine g_aload_n (n := 1496) X 3 dL_law_1495 rfl rfl rfl ?_
  refine g_iload_n (n := 1497) X 0 dL_law_1496 rfl rfl rfl ?_
  refine g_iconst (n := 1498) X dL_law_1497 rfl ?_
  refine g_iadd (n := 1499) (z := i + 1) X dL_law_1498 (by omega) rfl ?_
  refine g_scrld (n := 1500) (z := u1) X hb (by omega) (by omega) (by omega) dL_law_1499 rfl eu1 ?_
  refine g_aload_n (n := 1501) X 3 dL_law_1500 rfl rfl rfl ?_
  refine g_iload_n (n := 1502) X 0 dL_law_1501 rfl rfl rfl ?_
  refine g_iconst (n := 1503) X dL_law_1502 rfl ?_
  refine g_iadd (n := 1504) (z := i + 2) X dL_law_1503 (by omega) rfl ?_
  refine g_scrld (n := 1505) (z := u2) X hb (by omega) (by omega) (by omega) dL_law_1504 rfl eu2 ?_
  refine g_aload_n (n := 1506) X 3 dL_law_1505 rfl rfl rfl ?_
  refine g_iload_n (n := 1507) X 0 dL_law_1506 rfl rfl rfl ?_
  refine g_iconst (n := 1508) X dL_law_1507 rfl ?_
  refine g_iadd (n := 1509) (z := i + 3) X dL_law_1508 (by omega) rfl ?_
  refine g_scrld (n := 1510) (z := u3) X hb (by omega) (by omega) (by omega) dL_law_1509 rfl eu3 ?_
  refine g_aload_n (n := 1511) X 3 dL_law_1510 rfl rfl rfl ?_
  refine g_iload_n (n := 1512) X 0 dL_law_1511 rfl rfl rfl ?_
  refine g_iconst (n := 1513) X dL_law_1512 rfl ?_
  refine g_iadd (n := 1514) (z := i + 4) X dL_law_1513 (by omega) rfl ?_
  refine g_scrld (n := 1515) (z := u4) X hb (by omega) (by omega) (by omega) dL_law_1514 rfl eu4 ?_
  refine g_callVi (n := 1518) (As := [gJ u1, gJ u2, gJ u3, gJ u4]) (rest := []) (cs1 := cs) (ss1 := ss) X (s_X11_owed u1 (by omega) u2 (by omega) u3 (by omega) u4 (by omega) hsz I C ) okX11_owed kw_5_78 ⟨kw_5_79, kw_5_80⟩ ⟨rfl, rfl⟩ ⟨Nat.le_of_ble_eq_true rfl, Nat.le_of_ble_eq_true rfl⟩ rfl (by decide) (gsz hsz (by decide)) lay_0 rfl rfl (Nat.le_of_ble_eq_true rfl) hRm rfl rfl dL_law_1515 rfl (fun v1 M2 P3 => ?_)
  obtain ⟨rv1, IM2, CM2, FM2⟩ := P3
  refine g_pop (n := 1519) X dL_law_1518 rfl rfl ?_
  refine g_aload_n (n := 1520) X 1 dL_law_1519 rfl rfl rfl ?_
  refine g_aload_n (n := 1521) X 3 dL_law_1520 rfl rfl rfl ?_
  refine g_iload_n (n := 1522) X 0 dL_law_1521 rfl rfl rfl ?_
  refine g_iconst (n := 1523) X dL_law_1522 rfl ?_
  refine g_iadd (n := 1524) (z := i + 1) X dL_law_1523 (by omega) rfl ?_
  refine g_scrld (n := 1525) (z := u1) X hb (by omega) (by omega) (by omega) dL_law_1524 rfl eu1 ?_
  refine g_aload_n (n := 1526) X 3 dL_law_1525 rfl rfl rfl ?_
  refine g_iload_n (n := 1527) X 0 dL_law_1526 rfl rfl rfl ?_
  refine g_iconst (n := 1528) X dL_law_1527 rfl ?_
  refine g_iadd (n := 1529) (z := i + 2) X dL_law_1528 (by omega) rfl ?_
  refine g_scrld (n := 1530) (z := u2) X hb (by omega) (by omega) (by omega) dL_law_1529 rfl eu2 ?_
  refine g_aload_n (n := 1531) X 3 dL_law_1530 rfl rfl rfl ?_
  refine g_iload_n (n := 1532) X 0 dL_law_1531 rfl rfl rfl ?_
  refine g_iconst (n := 1533) X dL_law_1532 rfl ?_
  refine g_iadd (n := 1534) (z := i + 3) X dL_law_1533 (by omega) rfl ?_
  refine g_scrld (n := 1535) (z := u3) X hb (by omega) (by omega) (by omega) dL_law_1534 rfl eu3 ?_
  refine g_aload_n (n := 1536) X 3 dL_law_1535 rfl rfl rfl ?_
  refine g_iload_n (n := 1537) X 0 dL_law_1536 rfl rfl rfl ?_
  refine g_iconst (n := 1538) X dL_law_1537 rfl ?_
  refine g_iadd (n := 1539) (z := i + 4) X dL_law_1538 (by omega) rfl ?_
  refine g_scrld (n := 1540) (z := u4) X hb (by omega) (by omega) (by omega) dL_law_1539 rfl eu4 ?_
  refine g_callVi (n := 1543) (As := [gJ u1, gJ u2, gJ u3, gJ u4]) (rest := []) (cs1 := cs) (ss1 := ss) X (s_X12_owed u1 (by omega) u2 (by omega) u3 (by omega) u4 (by omega) hsz IM2 CM2 (gW.fr (S := 33554432) W ⟨sz, hsz, I⟩ (gFr.c gFr.rf FM2 rfl) rfl)) okX12_owed kw_7_196 ⟨kw_7_197, kw_7_198⟩ ⟨rfl, rfl⟩ ⟨Nat.le_of_ble_eq_true rfl, Nat.le_of_ble_eq_true rfl⟩ rfl (by decide) (gsz hsz (by decide)) lay_190 rfl rfl (Nat.le_of_ble_eq_true rfl) hRm rfl rfl dL_law_1540 rfl (fun v4 M5 P6 => ?_)
  obtain ⟨rv4, IM5, CM5, FM5⟩ := P6
  refine g_pop (n := 1544) X dL_law_1543 rfl rfl ?_
  refine g_goto (tgt := 1992) X dL_law_1544 (by decide) ?_
  exact kk _ _ _ _ ⟨hsz, IM5, CM5, (gW.fr (S := 2475880189251224992089112576) W ⟨sz, hsz, I⟩ (gFr.c (gFr.c gFr.rf FM2 rfl) FM5 rfl) rfl), (by rw [((gFr.at FM5 rc_1_13.2.2 rfl).trans (gFr.at FM2 rc_1_13.2.2 rfl))]; exact LA), (by rw [((gFr.at FM5 (rs_NA (k := 4) (by omega)).2.2 rfl).trans (gFr.at FM2 (rs_NA (k := 4) (by omega)).2.2 rfl))]; exact LB), (lwK.fr LK ((gFr.c (gFr.c gFr.rf FM2 rfl) FM5 rfl) : gFr 2475880189251224992089112576 M M5) rfl), ⟨(rl_now.fr (rl_now.fr LR.1 hN FM2 rfl) (gN_of hsz IM2) FM5 rfl), (rl_npers.fr (rl_npers.fr LR.2.1 hN FM2 rfl) (gN_of hsz IM2) FM5 rfl), (rl_sex.fr (rl_sex.fr LR.2.2.1 hN FM2 rfl) (gN_of hsz IM2) FM5 rfl), (rl_born.fr (rl_born.fr LR.2.2.2.1 hN FM2 rfl) (gN_of hsz IM2) FM5 rfl), (rl_nright.fr (rl_nright.fr LR.2.2.2.2.1 hN FM2 rfl) (gN_of hsz IM2) FM5 rfl), (rl_nent.fr (rl_nent.fr LR.2.2.2.2.2.1 hN FM2 rfl) (gN_of hsz IM2) FM5 rfl), (rl_rkind.fr (rl_rkind.fr LR.2.2.2.2.2.2.1 hN FM2 rfl) (gN_of hsz IM2) FM5 rfl), (rl_rwho.fr (rl_rwho.fr LR.2.2.2.2.2.2.2.1 hN FM2 rfl) (gN_of hsz IM2) FM5 rfl), (rl_rto.fr (rl_rto.fr LR.2.2.2.2.2.2.2.2.1 hN FM2 rfl) (gN_of hsz IM2) FM5 rfl), (rl_rn.fr (rl_rn.fr LR.2.2.2.2.2.2.2.2.2.1 hN FM2 rfl) (gN_of hsz IM2) FM5 rfl), (rl_rweek.fr (rl_rweek.fr LR.2.2.2.2.2.2.2.2.2.2.1 hN FM2 rfl) (gN_of hsz IM2) FM5 rfl), (rl_rsure.fr (rl_rsure.fr LR.2.2.2.2.2.2.2.2.2.2.2.1 hN FM2 rfl) (gN_of hsz IM2) FM5 rfl), (rl_proofs.fr (rl_proofs.fr LR.2.2.2.2.2.2.2.2.2.2.2.2 hN FM2 rfl) (gN_of hsz IM2) FM5 rfl)⟩⟩
theorem dL_law_1547 : decode code 1547 = .ok (.aload_n 1, 1) := dc_43 (by decide +kernel)
theorem dL_law_1548 : decode code 1548 = .ok (.aload_n 0, 1) := dc_42 (by decide +kernel)
theorem dL_law_1549 : decode code 1549 = .ok (.iload_n 3, 1) := dc_29 (by decide +kernel)
theorem dL_law_1550 : decode code 1550 = .ok (.iconst 1, 1) := dc_4 (by decide +kernel)
theorem dL_law_1551 : decode code 1551 = .ok (.iadd, 1) := dc_96 (by decide +kernel)
theorem dL_law_1552 : decode code 1552 = .ok (.iaload, 1) := dc_46 (by decide +kernel)
theorem dL_law_1553 : decode code 1553 = .ok (.aload_n 0, 1) := dc_42 (by decide +kernel)
theorem dL_law_1554 : decode code 1554 = .ok (.iload_n 3, 1) := dc_29 (by decide +kernel)
theorem dL_law_1555 : decode code 1555 = .ok (.iconst 2, 1) := dc_5 (by decide +kernel)
theorem dL_law_1556 : decode code 1556 = .ok (.iadd, 1) := dc_96 (by decide +kernel)
theorem dL_law_1557 : decode code 1557 = .ok (.iaload, 1) := dc_46 (by decide +kernel)
theorem dL_law_1558 : decode code 1558 = .ok (.aload_n 0, 1) := dc_42 (by decide +kernel)
theorem dL_law_1559 : decode code 1559 = .ok (.iload_n 3, 1) := dc_29 (by decide +kernel)
theorem dL_law_1560 : decode code 1560 = .ok (.iconst 3, 1) := dc_6 (by decide +kernel)
theorem dL_law_1561 : decode code 1561 = .ok (.iadd, 1) := dc_96 (by decide +kernel)
theorem dL_law_1562 : decode code 1562 = .ok (.iaload, 1) := dc_46 (by decide +kernel)
theorem dL_law_1563 : decode code 1563 = .ok (.invokevirtual 149, 3) := dc_182 0 149 (by decide +kernel)
theorem kw_5_82 : (Jvm.Cond.methodLink "ParishUnionLaw" (149 : Nat) ({ cls := "ParishUnion", name := "night", desc := "(III)I" } : Jvm.MethodName)) ∈ gT := gT_of (tb_5 _ (List.mem_of_getElem? (i := 82) rfl)) rfl
theorem kw_5_85 : (Jvm.Cond.code ({ cls := "ParishUnion", name := "night", desc := "(III)I" } : Jvm.MethodName) prog_1_method_33_code (4 : Nat) (Option.some Jvm.ClassFile.FieldType.int)) ∈ gT := gT_of (tb_5 _ (List.mem_of_getElem? (i := 85) rfl)) rfl
theorem okX11_night : gQok yX11_night cX11_night 4 (Option.some Jvm.ClassFile.FieldType.int) 3 := ⟨kw_5_85, kw_1_1, by decide +kernel, by decide +kernel, by decide +kernel⟩
theorem kw_5_83 : (Jvm.Cond.instanceMethod ({ cls := "ParishUnion", name := "night", desc := "(III)I" } : Jvm.MethodName)) ∈ gT := gT_of (tb_5 _ (List.mem_of_getElem? (i := 83) rfl)) rfl
theorem kw_5_84 : (Jvm.Cond.selects "ParishUnion" ({ cls := "ParishUnion", name := "night", desc := "(III)I" } : Jvm.MethodName) ({ cls := "ParishUnion", name := "night", desc := "(III)I" } : Jvm.MethodName)) ∈ gT := gT_of (tb_5 _ (List.mem_of_getElem? (i := 84) rfl)) rfl
theorem dL_law_1566 : decode code 1566 = .ok (.pop, 1) := dc_87 (by decide +kernel)
theorem dL_law_1567 : decode code 1567 = .ok (.aload_n 2, 1) := dc_44 (by decide +kernel)
theorem dL_law_1568 : decode code 1568 = .ok (.aload_n 0, 1) := dc_42 (by decide +kernel)
theorem dL_law_1569 : decode code 1569 = .ok (.iload_n 3, 1) := dc_29 (by decide +kernel)
theorem dL_law_1570 : decode code 1570 = .ok (.iconst 1, 1) := dc_4 (by decide +kernel)
theorem dL_law_1571 : decode code 1571 = .ok (.iadd, 1) := dc_96 (by decide +kernel)
theorem dL_law_1572 : decode code 1572 = .ok (.iaload, 1) := dc_46 (by decide +kernel)
theorem dL_law_1573 : decode code 1573 = .ok (.aload_n 0, 1) := dc_42 (by decide +kernel)
theorem dL_law_1574 : decode code 1574 = .ok (.iload_n 3, 1) := dc_29 (by decide +kernel)
theorem dL_law_1575 : decode code 1575 = .ok (.iconst 2, 1) := dc_5 (by decide +kernel)
theorem dL_law_1576 : decode code 1576 = .ok (.iadd, 1) := dc_96 (by decide +kernel)
theorem dL_law_1577 : decode code 1577 = .ok (.iaload, 1) := dc_46 (by decide +kernel)
theorem dL_law_1578 : decode code 1578 = .ok (.aload_n 0, 1) := dc_42 (by decide +kernel)
theorem dL_law_1579 : decode code 1579 = .ok (.iload_n 3, 1) := dc_29 (by decide +kernel)
theorem dL_law_1580 : decode code 1580 = .ok (.iconst 3, 1) := dc_6 (by decide +kernel)
theorem dL_law_1581 : decode code 1581 = .ok (.iadd, 1) := dc_96 (by decide +kernel)
theorem dL_law_1582 : decode code 1582 = .ok (.iaload, 1) := dc_46 (by decide +kernel)
theorem dL_law_1583 : decode code 1583 = .ok (.invokevirtual 152, 3) := dc_182 0 152 (by decide +kernel)
theorem kw_7_200 : (Jvm.Cond.methodLink "ParishUnionLaw" (152 : Nat) ({ cls := "ParishUnionModel", name := "night", desc := "(III)I" } : Jvm.MethodName)) ∈ gT := gT_of (tb_7 _ (List.mem_of_getElem? (i := 200) rfl)) rfl
theorem kw_7_203 : (Jvm.Cond.code ({ cls := "ParishUnionModel", name := "night", desc := "(III)I" } : Jvm.MethodName) prog_14_method_86_code (5 : Nat) (Option.some Jvm.ClassFile.FieldType.int)) ∈ gT := gT_of (tb_7 _ (List.mem_of_getElem? (i := 203) rfl)) rfl
theorem okX12_night : gQok yX12_night cX12_night 5 (Option.some Jvm.ClassFile.FieldType.int) 3 := ⟨kw_7_203, kw_1_13, by decide +kernel, by decide +kernel, by decide +kernel⟩
theorem kw_7_201 : (Jvm.Cond.instanceMethod ({ cls := "ParishUnionModel", name := "night", desc := "(III)I" } : Jvm.MethodName)) ∈ gT := gT_of (tb_7 _ (List.mem_of_getElem? (i := 201) rfl)) rfl
theorem kw_7_202 : (Jvm.Cond.selects "ParishUnionModel" ({ cls := "ParishUnionModel", name := "night", desc := "(III)I" } : Jvm.MethodName) ({ cls := "ParishUnionModel", name := "night", desc := "(III)I" } : Jvm.MethodName)) ∈ gT := gT_of (tb_7 _ (List.mem_of_getElem? (i := 202) rfl)) rfl
theorem dL_law_1586 : decode code 1586 = .ok (.pop, 1) := dc_87 (by decide +kernel)
theorem dL_law_1587 : decode code 1587 = .ok (.goto 405, 3) := dc_167 1 149 405 (by decide +kernel)
set_option maxRecDepth 100000 in
set_option maxHeartbeats 4000000 in
theorem law_case_31 {p : Program} {e : Env} {s : State} {m : MethodId} {below : List Frame} {meth : Method} {cd : Code} {l : Launch} {D : va_G} {cA : Nat → ClassId} {b Ln : Nat} {xs : Nat → Int32} (X : gCx p s m #[Value.ref b] meth cd s.heap.size D cA "ParishUnionLaw" code 4) (hr : meth.sig.returnType = ret) (hb : b < s.heap.size ∧ va_X b Ln xs s s.heap) (hLn : Ln ≤ 3584) {sz cs ss : Nat} {M : gM} (L : lwI sz cs ss M) (i : Int) (hi : 0 ≤ i ∧ i + 7 ≤ (Ln : Int)) (kk : ∀ (sz cs ss : Nat) (M1 : gM), lwI sz cs ss M1 → G p l e room_1 s m #[Value.ref b] below meth cd s.heap.size D cA 4 (lw_Z below #[Value.ref b] s) cs ss M1 sz 1992 [(3, gJ i), (2, gA s.heap.size 190), (1, gA s.heap.size 0), (0, .ref b)] []) : G p l e room_1 s m #[Value.ref b] below meth cd s.heap.size D cA 4 (lw_Z below #[Value.ref b] s) cs ss M sz 1547 [(3, gJ i), (2, gA s.heap.size 190), (1, gA s.heap.size 0), (0, .ref b)] [] := by
  obtain ⟨hsz, I, C, W, LA, LB, LK, LR⟩ := L
  have hN := gN_of hsz I
  obtain ⟨ac, hac, rac⟩ : ∃ v : Int, M 1 13 = v ∧ (0 ≤ v ∧ v ≤ 10) := by
    obtain ⟨v, hv, rv⟩ := gRd I (by decide) (gsz hsz (by decide)) rc_1_13.1
    exact ⟨v, hv, by omega⟩
  obtain ⟨ab, hab, rab⟩ : ∃ v : Int, M 191 4 = v ∧ (0 ≤ v ∧ v ≤ 10) := by
    obtain ⟨v, hv, rv⟩ := gRd I (by decide) (gsz hsz (by decide)) (rs_NA (k := 4) (by omega)).1
    exact ⟨v, hv, by omega⟩
  have hRm : cs + 0 ≤ room_1.cells ∧ ss + 0 ≤ room_1.slots := by
    show cs + 0 ≤ 349274 ∧ ss + 0 ≤ 8054428
    have := lwK.room LK
    omega
  obtain ⟨u1, eu1, ru1⟩ : ∃ z : Int, xs (i + 1).toNat = Int32.ofInt z ∧ (-2147483648 ≤ z ∧ z ≤ 2147483647) := ⟨_, gi_of _, gi_rg _⟩
  obtain ⟨u2, eu2, ru2⟩ : ∃ z : Int, xs (i + 2).toNat = Int32.ofInt z ∧ (-2147483648 ≤ z ∧ z ≤ 2147483647) := ⟨_, gi_of _, gi_rg _⟩
  obtain ⟨u3, eu3, ru3⟩ : ∃ z : Int, xs (i + 3).toNat = Int32.ofInt z ∧ (-2147483648 ≤ z ∧ z ≤ 2147483647) := ⟨_, gi_of _, gi_rg _⟩
  obtain ⟨u4, eu4, ru4⟩ : ∃ z : Int, xs (i + 4).toNat = Int32.ofInt z ∧ (-2147483648 ≤ z ∧ z ≤ 2147483647) := ⟨_, gi_of _, gi_rg _⟩
  obtain ⟨u5, eu5, ru5⟩ : ∃ z : Int, xs (i + 5).toNat = Int32.ofInt z ∧ (-2147483648 ≤ z ∧ z ≤ 2147483647) := ⟨_, gi_of _, gi_rg _⟩
  obtain ⟨u6, eu6, ru6⟩ : ∃ z : Int, xs (i + 6).toNat = Int32.ofInt z ∧ (-2147483648 ≤ z ∧ z ≤ 2147483647) := ⟨_, gi_of _, gi_rg _⟩
  refine g_aload_n (n := 1548) X 2 dL_law_1547 rfl rfl rfl ?_
  refine g_aload_n (n := 1549) X 3 dL_law_1548 rfl rfl rfl ?_
  refine g_iload_n (n := 1550) X 0 dL_law_1549 rfl rfl rfl ?_
  refine g_iconst (n := 1551) X dL_law_1550 rfl ?_
  refine g_iadd (n := 1552) (z := i + 1) X dL_law_1551 (by omega) rfl ?_
  refine g_scrld (n := 1553) (z := u1) X hb (by omega) (by omega) (by omega) dL_law_1552 rfl eu1 ?_
  refine g_aload_n (n := 1554) X 3 dL_law_1553 rfl rfl rfl ?_
  refine g_iload_n (n := 1555) X 0 dL_law_1554 rfl rfl rfl ?_
  refine g_iconst (n := 1556) X dL_law_1555 rfl ?_
  refine g_iadd (n := 1557) (z := i + 2) X dL_law_1556 (by omega) rfl ?_
  refine g_scrld (n := 1558) (z := u2) X hb (by omega) (by omega) (by omega) dL_law_1557 rfl eu2 ?_
  refine g_aload_n (n := 1559) X 3 dL_law_1558 rfl rfl rfl ?_
  refine g_iload_n (n := 1560) X 0 dL_law_1559 rfl rfl rfl ?_
  refine g_iconst (n := 1561) X dL_law_1560 rfl ?_
  refine g_iadd (n := 1562) (z := i + 3) X dL_law_1561 (by omega) rfl ?_
  refine g_scrld (n := 1563) (z := u3) X hb (by omega) (by omega) (by omega) dL_law_1562 rfl eu3 ?_
  refine g_callVi (n := 1566) (As := [gJ u1, gJ u2, gJ u3]) (rest := []) (cs1 := cs) (ss1 := ss) X (s_X11_night u1 (by omega) u2 (by omega) u3 (by omega) hsz I C ) okX11_night kw_5_82 ⟨kw_5_83, kw_5_84⟩ ⟨rfl, rfl⟩ ⟨Nat.le_of_ble_eq_true rfl, Nat.le_of_ble_eq_true rfl⟩ rfl (by decide) (gsz hsz (by decide)) lay_0 rfl rfl (Nat.le_of_ble_eq_true rfl) hRm rfl rfl dL_law_1563 rfl (fun v1 M2 P3 => ?_)
  obtain ⟨rv1, IM2, CM2, FM2, xM2⟩ := P3
  refine g_pop (n := 1567) X dL_law_1566 rfl rfl ?_
  refine g_aload_n (n := 1568) X 1 dL_law_1567 rfl rfl rfl ?_
  refine g_aload_n (n := 1569) X 3 dL_law_1568 rfl rfl rfl ?_
  refine g_iload_n (n := 1570) X 0 dL_law_1569 rfl rfl rfl ?_
  refine g_iconst (n := 1571) X dL_law_1570 rfl ?_
  refine g_iadd (n := 1572) (z := i + 1) X dL_law_1571 (by omega) rfl ?_
  refine g_scrld (n := 1573) (z := u1) X hb (by omega) (by omega) (by omega) dL_law_1572 rfl eu1 ?_
  refine g_aload_n (n := 1574) X 3 dL_law_1573 rfl rfl rfl ?_
  refine g_iload_n (n := 1575) X 0 dL_law_1574 rfl rfl rfl ?_
  refine g_iconst (n := 1576) X dL_law_1575 rfl ?_
  refine g_iadd (n := 1577) (z := i + 2) X dL_law_1576 (by omega) rfl ?_
  refine g_scrld (n := 1578) (z := u2) X hb (by omega) (by omega) (by omega) dL_law_1577 rfl eu2 ?_
  refine g_aload_n (n := 1579) X 3 dL_law_1578 rfl rfl rfl ?_
  refine g_iload_n (n := 1580) X 0 dL_law_1579 rfl rfl rfl ?_
  refine g_iconst (n := 1581) X dL_law_1580 rfl ?_
  refine g_iadd (n := 1582) (z := i + 3) X dL_law_1581 (by omega) rfl ?_
  refine g_scrld (n := 1583) (z := u3) X hb (by omega) (by omega) (by omega) dL_law_1582 rfl eu3 ?_
  refine g_callVi (n := 1586) (As := [gJ u1, gJ u2, gJ u3]) (rest := []) (cs1 := cs) (ss1 := ss) X (s_X12_night u1 (by omega) u2 (by omega) u3 (by omega) hsz IM2 CM2 ) okX12_night kw_7_200 ⟨kw_7_201, kw_7_202⟩ ⟨rfl, rfl⟩ ⟨Nat.le_of_ble_eq_true rfl, Nat.le_of_ble_eq_true rfl⟩ rfl (by decide) (gsz hsz (by decide)) lay_190 rfl rfl (Nat.le_of_ble_eq_true rfl) hRm rfl rfl dL_law_1583 rfl (fun v4 M5 P6 => ?_)
  obtain ⟨rv4, IM5, CM5, FM5, xM5⟩ := P6
  refine g_pop (n := 1587) X dL_law_1586 rfl rfl ?_
  refine g_goto (tgt := 1992) X dL_law_1587 (by decide) ?_
  exact kk _ _ _ _ ⟨hsz, IM5, CM5, (gW.fr (S := 18015498021502976) W ⟨sz, hsz, I⟩ (gFr.c (gFr.c gFr.rf FM2 rfl) FM5 rfl) rfl), (by rw [((gFr.at FM5 rc_1_13.2.2 rfl).trans (gFr.at FM2 rc_1_13.2.2 rfl))]; exact LA), (by rw [((gFr.at FM5 (rs_NA (k := 4) (by omega)).2.2 rfl).trans (gFr.at FM2 (rs_NA (k := 4) (by omega)).2.2 rfl))]; exact LB), (lwK.fr LK ((gFr.c (gFr.c gFr.rf FM2 rfl) FM5 rfl) : gFr 18015498021502976 M M5) rfl), ⟨(rl_now.fr (rl_now.fr LR.1 hN FM2 rfl) (gN_of hsz IM2) FM5 rfl), (rl_npers.fr (rl_npers.fr LR.2.1 hN FM2 rfl) (gN_of hsz IM2) FM5 rfl), (rl_sex.fr (rl_sex.fr LR.2.2.1 hN FM2 rfl) (gN_of hsz IM2) FM5 rfl), (rl_born.fr (rl_born.fr LR.2.2.2.1 hN FM2 rfl) (gN_of hsz IM2) FM5 rfl), (rl_nright.fr (rl_nright.fr LR.2.2.2.2.1 hN FM2 rfl) (gN_of hsz IM2) FM5 rfl), (rl_nent.fr (rl_nent.fr LR.2.2.2.2.2.1 hN FM2 rfl) (gN_of hsz IM2) FM5 rfl), (rl_rkind.fr (rl_rkind.fr LR.2.2.2.2.2.2.1 hN FM2 rfl) (gN_of hsz IM2) FM5 rfl), (rl_rwho.fr (rl_rwho.fr LR.2.2.2.2.2.2.2.1 hN FM2 rfl) (gN_of hsz IM2) FM5 rfl), (rl_rto.fr (rl_rto.fr LR.2.2.2.2.2.2.2.2.1 hN FM2 rfl) (gN_of hsz IM2) FM5 rfl), (rl_rn.fr (rl_rn.fr LR.2.2.2.2.2.2.2.2.2.1 hN FM2 rfl) (gN_of hsz IM2) FM5 rfl), (rl_rweek.fr (rl_rweek.fr LR.2.2.2.2.2.2.2.2.2.2.1 hN FM2 rfl) (gN_of hsz IM2) FM5 rfl), (rl_rsure.fr (rl_rsure.fr LR.2.2.2.2.2.2.2.2.2.2.2.1 hN FM2 rfl) (gN_of hsz IM2) FM5 rfl), (rl_proofs.fr (rl_proofs.fr LR.2.2.2.2.2.2.2.2.2.2.2.2 hN FM2 rfl) (gN_of hsz IM2) FM5 rfl)⟩⟩
