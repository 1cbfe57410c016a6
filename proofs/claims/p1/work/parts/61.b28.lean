theorem dL_law_1408 : decode code 1408 = .ok (.aload_n 1, 1) := by decide +kernel
theorem dL_law_1409 : decode code 1409 = .ok (.aload_n 0, 1) := by decide +kernel
theorem dL_law_1410 : decode code 1410 = .ok (.iload_n 3, 1) := by decide +kernel
theorem dL_law_1411 : decode code 1411 = .ok (.iconst 1, 1) := by decide +kernel
theorem dL_law_1412 : decode code 1412 = .ok (.iadd, 1) := by decide +kernel
theorem dL_law_1413 : decode code 1413 = .ok (.iaload, 1) := by decide +kernel
theorem dL_law_1414 : decode code 1414 = .ok (.aload_n 0, 1) := by decide +kernel
theorem dL_law_1415 : decode code 1415 = .ok (.iload_n 3, 1) := by decide +kernel
theorem dL_law_1416 : decode code 1416 = .ok (.iconst 2, 1) := by decide +kernel
theorem dL_law_1417 : decode code 1417 = .ok (.iadd, 1) := by decide +kernel
theorem dL_law_1418 : decode code 1418 = .ok (.iaload, 1) := by decide +kernel
theorem dL_law_1419 : decode code 1419 = .ok (.aload_n 0, 1) := by decide +kernel
theorem dL_law_1420 : decode code 1420 = .ok (.iload_n 3, 1) := by decide +kernel
theorem dL_law_1421 : decode code 1421 = .ok (.iconst 3, 1) := by decide +kernel
theorem dL_law_1422 : decode code 1422 = .ok (.iadd, 1) := by decide +kernel
theorem dL_law_1423 : decode code 1423 = .ok (.iaload, 1) := by decide +kernel
theorem dL_law_1424 : decode code 1424 = .ok (.invokevirtual 137, 3) := by decide +kernel
theorem kw_5_51 : (Jvm.Cond.methodLink "ParishUnionLaw" (137 : Nat) ({ cls := "ParishUnion", name := "share", desc := "(III)I" } : Jvm.MethodName)) ∈ gT := gT_of (tb_5 _ (List.mem_of_getElem? (i := 51) rfl)) rfl
theorem kw_5_54 : (Jvm.Cond.code ({ cls := "ParishUnion", name := "share", desc := "(III)I" } : Jvm.MethodName) prog_1_method_30_code (4 : Nat) (Option.some Jvm.ClassFile.FieldType.int)) ∈ gT := gT_of (tb_5 _ (List.mem_of_getElem? (i := 54) rfl)) rfl
theorem okX11_share : gQok yX11_share cX11_share 4 (Option.some Jvm.ClassFile.FieldType.int) 3 := ⟨kw_5_54, kw_1_1, by decide +kernel, by decide +kernel, by decide +kernel⟩
theorem kw_5_52 : (Jvm.Cond.instanceMethod ({ cls := "ParishUnion", name := "share", desc := "(III)I" } : Jvm.MethodName)) ∈ gT := gT_of (tb_5 _ (List.mem_of_getElem? (i := 52) rfl)) rfl
theorem kw_5_53 : (Jvm.Cond.selects "ParishUnion" ({ cls := "ParishUnion", name := "share", desc := "(III)I" } : Jvm.MethodName) ({ cls := "ParishUnion", name := "share", desc := "(III)I" } : Jvm.MethodName)) ∈ gT := gT_of (tb_5 _ (List.mem_of_getElem? (i := 53) rfl)) rfl
theorem dL_law_1427 : decode code 1427 = .ok (.aload_n 2, 1) := by decide +kernel
theorem dL_law_1428 : decode code 1428 = .ok (.aload_n 0, 1) := by decide +kernel
theorem dL_law_1429 : decode code 1429 = .ok (.iload_n 3, 1) := by decide +kernel
theorem dL_law_1430 : decode code 1430 = .ok (.iconst 1, 1) := by decide +kernel
theorem dL_law_1431 : decode code 1431 = .ok (.iadd, 1) := by decide +kernel
theorem dL_law_1432 : decode code 1432 = .ok (.iaload, 1) := by decide +kernel
theorem dL_law_1433 : decode code 1433 = .ok (.aload_n 0, 1) := by decide +kernel
theorem dL_law_1434 : decode code 1434 = .ok (.iload_n 3, 1) := by decide +kernel
theorem dL_law_1435 : decode code 1435 = .ok (.iconst 2, 1) := by decide +kernel
theorem dL_law_1436 : decode code 1436 = .ok (.iadd, 1) := by decide +kernel
theorem dL_law_1437 : decode code 1437 = .ok (.iaload, 1) := by decide +kernel
theorem dL_law_1438 : decode code 1438 = .ok (.aload_n 0, 1) := by decide +kernel
theorem dL_law_1439 : decode code 1439 = .ok (.iload_n 3, 1) := by decide +kernel
theorem dL_law_1440 : decode code 1440 = .ok (.iconst 3, 1) := by decide +kernel
theorem dL_law_1441 : decode code 1441 = .ok (.iadd, 1) := by decide +kernel
theorem dL_law_1442 : decode code 1442 = .ok (.iaload, 1) := by decide +kernel
theorem dL_law_1443 : decode code 1443 = .ok (.invokevirtual 140, 3) := by decide +kernel
theorem kw_7_182 : (Jvm.Cond.methodLink "ParishUnionLaw" (140 : Nat) ({ cls := "ParishUnionModel", name := "share", desc := "(III)I" } : Jvm.MethodName)) ∈ gT := gT_of (tb_7 _ (List.mem_of_getElem? (i := 182) rfl)) rfl
theorem kw_7_185 : (Jvm.Cond.code ({ cls := "ParishUnionModel", name := "share", desc := "(III)I" } : Jvm.MethodName) prog_14_method_83_code (4 : Nat) (Option.some Jvm.ClassFile.FieldType.int)) ∈ gT := gT_of (tb_7 _ (List.mem_of_getElem? (i := 185) rfl)) rfl
theorem okX12_share : gQok yX12_share cX12_share 4 (Option.some Jvm.ClassFile.FieldType.int) 3 := ⟨kw_7_185, kw_1_13, by decide +kernel, by decide +kernel, by decide +kernel⟩
theorem kw_7_183 : (Jvm.Cond.instanceMethod ({ cls := "ParishUnionModel", name := "share", desc := "(III)I" } : Jvm.MethodName)) ∈ gT := gT_of (tb_7 _ (List.mem_of_getElem? (i := 183) rfl)) rfl
theorem kw_7_184 : (Jvm.Cond.selects "ParishUnionModel" ({ cls := "ParishUnionModel", name := "share", desc := "(III)I" } : Jvm.MethodName) ({ cls := "ParishUnionModel", name := "share", desc := "(III)I" } : Jvm.MethodName)) ∈ gT := gT_of (tb_7 _ (List.mem_of_getElem? (i := 184) rfl)) rfl
theorem dL_law_1446 : decode code 1446 = .ok (.if_icmp .eq 546, 3) := by decide +kernel
set_option maxRecDepth 100000 in
set_option maxHeartbeats 4000000 in
theorem law_case_28 {p : Program} {e : Env} {s : State} {m : MethodId} {below : List Frame} {meth : Method} {c : Code} {l : Launch} {D : va_G} {cA : Nat → ClassId} {b : Nat} {xs : Nat → Int32} (X : gCx p s m #[Value.ref b] meth c s.heap.size D cA "ParishUnionLaw" code 4) (hr : meth.sig.returnType = ret) (hb : b < s.heap.size ∧ va_X b 7 xs s s.heap) {M : gM} (hFr : gFr M) : G p l e room_1 s m #[Value.ref b] below meth c s.heap.size D cA 4 (lw_Z below #[Value.ref b] s) 206 87467 M 206 1408 [(3, gJ 0), (2, gA s.heap.size 190), (1, gA s.heap.size 0), (0, .ref b)] [] := by
  have rents := gFr_rents hFr
  have way := gFr_way hFr
  have beds := gFr_beds hFr
  have frost0 := gFr_frost0 hFr
  have rows0 := gFr_rows0 hFr
  have rooms0 := gFr_rooms0 hFr
  have tape0 := gFr_tape0 hFr
  have car0 := gFr_car0 hFr
  have hS := gFr_hS hFr
  obtain ⟨v0, e0, r0⟩ : ∃ z : Int, xs 0 = Int32.ofInt z ∧ -2147483648 ≤ z ∧ z ≤ 2147483647 := ⟨_, gi_of _, gi_rg _⟩
  obtain ⟨v1, e1, r1⟩ : ∃ z : Int, xs 1 = Int32.ofInt z ∧ -2147483648 ≤ z ∧ z ≤ 2147483647 := ⟨_, gi_of _, gi_rg _⟩
  obtain ⟨v2, e2, r2⟩ : ∃ z : Int, xs 2 = Int32.ofInt z ∧ -2147483648 ≤ z ∧ z ≤ 2147483647 := ⟨_, gi_of _, gi_rg _⟩
  obtain ⟨v3, e3, r3⟩ : ∃ z : Int, xs 3 = Int32.ofInt z ∧ -2147483648 ≤ z ∧ z ≤ 2147483647 := ⟨_, gi_of _, gi_rg _⟩
  obtain ⟨v4, e4, r4⟩ : ∃ z : Int, xs 4 = Int32.ofInt z ∧ -2147483648 ≤ z ∧ z ≤ 2147483647 := ⟨_, gi_of _, gi_rg _⟩
  obtain ⟨v5, e5, r5⟩ : ∃ z : Int, xs 5 = Int32.ofInt z ∧ -2147483648 ≤ z ∧ z ≤ 2147483647 := ⟨_, gi_of _, gi_rg _⟩
  obtain ⟨v6, e6, r6⟩ : ∃ z : Int, xs 6 = Int32.ofInt z ∧ -2147483648 ≤ z ∧ z ≤ 2147483647 := ⟨_, gi_of _, gi_rg _⟩
  refine g_aload_n (n := 1409) X 2 dL_law_1408 rfl rfl rfl ?_
  refine g_aload_n (n := 1410) X 3 dL_law_1409 rfl rfl rfl ?_
  refine g_iload_n (n := 1411) X 0 dL_law_1410 rfl rfl rfl ?_
  refine g_iconst (n := 1412) X dL_law_1411 rfl ?_
  refine g_iadd (n := 1413) (z := 1) X dL_law_1412 rfl rfl ?_
  refine g_scrld (n := 1414) (z := v1) X hb (by omega) (by omega) (by omega) dL_law_1413 rfl e1 ?_
  refine g_aload_n (n := 1415) X 3 dL_law_1414 rfl rfl rfl ?_
  refine g_iload_n (n := 1416) X 0 dL_law_1415 rfl rfl rfl ?_
  refine g_iconst (n := 1417) X dL_law_1416 rfl ?_
  refine g_iadd (n := 1418) (z := 2) X dL_law_1417 rfl rfl ?_
  refine g_scrld (n := 1419) (z := v2) X hb (by omega) (by omega) (by omega) dL_law_1418 rfl e2 ?_
  refine g_aload_n (n := 1420) X 3 dL_law_1419 rfl rfl rfl ?_
  refine g_iload_n (n := 1421) X 0 dL_law_1420 rfl rfl rfl ?_
  refine g_iconst (n := 1422) X dL_law_1421 rfl ?_
  refine g_iadd (n := 1423) (z := 3) X dL_law_1422 rfl rfl ?_
  refine g_scrld (n := 1424) (z := v3) X hb (by omega) (by omega) (by omega) dL_law_1423 rfl e3 ?_
  refine g_callVi (n := 1427) (As := [gJ v1, gJ v2, gJ v3]) (rest := []) (cs1 := 206) (ss1 := 87467) X (c_X11_share v1 v2 v3 (by omega) (by omega) (by omega) (by omega) (gFr_0_0 hFr) (gFr_1_15 hFr)) okX11_share kw_5_51 ⟨kw_5_52, kw_5_53⟩ ⟨rfl, rfl⟩ ⟨Nat.le_of_ble_eq_true rfl, Nat.le_of_ble_eq_true rfl⟩ rfl (by omega) (by omega) lay_0 rfl rfl (Nat.le_of_ble_eq_true rfl) ⟨Nat.le_of_ble_eq_true rfl, Nat.le_of_ble_eq_true rfl⟩ rfl rfl dL_law_1424 rfl (fun z1 M2 P3 => ?_)
  obtain ⟨P3, F4⟩ := P3
  refine g_aload_n (n := 1428) X 1 dL_law_1427 rfl rfl rfl ?_
  refine g_aload_n (n := 1429) X 3 dL_law_1428 rfl rfl rfl ?_
  refine g_iload_n (n := 1430) X 0 dL_law_1429 rfl rfl rfl ?_
  refine g_iconst (n := 1431) X dL_law_1430 rfl ?_
  refine g_iadd (n := 1432) (z := 1) X dL_law_1431 rfl rfl ?_
  refine g_scrld (n := 1433) (z := v1) X hb (by omega) (by omega) (by omega) dL_law_1432 rfl e1 ?_
  refine g_aload_n (n := 1434) X 3 dL_law_1433 rfl rfl rfl ?_
  refine g_iload_n (n := 1435) X 0 dL_law_1434 rfl rfl rfl ?_
  refine g_iconst (n := 1436) X dL_law_1435 rfl ?_
  refine g_iadd (n := 1437) (z := 2) X dL_law_1436 rfl rfl ?_
  refine g_scrld (n := 1438) (z := v2) X hb (by omega) (by omega) (by omega) dL_law_1437 rfl e2 ?_
  refine g_aload_n (n := 1439) X 3 dL_law_1438 rfl rfl rfl ?_
  refine g_iload_n (n := 1440) X 0 dL_law_1439 rfl rfl rfl ?_
  refine g_iconst (n := 1441) X dL_law_1440 rfl ?_
  refine g_iadd (n := 1442) (z := 3) X dL_law_1441 rfl rfl ?_
  refine g_scrld (n := 1443) (z := v3) X hb (by omega) (by omega) (by omega) dL_law_1442 rfl e3 ?_
  refine g_callVi (n := 1446) (As := [gJ v1, gJ v2, gJ v3]) (rest := [gJ z1]) (cs1 := 206) (ss1 := 87467) X (c_X12_share v1 v2 v3 (by omega) (by omega) (by omega) (by omega) ((congrFun (F4 190) _).trans (gFr_190_1 hFr)) ((congrFun (F4 191) _).trans ((hS 0 (by omega) (by omega)).trans (by decide)))) okX12_share kw_7_182 ⟨kw_7_183, kw_7_184⟩ ⟨rfl, rfl⟩ ⟨Nat.le_of_ble_eq_true rfl, Nat.le_of_ble_eq_true rfl⟩ rfl (by omega) (by omega) lay_190 rfl rfl (Nat.le_of_ble_eq_true rfl) ⟨Nat.le_of_ble_eq_true rfl, Nat.le_of_ble_eq_true rfl⟩ rfl rfl dL_law_1443 rfl (fun z5 M6 P7 => ?_)
  obtain ⟨P7, F8⟩ := P7
  refine g_icmp_eq (n := 1449) (tgt := 1992) X dL_law_1446 (by decide) (by omega) (by omega) rfl (fun c9 => ?_) (fun c9 => by exfalso; omega)
  exact law_tail X hr hb (by omega) (by omega)
theorem dL_law_1451 : decode code 1451 = .ok (.aload_n 1, 1) := by decide +kernel
theorem dL_law_1452 : decode code 1452 = .ok (.aload_n 0, 1) := by decide +kernel
theorem dL_law_1453 : decode code 1453 = .ok (.iload_n 3, 1) := by decide +kernel
theorem dL_law_1454 : decode code 1454 = .ok (.iconst 1, 1) := by decide +kernel
theorem dL_law_1455 : decode code 1455 = .ok (.iadd, 1) := by decide +kernel
theorem dL_law_1456 : decode code 1456 = .ok (.iaload, 1) := by decide +kernel
theorem dL_law_1457 : decode code 1457 = .ok (.aload_n 0, 1) := by decide +kernel
theorem dL_law_1458 : decode code 1458 = .ok (.iload_n 3, 1) := by decide +kernel
theorem dL_law_1459 : decode code 1459 = .ok (.iconst 2, 1) := by decide +kernel
theorem dL_law_1460 : decode code 1460 = .ok (.iadd, 1) := by decide +kernel
theorem dL_law_1461 : decode code 1461 = .ok (.iaload, 1) := by decide +kernel
theorem dL_law_1462 : decode code 1462 = .ok (.aload_n 0, 1) := by decide +kernel
theorem dL_law_1463 : decode code 1463 = .ok (.iload_n 3, 1) := by decide +kernel
theorem dL_law_1464 : decode code 1464 = .ok (.iconst 3, 1) := by decide +kernel
theorem dL_law_1465 : decode code 1465 = .ok (.iadd, 1) := by decide +kernel
theorem dL_law_1466 : decode code 1466 = .ok (.iaload, 1) := by decide +kernel
theorem dL_law_1467 : decode code 1467 = .ok (.invokevirtual 141, 3) := by decide +kernel
theorem kw_5_74 : (Jvm.Cond.methodLink "ParishUnionLaw" (141 : Nat) ({ cls := "ParishUnion", name := "sink", desc := "(III)I" } : Jvm.MethodName)) ∈ gT := gT_of (tb_5 _ (List.mem_of_getElem? (i := 74) rfl)) rfl
theorem kw_5_77 : (Jvm.Cond.code ({ cls := "ParishUnion", name := "sink", desc := "(III)I" } : Jvm.MethodName) prog_1_method_31_code (6 : Nat) (Option.some Jvm.ClassFile.FieldType.int)) ∈ gT := gT_of (tb_5 _ (List.mem_of_getElem? (i := 77) rfl)) rfl
theorem okX11_sink : gQok yX11_sink cX11_sink 6 (Option.some Jvm.ClassFile.FieldType.int) 3 := ⟨kw_5_77, kw_1_1, by decide +kernel, by decide +kernel, by decide +kernel⟩
theorem kw_5_75 : (Jvm.Cond.instanceMethod ({ cls := "ParishUnion", name := "sink", desc := "(III)I" } : Jvm.MethodName)) ∈ gT := gT_of (tb_5 _ (List.mem_of_getElem? (i := 75) rfl)) rfl
theorem kw_5_76 : (Jvm.Cond.selects "ParishUnion" ({ cls := "ParishUnion", name := "sink", desc := "(III)I" } : Jvm.MethodName) ({ cls := "ParishUnion", name := "sink", desc := "(III)I" } : Jvm.MethodName)) ∈ gT := gT_of (tb_5 _ (List.mem_of_getElem? (i := 76) rfl)) rfl
theorem dL_law_1470 : decode code 1470 = .ok (.aload_n 2, 1) := by decide +kernel
theorem dL_law_1471 : decode code 1471 = .ok (.aload_n 0, 1) := by decide +kernel
theorem dL_law_1472 : decode code 1472 = .ok (.iload_n 3, 1) := by decide +kernel
theorem dL_law_1473 : decode code 1473 = .ok (.iconst 1, 1) := by decide +kernel
theorem dL_law_1474 : decode code 1474 = .ok (.iadd, 1) := by decide +kernel
theorem dL_law_1475 : decode code 1475 = .ok (.iaload, 1) := by decide +kernel
theorem dL_law_1476 : decode code 1476 = .ok (.aload_n 0, 1) := by decide +kernel
theorem dL_law_1477 : decode code 1477 = .ok (.iload_n 3, 1) := by decide +kernel
theorem dL_law_1478 : decode code 1478 = .ok (.iconst 2, 1) := by decide +kernel
theorem dL_law_1479 : decode code 1479 = .ok (.iadd, 1) := by decide +kernel
theorem dL_law_1480 : decode code 1480 = .ok (.iaload, 1) := by decide +kernel
theorem dL_law_1481 : decode code 1481 = .ok (.aload_n 0, 1) := by decide +kernel
theorem dL_law_1482 : decode code 1482 = .ok (.iload_n 3, 1) := by decide +kernel
theorem dL_law_1483 : decode code 1483 = .ok (.iconst 3, 1) := by decide +kernel
theorem dL_law_1484 : decode code 1484 = .ok (.iadd, 1) := by decide +kernel
theorem dL_law_1485 : decode code 1485 = .ok (.iaload, 1) := by decide +kernel
theorem dL_law_1486 : decode code 1486 = .ok (.invokevirtual 144, 3) := by decide +kernel
theorem kw_7_192 : (Jvm.Cond.methodLink "ParishUnionLaw" (144 : Nat) ({ cls := "ParishUnionModel", name := "sink", desc := "(III)I" } : Jvm.MethodName)) ∈ gT := gT_of (tb_7 _ (List.mem_of_getElem? (i := 192) rfl)) rfl
theorem kw_7_195 : (Jvm.Cond.code ({ cls := "ParishUnionModel", name := "sink", desc := "(III)I" } : Jvm.MethodName) prog_14_method_84_code (6 : Nat) (Option.some Jvm.ClassFile.FieldType.int)) ∈ gT := gT_of (tb_7 _ (List.mem_of_getElem? (i := 195) rfl)) rfl
theorem okX12_sink : gQok yX12_sink cX12_sink 6 (Option.some Jvm.ClassFile.FieldType.int) 3 := ⟨kw_7_195, kw_1_13, by decide +kernel, by decide +kernel, by decide +kernel⟩
theorem kw_7_193 : (Jvm.Cond.instanceMethod ({ cls := "ParishUnionModel", name := "sink", desc := "(III)I" } : Jvm.MethodName)) ∈ gT := gT_of (tb_7 _ (List.mem_of_getElem? (i := 193) rfl)) rfl
theorem kw_7_194 : (Jvm.Cond.selects "ParishUnionModel" ({ cls := "ParishUnionModel", name := "sink", desc := "(III)I" } : Jvm.MethodName) ({ cls := "ParishUnionModel", name := "sink", desc := "(III)I" } : Jvm.MethodName)) ∈ gT := gT_of (tb_7 _ (List.mem_of_getElem? (i := 194) rfl)) rfl
theorem dL_law_1489 : decode code 1489 = .ok (.if_icmp .eq 503, 3) := by decide +kernel
set_option maxRecDepth 100000 in
set_option maxHeartbeats 4000000 in
theorem law_case_29 {p : Program} {e : Env} {s : State} {m : MethodId} {below : List Frame} {meth : Method} {c : Code} {l : Launch} {D : va_G} {cA : Nat → ClassId} {b : Nat} {xs : Nat → Int32} (X : gCx p s m #[Value.ref b] meth c s.heap.size D cA "ParishUnionLaw" code 4) (hr : meth.sig.returnType = ret) (hb : b < s.heap.size ∧ va_X b 7 xs s s.heap) {M : gM} (hFr : gFr M) : G p l e room_1 s m #[Value.ref b] below meth c s.heap.size D cA 4 (lw_Z below #[Value.ref b] s) 206 87467 M 206 1451 [(3, gJ 0), (2, gA s.heap.size 190), (1, gA s.heap.size 0), (0, .ref b)] [] := by
  have rents := gFr_rents hFr
  have way := gFr_way hFr
  have beds := gFr_beds hFr
  have frost0 := gFr_frost0 hFr
  have rows0 := gFr_rows0 hFr
  have rooms0 := gFr_rooms0 hFr
  have tape0 := gFr_tape0 hFr
  have car0 := gFr_car0 hFr
  have hS := gFr_hS hFr
  obtain ⟨v0, e0, r0⟩ : ∃ z : Int, xs 0 = Int32.ofInt z ∧ -2147483648 ≤ z ∧ z ≤ 2147483647 := ⟨_, gi_of _, gi_rg _⟩
  obtain ⟨v1, e1, r1⟩ : ∃ z : Int, xs 1 = Int32.ofInt z ∧ -2147483648 ≤ z ∧ z ≤ 2147483647 := ⟨_, gi_of _, gi_rg _⟩
  obtain ⟨v2, e2, r2⟩ : ∃ z : Int, xs 2 = Int32.ofInt z ∧ -2147483648 ≤ z ∧ z ≤ 2147483647 := ⟨_, gi_of _, gi_rg _⟩
  obtain ⟨v3, e3, r3⟩ : ∃ z : Int, xs 3 = Int32.ofInt z ∧ -2147483648 ≤ z ∧ z ≤ 2147483647 := ⟨_, gi_of _, gi_rg _⟩
  obtain ⟨v4, e4, r4⟩ : ∃ z : Int, xs 4 = Int32.ofInt z ∧ -2147483648 ≤ z ∧ z ≤ 2147483647 := ⟨_, gi_of _, gi_rg _⟩
  obtain ⟨v5, e5, r5⟩ : ∃ z : Int, xs 5 = Int32.ofInt z ∧ -2147483648 ≤ z ∧ z ≤ 2147483647 := ⟨_, gi_of _, gi_rg _⟩
  obtain ⟨v6, e6, r6⟩ : ∃ z : Int, xs 6 = Int32.ofInt z ∧ -2147483648 ≤ z ∧ z ≤ 2147483647 := ⟨_, gi_of _, gi_rg _⟩
  refine g_aload_n (n := 1452) X 2 dL_law_1451 rfl rfl rfl ?_
  refine g_aload_n (n := 1453) X 3 dL_law_1452 rfl rfl rfl ?_
  refine g_iload_n (n := 1454) X 0 dL_law_1453 rfl rfl rfl ?_
  refine g_iconst (n := 1455) X dL_law_1454 rfl ?_
  refine g_iadd (n := 1456) (z := 1) X dL_law_1455 rfl rfl ?_
  refine g_scrld (n := 1457) (z := v1) X hb (by omega) (by omega) (by omega) dL_law_1456 rfl e1 ?_
  refine g_aload_n (n := 1458) X 3 dL_law_1457 rfl rfl rfl ?_
  refine g_iload_n (n := 1459) X 0 dL_law_1458 rfl rfl rfl ?_
  refine g_iconst (n := 1460) X dL_law_1459 rfl ?_
  refine g_iadd (n := 1461) (z := 2) X dL_law_1460 rfl rfl ?_
  refine g_scrld (n := 1462) (z := v2) X hb (by omega) (by omega) (by omega) dL_law_1461 rfl e2 ?_
  refine g_aload_n (n := 1463) X 3 dL_law_1462 rfl rfl rfl ?_
  refine g_iload_n (n := 1464) X 0 dL_law_1463 rfl rfl rfl ?_
  refine g_iconst (n := 1465) X dL_law_1464 rfl ?_
  refine g_iadd (n := 1466) (z := 3) X dL_law_1465 rfl rfl ?_
  refine g_scrld (n := 1467) (z := v3) X hb (by omega) (by omega) (by omega) dL_law_1466 rfl e3 ?_
  refine g_callVi (n := 1470) (As := [gJ v1, gJ v2, gJ v3]) (rest := []) (cs1 := 206) (ss1 := 87467) X (c_X11_sink v1 v2 v3 (by omega) (by omega) (by omega) (by omega) (gFr_0_0 hFr) (gFr_1_15 hFr)) okX11_sink kw_5_74 ⟨kw_5_75, kw_5_76⟩ ⟨rfl, rfl⟩ ⟨Nat.le_of_ble_eq_true rfl, Nat.le_of_ble_eq_true rfl⟩ rfl (by omega) (by omega) lay_0 rfl rfl (Nat.le_of_ble_eq_true rfl) ⟨Nat.le_of_ble_eq_true rfl, Nat.le_of_ble_eq_true rfl⟩ rfl rfl dL_law_1467 rfl (fun z1 M2 P3 => ?_)
  obtain ⟨P3, F4⟩ := P3
  refine g_aload_n (n := 1471) X 1 dL_law_1470 rfl rfl rfl ?_
  refine g_aload_n (n := 1472) X 3 dL_law_1471 rfl rfl rfl ?_
  refine g_iload_n (n := 1473) X 0 dL_law_1472 rfl rfl rfl ?_
  refine g_iconst (n := 1474) X dL_law_1473 rfl ?_
  refine g_iadd (n := 1475) (z := 1) X dL_law_1474 rfl rfl ?_
  refine g_scrld (n := 1476) (z := v1) X hb (by omega) (by omega) (by omega) dL_law_1475 rfl e1 ?_
  refine g_aload_n (n := 1477) X 3 dL_law_1476 rfl rfl rfl ?_
  refine g_iload_n (n := 1478) X 0 dL_law_1477 rfl rfl rfl ?_
  refine g_iconst (n := 1479) X dL_law_1478 rfl ?_
  refine g_iadd (n := 1480) (z := 2) X dL_law_1479 rfl rfl ?_
  refine g_scrld (n := 1481) (z := v2) X hb (by omega) (by omega) (by omega) dL_law_1480 rfl e2 ?_
  refine g_aload_n (n := 1482) X 3 dL_law_1481 rfl rfl rfl ?_
  refine g_iload_n (n := 1483) X 0 dL_law_1482 rfl rfl rfl ?_
  refine g_iconst (n := 1484) X dL_law_1483 rfl ?_
  refine g_iadd (n := 1485) (z := 3) X dL_law_1484 rfl rfl ?_
  refine g_scrld (n := 1486) (z := v3) X hb (by omega) (by omega) (by omega) dL_law_1485 rfl e3 ?_
  refine g_callVi (n := 1489) (As := [gJ v1, gJ v2, gJ v3]) (rest := [gJ z1]) (cs1 := 206) (ss1 := 87467) X (c_X12_sink v1 v2 v3 (by omega) (by omega) (by omega) (by omega) ((congrFun (F4 190) _).trans (gFr_190_1 hFr)) ((congrFun (F4 191) _).trans ((hS 0 (by omega) (by omega)).trans (by decide)))) okX12_sink kw_7_192 ⟨kw_7_193, kw_7_194⟩ ⟨rfl, rfl⟩ ⟨Nat.le_of_ble_eq_true rfl, Nat.le_of_ble_eq_true rfl⟩ rfl (by omega) (by omega) lay_190 rfl rfl (Nat.le_of_ble_eq_true rfl) ⟨Nat.le_of_ble_eq_true rfl, Nat.le_of_ble_eq_true rfl⟩ rfl rfl dL_law_1486 rfl (fun z5 M6 P7 => ?_)
  obtain ⟨P7, F8⟩ := P7
  refine g_icmp_eq (n := 1492) (tgt := 1992) X dL_law_1489 (by decide) (by omega) (by omega) rfl (fun c9 => ?_) (fun c9 => by exfalso; omega)
  exact law_tail X hr hb (by omega) (by omega)
theorem dL_law_1494 : decode code 1494 = .ok (.aload_n 1, 1) := by decide +kernel
theorem dL_law_1495 : decode code 1495 = .ok (.aload_n 0, 1) := by decide +kernel
theorem dL_law_1496 : decode code 1496 = .ok (.iload_n 3, 1) := by decide +kernel
theorem dL_law_1497 : decode code 1497 = .ok (.iconst 1, 1) := by decide +kernel
theorem dL_law_1498 : decode code 1498 = .ok (.iadd, 1) := by decide +kernel
theorem dL_law_1499 : decode code 1499 = .ok (.iaload, 1) := by decide +kernel
theorem dL_law_1500 : decode code 1500 = .ok (.aload_n 0, 1) := by decide +kernel
theorem dL_law_1501 : decode code 1501 = .ok (.iload_n 3, 1) := by decide +kernel
theorem dL_law_1502 : decode code 1502 = .ok (.iconst 2, 1) := by decide +kernel
theorem dL_law_1503 : decode code 1503 = .ok (.iadd, 1) := by decide +kernel
theorem dL_law_1504 : decode code 1504 = .ok (.iaload, 1) := by decide +kernel
theorem dL_law_1505 : decode code 1505 = .ok (.aload_n 0, 1) := by decide +kernel
theorem dL_law_1506 : decode code 1506 = .ok (.iload_n 3, 1) := by decide +kernel
theorem dL_law_1507 : decode code 1507 = .ok (.iconst 3, 1) := by decide +kernel
theorem dL_law_1508 : decode code 1508 = .ok (.iadd, 1) := by decide +kernel
theorem dL_law_1509 : decode code 1509 = .ok (.iaload, 1) := by decide +kernel
theorem dL_law_1510 : decode code 1510 = .ok (.aload_n 0, 1) := by decide +kernel
theorem dL_law_1511 : decode code 1511 = .ok (.iload_n 3, 1) := by decide +kernel
theorem dL_law_1512 : decode code 1512 = .ok (.iconst 4, 1) := by decide +kernel
theorem dL_law_1513 : decode code 1513 = .ok (.iadd, 1) := by decide +kernel
theorem dL_law_1514 : decode code 1514 = .ok (.iaload, 1) := by decide +kernel
theorem dL_law_1515 : decode code 1515 = .ok (.invokevirtual 145, 3) := by decide +kernel
theorem kw_5_78 : (Jvm.Cond.methodLink "ParishUnionLaw" (145 : Nat) ({ cls := "ParishUnion", name := "owed", desc := "(IIII)I" } : Jvm.MethodName)) ∈ gT := gT_of (tb_5 _ (List.mem_of_getElem? (i := 78) rfl)) rfl
theorem kw_5_81 : (Jvm.Cond.code ({ cls := "ParishUnion", name := "owed", desc := "(IIII)I" } : Jvm.MethodName) prog_1_method_32_code (9 : Nat) (Option.some Jvm.ClassFile.FieldType.int)) ∈ gT := gT_of (tb_5 _ (List.mem_of_getElem? (i := 81) rfl)) rfl
theorem okX11_owed : gQok yX11_owed cX11_owed 9 (Option.some Jvm.ClassFile.FieldType.int) 4 := ⟨kw_5_81, kw_1_1, by decide +kernel, by decide +kernel, by decide +kernel⟩
theorem kw_5_79 : (Jvm.Cond.instanceMethod ({ cls := "ParishUnion", name := "owed", desc := "(IIII)I" } : Jvm.MethodName)) ∈ gT := gT_of (tb_5 _ (List.mem_of_getElem? (i := 79) rfl)) rfl
theorem kw_5_80 : (Jvm.Cond.selects "ParishUnion" ({ cls := "ParishUnion", name := "owed", desc := "(IIII)I" } : Jvm.MethodName) ({ cls := "ParishUnion", name := "owed", desc := "(IIII)I" } : Jvm.MethodName)) ∈ gT := gT_of (tb_5 _ (List.mem_of_getElem? (i := 80) rfl)) rfl
theorem dL_law_1518 : decode code 1518 = .ok (.aload_n 2, 1) := by decide +kernel
theorem dL_law_1519 : decode code 1519 = .ok (.aload_n 0, 1) := by decide +kernel
theorem dL_law_1520 : decode code 1520 = .ok (.iload_n 3, 1) := by decide +kernel
theorem dL_law_1521 : decode code 1521 = .ok (.iconst 1, 1) := by decide +kernel
theorem dL_law_1522 : decode code 1522 = .ok (.iadd, 1) := by decide +kernel
theorem dL_law_1523 : decode code 1523 = .ok (.iaload, 1) := by decide +kernel
theorem dL_law_1524 : decode code 1524 = .ok (.aload_n 0, 1) := by decide +kernel
theorem dL_law_1525 : decode code 1525 = .ok (.iload_n 3, 1) := by decide +kernel
theorem dL_law_1526 : decode code 1526 = .ok (.iconst 2, 1) := by decide +kernel
theorem dL_law_1527 : decode code 1527 = .ok (.iadd, 1) := by decide +kernel
theorem dL_law_1528 : decode code 1528 = .ok (.iaload, 1) := by decide +kernel
theorem dL_law_1529 : decode code 1529 = .ok (.aload_n 0, 1) := by decide +kernel
theorem dL_law_1530 : decode code 1530 = .ok (.iload_n 3, 1) := by decide +kernel
theorem dL_law_1531 : decode code 1531 = .ok (.iconst 3, 1) := by decide +kernel
theorem dL_law_1532 : decode code 1532 = .ok (.iadd, 1) := by decide +kernel
theorem dL_law_1533 : decode code 1533 = .ok (.iaload, 1) := by decide +kernel
theorem dL_law_1534 : decode code 1534 = .ok (.aload_n 0, 1) := by decide +kernel
theorem dL_law_1535 : decode code 1535 = .ok (.iload_n 3, 1) := by decide +kernel
theorem dL_law_1536 : decode code 1536 = .ok (.iconst 4, 1) := by decide +kernel
theorem dL_law_1537 : decode code 1537 = .ok (.iadd, 1) := by decide +kernel
theorem dL_law_1538 : decode code 1538 = .ok (.iaload, 1) := by decide +kernel
theorem dL_law_1539 : decode code 1539 = .ok (.invokevirtual 148, 3) := by decide +kernel
theorem kw_7_196 : (Jvm.Cond.methodLink "ParishUnionLaw" (148 : Nat) ({ cls := "ParishUnionModel", name := "owed", desc := "(IIII)I" } : Jvm.MethodName)) ∈ gT := gT_of (tb_7 _ (List.mem_of_getElem? (i := 196) rfl)) rfl
theorem kw_7_199 : (Jvm.Cond.code ({ cls := "ParishUnionModel", name := "owed", desc := "(IIII)I" } : Jvm.MethodName) prog_14_method_85_code (9 : Nat) (Option.some Jvm.ClassFile.FieldType.int)) ∈ gT := gT_of (tb_7 _ (List.mem_of_getElem? (i := 199) rfl)) rfl
theorem okX12_owed : gQok yX12_owed cX12_owed 9 (Option.some Jvm.ClassFile.FieldType.int) 4 := ⟨kw_7_199, kw_1_13, by decide +kernel, by decide +kernel, by decide +kernel⟩
theorem kw_7_197 : (Jvm.Cond.instanceMethod ({ cls := "ParishUnionModel", name := "owed", desc := "(IIII)I" } : Jvm.MethodName)) ∈ gT := gT_of (tb_7 _ (List.mem_of_getElem? (i := 197) rfl)) rfl
theorem kw_7_198 : (Jvm.Cond.selects "ParishUnionModel" ({ cls := "ParishUnionModel", name := "owed", desc := "(IIII)I" } : Jvm.MethodName) ({ cls := "ParishUnionModel", name := "owed", desc := "(IIII)I" } : Jvm.MethodName)) ∈ gT := gT_of (tb_7 _ (List.mem_of_getElem? (i := 198) rfl)) rfl
theorem dL_law_1542 : decode code 1542 = .ok (.if_icmp .eq 450, 3) := by decide +kernel
set_option maxRecDepth 100000 in
set_option maxHeartbeats 4000000 in
theorem law_case_30 {p : Program} {e : Env} {s : State} {m : MethodId} {below : List Frame} {meth : Method} {c : Code} {l : Launch} {D : va_G} {cA : Nat → ClassId} {b : Nat} {xs : Nat → Int32} (X : gCx p s m #[Value.ref b] meth c s.heap.size D cA "ParishUnionLaw" code 4) (hr : meth.sig.returnType = ret) (hb : b < s.heap.size ∧ va_X b 7 xs s s.heap) {M : gM} (hFr : gFr M) : G p l e room_1 s m #[Value.ref b] below meth c s.heap.size D cA 4 (lw_Z below #[Value.ref b] s) 206 87467 M 206 1494 [(3, gJ 0), (2, gA s.heap.size 190), (1, gA s.heap.size 0), (0, .ref b)] [] := by
  have rents := gFr_rents hFr
  have way := gFr_way hFr
  have beds := gFr_beds hFr
  have frost0 := gFr_frost0 hFr
  have rows0 := gFr_rows0 hFr
  have rooms0 := gFr_rooms0 hFr
  have tape0 := gFr_tape0 hFr
  have car0 := gFr_car0 hFr
  have hS := gFr_hS hFr
  obtain ⟨v0, e0, r0⟩ : ∃ z : Int, xs 0 = Int32.ofInt z ∧ -2147483648 ≤ z ∧ z ≤ 2147483647 := ⟨_, gi_of _, gi_rg _⟩
  obtain ⟨v1, e1, r1⟩ : ∃ z : Int, xs 1 = Int32.ofInt z ∧ -2147483648 ≤ z ∧ z ≤ 2147483647 := ⟨_, gi_of _, gi_rg _⟩
  obtain ⟨v2, e2, r2⟩ : ∃ z : Int, xs 2 = Int32.ofInt z ∧ -2147483648 ≤ z ∧ z ≤ 2147483647 := ⟨_, gi_of _, gi_rg _⟩
  obtain ⟨v3, e3, r3⟩ : ∃ z : Int, xs 3 = Int32.ofInt z ∧ -2147483648 ≤ z ∧ z ≤ 2147483647 := ⟨_, gi_of _, gi_rg _⟩
  obtain ⟨v4, e4, r4⟩ : ∃ z : Int, xs 4 = Int32.ofInt z ∧ -2147483648 ≤ z ∧ z ≤ 2147483647 := ⟨_, gi_of _, gi_rg _⟩
  obtain ⟨v5, e5, r5⟩ : ∃ z : Int, xs 5 = Int32.ofInt z ∧ -2147483648 ≤ z ∧ z ≤ 2147483647 := ⟨_, gi_of _, gi_rg _⟩
  obtain ⟨v6, e6, r6⟩ : ∃ z : Int, xs 6 = Int32.ofInt z ∧ -2147483648 ≤ z ∧ z ≤ 2147483647 := ⟨_, gi_of _, gi_rg _⟩
  refine g_aload_n (n := 1495) X 2 dL_law_1494 rfl rfl rfl ?_
  refine g_aload_n (n := 1496) X 3 dL_law_1495 rfl rfl rfl ?_
  refine g_iload_n (n := 1497) X 0 dL_law_1496 rfl rfl rfl ?_
  refine g_iconst (n := 1498) X dL_law_1497 rfl ?_
  refine g_iadd (n := 1499) (z := 1) X dL_law_1498 rfl rfl ?_
  refine g_scrld (n := 1500) (z := v1) X hb (by omega) (by omega) (by omega) dL_law_1499 rfl e1 ?_
  refine g_aload_n (n := 1501) X 3 dL_law_1500 rfl rfl rfl ?_
  refine g_iload_n (n := 1502) X 0 dL_law_1501 rfl rfl rfl ?_
  refine g_iconst (n := 1503) X dL_law_1502 rfl ?_
  refine g_iadd (n := 1504) (z := 2) X dL_law_1503 rfl rfl ?_
  refine g_scrld (n := 1505) (z := v2) X hb (by omega) (by omega) (by omega) dL_law_1504 rfl e2 ?_
  refine g_aload_n (n := 1506) X 3 dL_law_1505 rfl rfl rfl ?_
  refine g_iload_n (n := 1507) X 0 dL_law_1506 rfl rfl rfl ?_
  refine g_iconst (n := 1508) X dL_law_1507 rfl ?_
  refine g_iadd (n := 1509) (z := 3) X dL_law_1508 rfl rfl ?_
  refine g_scrld (n := 1510) (z := v3) X hb (by omega) (by omega) (by omega) dL_law_1509 rfl e3 ?_
  refine g_aload_n (n := 1511) X 3 dL_law_1510 rfl rfl rfl ?_
  refine g_iload_n (n := 1512) X 0 dL_law_1511 rfl rfl rfl ?_
  refine g_iconst (n := 1513) X dL_law_1512 rfl ?_
  refine g_iadd (n := 1514) (z := 4) X dL_law_1513 rfl rfl ?_
  refine g_scrld (n := 1515) (z := v4) X hb (by omega) (by omega) (by omega) dL_law_1514 rfl e4 ?_
  refine g_callVi (n := 1518) (As := [gJ v1, gJ v2, gJ v3, gJ v4]) (rest := []) (cs1 := 206) (ss1 := 87467) X (c_X11_owed v1 v2 v3 v4 (by omega) (by omega) (by omega) (by omega) (by omega) (gFr_0_0 hFr) (gFr_1_15 hFr)) okX11_owed kw_5_78 ⟨kw_5_79, kw_5_80⟩ ⟨rfl, rfl⟩ ⟨Nat.le_of_ble_eq_true rfl, Nat.le_of_ble_eq_true rfl⟩ rfl (by omega) (by omega) lay_0 rfl rfl (Nat.le_of_ble_eq_true rfl) ⟨Nat.le_of_ble_eq_true rfl, Nat.le_of_ble_eq_true rfl⟩ rfl rfl dL_law_1515 rfl (fun z1 M2 P3 => ?_)
  obtain ⟨P3, F4⟩ := P3
  refine g_aload_n (n := 1519) X 1 dL_law_1518 rfl rfl rfl ?_
  refine g_aload_n (n := 1520) X 3 dL_law_1519 rfl rfl rfl ?_
  refine g_iload_n (n := 1521) X 0 dL_law_1520 rfl rfl rfl ?_
  refine g_iconst (n := 1522) X dL_law_1521 rfl ?_
  refine g_iadd (n := 1523) (z := 1) X dL_law_1522 rfl rfl ?_
  refine g_scrld (n := 1524) (z := v1) X hb (by omega) (by omega) (by omega) dL_law_1523 rfl e1 ?_
  refine g_aload_n (n := 1525) X 3 dL_law_1524 rfl rfl rfl ?_
  refine g_iload_n (n := 1526) X 0 dL_law_1525 rfl rfl rfl ?_
  refine g_iconst (n := 1527) X dL_law_1526 rfl ?_
  refine g_iadd (n := 1528) (z := 2) X dL_law_1527 rfl rfl ?_
  refine g_scrld (n := 1529) (z := v2) X hb (by omega) (by omega) (by omega) dL_law_1528 rfl e2 ?_
  refine g_aload_n (n := 1530) X 3 dL_law_1529 rfl rfl rfl ?_
  refine g_iload_n (n := 1531) X 0 dL_law_1530 rfl rfl rfl ?_
  refine g_iconst (n := 1532) X dL_law_1531 rfl ?_
  refine g_iadd (n := 1533) (z := 3) X dL_law_1532 rfl rfl ?_
  refine g_scrld (n := 1534) (z := v3) X hb (by omega) (by omega) (by omega) dL_law_1533 rfl e3 ?_
  refine g_aload_n (n := 1535) X 3 dL_law_1534 rfl rfl rfl ?_
  refine g_iload_n (n := 1536) X 0 dL_law_1535 rfl rfl rfl ?_
  refine g_iconst (n := 1537) X dL_law_1536 rfl ?_
  refine g_iadd (n := 1538) (z := 4) X dL_law_1537 rfl rfl ?_
  refine g_scrld (n := 1539) (z := v4) X hb (by omega) (by omega) (by omega) dL_law_1538 rfl e4 ?_
  refine g_callVi (n := 1542) (As := [gJ v1, gJ v2, gJ v3, gJ v4]) (rest := [gJ z1]) (cs1 := 206) (ss1 := 87467) X (c_X12_owed v1 v2 v3 v4 (by omega) (by omega) (by omega) (by omega) (by omega) ((congrFun (F4 190) _).trans (gFr_190_1 hFr)) ((congrFun (F4 191) _).trans ((hS 0 (by omega) (by omega)).trans (by decide)))) okX12_owed kw_7_196 ⟨kw_7_197, kw_7_198⟩ ⟨rfl, rfl⟩ ⟨Nat.le_of_ble_eq_true rfl, Nat.le_of_ble_eq_true rfl⟩ rfl (by omega) (by omega) lay_190 rfl rfl (Nat.le_of_ble_eq_true rfl) ⟨Nat.le_of_ble_eq_true rfl, Nat.le_of_ble_eq_true rfl⟩ rfl rfl dL_law_1539 rfl (fun z5 M6 P7 => ?_)
  obtain ⟨P7, F8⟩ := P7
  refine g_icmp_eq (n := 1545) (tgt := 1992) X dL_law_1542 (by decide) (by omega) (by omega) rfl (fun c9 => ?_) (fun c9 => by exfalso; omega)
  exact law_tail X hr hb (by omega) (by omega)
theorem dL_law_1547 : decode code 1547 = .ok (.aload_n 1, 1) := by decide +kernel
theorem dL_law_1548 : decode code 1548 = .ok (.aload_n 0, 1) := by decide +kernel
theorem dL_law_1549 : decode code 1549 = .ok (.iload_n 3, 1) := by decide +kernel
theorem dL_law_1550 : decode code 1550 = .ok (.iconst 1, 1) := by decide +kernel
theorem dL_law_1551 : decode code 1551 = .ok (.iadd, 1) := by decide +kernel
theorem dL_law_1552 : decode code 1552 = .ok (.iaload, 1) := by decide +kernel
theorem dL_law_1553 : decode code 1553 = .ok (.aload_n 0, 1) := by decide +kernel
theorem dL_law_1554 : decode code 1554 = .ok (.iload_n 3, 1) := by decide +kernel
theorem dL_law_1555 : decode code 1555 = .ok (.iconst 2, 1) := by decide +kernel
theorem dL_law_1556 : decode code 1556 = .ok (.iadd, 1) := by decide +kernel
theorem dL_law_1557 : decode code 1557 = .ok (.iaload, 1) := by decide +kernel
theorem dL_law_1558 : decode code 1558 = .ok (.aload_n 0, 1) := by decide +kernel
theorem dL_law_1559 : decode code 1559 = .ok (.iload_n 3, 1) := by decide +kernel
theorem dL_law_1560 : decode code 1560 = .ok (.iconst 3, 1) := by decide +kernel
theorem dL_law_1561 : decode code 1561 = .ok (.iadd, 1) := by decide +kernel
theorem dL_law_1562 : decode code 1562 = .ok (.iaload, 1) := by decide +kernel
theorem dL_law_1563 : decode code 1563 = .ok (.invokevirtual 149, 3) := by decide +kernel
theorem kw_5_82 : (Jvm.Cond.methodLink "ParishUnionLaw" (149 : Nat) ({ cls := "ParishUnion", name := "night", desc := "(III)I" } : Jvm.MethodName)) ∈ gT := gT_of (tb_5 _ (List.mem_of_getElem? (i := 82) rfl)) rfl
theorem kw_5_85 : (Jvm.Cond.code ({ cls := "ParishUnion", name := "night", desc := "(III)I" } : Jvm.MethodName) prog_1_method_33_code (4 : Nat) (Option.some Jvm.ClassFile.FieldType.int)) ∈ gT := gT_of (tb_5 _ (List.mem_of_getElem? (i := 85) rfl)) rfl
theorem okX11_night : gQok yX11_night cX11_night 4 (Option.some Jvm.ClassFile.FieldType.int) 3 := ⟨kw_5_85, kw_1_1, by decide +kernel, by decide +kernel, by decide +kernel⟩
theorem kw_5_83 : (Jvm.Cond.instanceMethod ({ cls := "ParishUnion", name := "night", desc := "(III)I" } : Jvm.MethodName)) ∈ gT := gT_of (tb_5 _ (List.mem_of_getElem? (i := 83) rfl)) rfl
theorem kw_5_84 : (Jvm.Cond.selects "ParishUnion" ({ cls := "ParishUnion", name := "night", desc := "(III)I" } : Jvm.MethodName) ({ cls := "ParishUnion", name := "night", desc := "(III)I" } : Jvm.MethodName)) ∈ gT := gT_of (tb_5 _ (List.mem_of_getElem? (i := 84) rfl)) rfl
theorem dL_law_1566 : decode code 1566 = .ok (.aload_n 2, 1) := by decide +kernel
theorem dL_law_1567 : decode code 1567 = .ok (.aload_n 0, 1) := by decide +kernel
theorem dL_law_1568 : decode code 1568 = .ok (.iload_n 3, 1) := by decide +kernel
theorem dL_law_1569 : decode code 1569 = .ok (.iconst 1, 1) := by decide +kernel
theorem dL_law_1570 : decode code 1570 = .ok (.iadd, 1) := by decide +kernel
theorem dL_law_1571 : decode code 1571 = .ok (.iaload, 1) := by decide +kernel
theorem dL_law_1572 : decode code 1572 = .ok (.aload_n 0, 1) := by decide +kernel
theorem dL_law_1573 : decode code 1573 = .ok (.iload_n 3, 1) := by decide +kernel
theorem dL_law_1574 : decode code 1574 = .ok (.iconst 2, 1) := by decide +kernel
theorem dL_law_1575 : decode code 1575 = .ok (.iadd, 1) := by decide +kernel
theorem dL_law_1576 : decode code 1576 = .ok (.iaload, 1) := by decide +kernel
theorem dL_law_1577 : decode code 1577 = .ok (.aload_n 0, 1) := by decide +kernel
theorem dL_law_1578 : decode code 1578 = .ok (.iload_n 3, 1) := by decide +kernel
theorem dL_law_1579 : decode code 1579 = .ok (.iconst 3, 1) := by decide +kernel
theorem dL_law_1580 : decode code 1580 = .ok (.iadd, 1) := by decide +kernel
theorem dL_law_1581 : decode code 1581 = .ok (.iaload, 1) := by decide +kernel
theorem dL_law_1582 : decode code 1582 = .ok (.invokevirtual 152, 3) := by decide +kernel
theorem kw_7_200 : (Jvm.Cond.methodLink "ParishUnionLaw" (152 : Nat) ({ cls := "ParishUnionModel", name := "night", desc := "(III)I" } : Jvm.MethodName)) ∈ gT := gT_of (tb_7 _ (List.mem_of_getElem? (i := 200) rfl)) rfl
theorem kw_7_203 : (Jvm.Cond.code ({ cls := "ParishUnionModel", name := "night", desc := "(III)I" } : Jvm.MethodName) prog_14_method_86_code (5 : Nat) (Option.some Jvm.ClassFile.FieldType.int)) ∈ gT := gT_of (tb_7 _ (List.mem_of_getElem? (i := 203) rfl)) rfl
theorem okX12_night : gQok yX12_night cX12_night 5 (Option.some Jvm.ClassFile.FieldType.int) 3 := ⟨kw_7_203, kw_1_13, by decide +kernel, by decide +kernel, by decide +kernel⟩
theorem kw_7_201 : (Jvm.Cond.instanceMethod ({ cls := "ParishUnionModel", name := "night", desc := "(III)I" } : Jvm.MethodName)) ∈ gT := gT_of (tb_7 _ (List.mem_of_getElem? (i := 201) rfl)) rfl
theorem kw_7_202 : (Jvm.Cond.selects "ParishUnionModel" ({ cls := "ParishUnionModel", name := "night", desc := "(III)I" } : Jvm.MethodName) ({ cls := "ParishUnionModel", name := "night", desc := "(III)I" } : Jvm.MethodName)) ∈ gT := gT_of (tb_7 _ (List.mem_of_getElem? (i := 202) rfl)) rfl
theorem dL_law_1585 : decode code 1585 = .ok (.if_icmp .eq 407, 3) := by decide +kernel
set_option maxRecDepth 100000 in
set_option maxHeartbeats 4000000 in
theorem law_case_31 {p : Program} {e : Env} {s : State} {m : MethodId} {below : List Frame} {meth : Method} {c : Code} {l : Launch} {D : va_G} {cA : Nat → ClassId} {b : Nat} {xs : Nat → Int32} (X : gCx p s m #[Value.ref b] meth c s.heap.size D cA "ParishUnionLaw" code 4) (hr : meth.sig.returnType = ret) (hb : b < s.heap.size ∧ va_X b 7 xs s s.heap) {M : gM} (hFr : gFr M) : G p l e room_1 s m #[Value.ref b] below meth c s.heap.size D cA 4 (lw_Z below #[Value.ref b] s) 206 87467 M 206 1547 [(3, gJ 0), (2, gA s.heap.size 190), (1, gA s.heap.size 0), (0, .ref b)] [] := by
  have rents := gFr_rents hFr
  have way := gFr_way hFr
  have beds := gFr_beds hFr
  have frost0 := gFr_frost0 hFr
  have rows0 := gFr_rows0 hFr
  have rooms0 := gFr_rooms0 hFr
  have tape0 := gFr_tape0 hFr
  have car0 := gFr_car0 hFr
  have hS := gFr_hS hFr
  obtain ⟨v0, e0, r0⟩ : ∃ z : Int, xs 0 = Int32.ofInt z ∧ -2147483648 ≤ z ∧ z ≤ 2147483647 := ⟨_, gi_of _, gi_rg _⟩
  obtain ⟨v1, e1, r1⟩ : ∃ z : Int, xs 1 = Int32.ofInt z ∧ -2147483648 ≤ z ∧ z ≤ 2147483647 := ⟨_, gi_of _, gi_rg _⟩
  obtain ⟨v2, e2, r2⟩ : ∃ z : Int, xs 2 = Int32.ofInt z ∧ -2147483648 ≤ z ∧ z ≤ 2147483647 := ⟨_, gi_of _, gi_rg _⟩
  obtain ⟨v3, e3, r3⟩ : ∃ z : Int, xs 3 = Int32.ofInt z ∧ -2147483648 ≤ z ∧ z ≤ 2147483647 := ⟨_, gi_of _, gi_rg _⟩
  obtain ⟨v4, e4, r4⟩ : ∃ z : Int, xs 4 = Int32.ofInt z ∧ -2147483648 ≤ z ∧ z ≤ 2147483647 := ⟨_, gi_of _, gi_rg _⟩
  obtain ⟨v5, e5, r5⟩ : ∃ z : Int, xs 5 = Int32.ofInt z ∧ -2147483648 ≤ z ∧ z ≤ 2147483647 := ⟨_, gi_of _, gi_rg _⟩
  obtain ⟨v6, e6, r6⟩ : ∃ z : Int, xs 6 = Int32.ofInt z ∧ -2147483648 ≤ z ∧ z ≤ 2147483647 := ⟨_, gi_of _, gi_rg _⟩
  refine g_aload_n (n := 1548) X 2 dL_law_1547 rfl rfl rfl ?_
  refine g_aload_n (n := 1549) X 3 dL_law_1548 rfl rfl rfl ?_
  refine g_iload_n (n := 1550) X 0 dL_law_1549 rfl rfl rfl ?_
  refine g_iconst (n := 1551) X dL_law_1550 rfl ?_
  refine g_iadd (n := 1552) (z := 1) X dL_law_1551 rfl rfl ?_
  refine g_scrld (n := 1553) (z := v1) X hb (by omega) (by omega) (by omega) dL_law_1552 rfl e1 ?_
  refine g_aload_n (n := 1554) X 3 dL_law_1553 rfl rfl rfl ?_
  refine g_iload_n (n := 1555) X 0 dL_law_1554 rfl rfl rfl ?_
  refine g_iconst (n := 1556) X dL_law_1555 rfl ?_
  refine g_iadd (n := 1557) (z := 2) X dL_law_1556 rfl rfl ?_
  refine g_scrld (n := 1558) (z := v2) X hb (by omega) (by omega) (by omega) dL_law_1557 rfl e2 ?_
  refine g_aload_n (n := 1559) X 3 dL_law_1558 rfl rfl rfl ?_
  refine g_iload_n (n := 1560) X 0 dL_law_1559 rfl rfl rfl ?_
  refine g_iconst (n := 1561) X dL_law_1560 rfl ?_
  refine g_iadd (n := 1562) (z := 3) X dL_law_1561 rfl rfl ?_
  refine g_scrld (n := 1563) (z := v3) X hb (by omega) (by omega) (by omega) dL_law_1562 rfl e3 ?_
  refine g_callVi (n := 1566) (As := [gJ v1, gJ v2, gJ v3]) (rest := []) (cs1 := 206) (ss1 := 87467) X (c_X11_night v1 v2 v3 (by omega) (by omega) (by omega) (by omega) (gFr_0_0 hFr) (gFr_1_8 hFr) (gFr_26_3 hFr) (gFr_26_0 hFr) (gFr_26_1 hFr) (gFr_26_2 hFr)) okX11_night kw_5_82 ⟨kw_5_83, kw_5_84⟩ ⟨rfl, rfl⟩ ⟨Nat.le_of_ble_eq_true rfl, Nat.le_of_ble_eq_true rfl⟩ rfl (by omega) (by omega) lay_0 rfl rfl (Nat.le_of_ble_eq_true rfl) ⟨Nat.le_of_ble_eq_true rfl, Nat.le_of_ble_eq_true rfl⟩ rfl rfl dL_law_1563 rfl (fun z1 M2 P3 => ?_)
  obtain ⟨P3, F4⟩ := P3
  refine g_aload_n (n := 1567) X 1 dL_law_1566 rfl rfl rfl ?_
  refine g_aload_n (n := 1568) X 3 dL_law_1567 rfl rfl rfl ?_
  refine g_iload_n (n := 1569) X 0 dL_law_1568 rfl rfl rfl ?_
  refine g_iconst (n := 1570) X dL_law_1569 rfl ?_
  refine g_iadd (n := 1571) (z := 1) X dL_law_1570 rfl rfl ?_
  refine g_scrld (n := 1572) (z := v1) X hb (by omega) (by omega) (by omega) dL_law_1571 rfl e1 ?_
  refine g_aload_n (n := 1573) X 3 dL_law_1572 rfl rfl rfl ?_
  refine g_iload_n (n := 1574) X 0 dL_law_1573 rfl rfl rfl ?_
  refine g_iconst (n := 1575) X dL_law_1574 rfl ?_
  refine g_iadd (n := 1576) (z := 2) X dL_law_1575 rfl rfl ?_
  refine g_scrld (n := 1577) (z := v2) X hb (by omega) (by omega) (by omega) dL_law_1576 rfl e2 ?_
  refine g_aload_n (n := 1578) X 3 dL_law_1577 rfl rfl rfl ?_
  refine g_iload_n (n := 1579) X 0 dL_law_1578 rfl rfl rfl ?_
  refine g_iconst (n := 1580) X dL_law_1579 rfl ?_
  refine g_iadd (n := 1581) (z := 3) X dL_law_1580 rfl rfl ?_
  refine g_scrld (n := 1582) (z := v3) X hb (by omega) (by omega) (by omega) dL_law_1581 rfl e3 ?_
  refine g_callVi (n := 1585) (As := [gJ v1, gJ v2, gJ v3]) (rest := [gJ z1]) (cs1 := 206) (ss1 := 87467) X (c_X12_night v1 v2 v3 (by omega) (by omega) (by omega) (by omega) ((congrFun (F4 190 (by omega) (by omega) (by omega) (by omega)) _).trans (gFr_190_1 hFr)) ((congrFun (F4 191 (by omega) (by omega) (by omega) (by omega)) _).trans ((hS 6 (by omega) (by omega)).trans (by decide)))) okX12_night kw_7_200 ⟨kw_7_201, kw_7_202⟩ ⟨rfl, rfl⟩ ⟨Nat.le_of_ble_eq_true rfl, Nat.le_of_ble_eq_true rfl⟩ rfl (by omega) (by omega) lay_190 rfl rfl (Nat.le_of_ble_eq_true rfl) ⟨Nat.le_of_ble_eq_true rfl, Nat.le_of_ble_eq_true rfl⟩ rfl rfl dL_law_1582 rfl (fun z5 M6 P7 => ?_)
  obtain ⟨P7, F8⟩ := P7
  refine g_icmp_eq (n := 1588) (tgt := 1992) X dL_law_1585 (by decide) (by omega) (by omega) rfl (fun c9 => ?_) (fun c9 => by exfalso; omega)
  exact law_tail X hr hb (by omega) (by omega)
