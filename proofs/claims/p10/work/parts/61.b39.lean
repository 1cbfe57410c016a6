theorem dL_law_1590 : decode code 1590 = .ok (.aload_n 1, 1) := dc_43 (by decide +kernel)
theorem dL_law_1591 : decode code 1591 = .ok (.aload_n 0, 1) := dc_42 (by decide +kernel)
theorem dL_law_1592 : decode code 1592 = .ok (.iload_n 3, 1) := dc_29 (by decide +kernel)
theorem dL_law_1593 : decode code 1593 = .ok (.iconst 1, 1) := dc_4 (by decide +kernel)
theorem dL_law_1594 : decode code 1594 = .ok (.iadd, 1) := dc_96 (by decide +kernel)
theorem dL_law_1595 : decode code 1595 = .ok (.iaload, 1) := dc_46 (by decide +kernel)
theorem dL_law_1596 : decode code 1596 = .ok (.invokevirtual 153, 3) := dc_182 0 153 (by decide +kernel)
theorem kw_5_90 : (Jvm.Cond.methodLink "ParishUnionLaw" (153 : Nat) ({ cls := "ParishUnion", name := "one", desc := "(I)I" } : Jvm.MethodName)) ∈ gT := gT_of (tb_5 _ (List.mem_of_getElem? (i := 90) rfl)) rfl
theorem kw_5_93 : (Jvm.Cond.code ({ cls := "ParishUnion", name := "one", desc := "(I)I" } : Jvm.MethodName) prog_1_method_34_code (2 : Nat) (Option.some Jvm.ClassFile.FieldType.int)) ∈ gT := gT_of (tb_5 _ (List.mem_of_getElem? (i := 93) rfl)) rfl
theorem okX11_one : gQok yX11_one cX11_one 2 (Option.some Jvm.ClassFile.FieldType.int) 1 := ⟨kw_5_93, kw_1_1, by decide +kernel, by decide +kernel, by decide +kernel⟩
theorem kw_5_91 : (Jvm.Cond.instanceMethod ({ cls := "ParishUnion", name := "one", desc := "(I)I" } : Jvm.MethodName)) ∈ gT := gT_of (tb_5 _ (List.mem_of_getElem? (i := 91) rfl)) rfl
theorem kw_5_92 : (Jvm.Cond.selects "ParishUnion" ({ cls := "ParishUnion", name := "one", desc := "(I)I" } : Jvm.MethodName) ({ cls := "ParishUnion", name := "one", desc := "(I)I" } : Jvm.MethodName)) ∈ gT := gT_of (tb_5 _ (List.mem_of_getElem? (i := 92) rfl)) rfl
theorem dL_law_1599 : decode code 1599 = .ok (.pop, 1) := dc_87 (by decide +kernel)
theorem dL_law_1600 : decode code 1600 = .ok (.aload_n 2, 1) := dc_44 (by decide +kernel)
theorem dL_law_1601 : decode code 1601 = .ok (.aload_n 0, 1) := dc_42 (by decide +kernel)
theorem dL_law_1602 : decode code 1602 = .ok (.iload_n 3, 1) := dc_29 (by decide +kernel)
theorem dL_law_1603 : decode code 1603 = .ok (.iconst 1, 1) := dc_4 (by decide +kernel)
theorem dL_law_1604 : decode code 1604 = .ok (.iadd, 1) := dc_96 (by decide +kernel)
theorem dL_law_1605 : decode code 1605 = .ok (.iaload, 1) := dc_46 (by decide +kernel)
theorem dL_law_1606 : decode code 1606 = .ok (.invokevirtual 156, 3) := dc_182 0 156 (by decide +kernel)
theorem kw_7_204 : (Jvm.Cond.methodLink "ParishUnionLaw" (156 : Nat) ({ cls := "ParishUnionModel", name := "one", desc := "(I)I" } : Jvm.MethodName)) ∈ gT := gT_of (tb_7 _ (List.mem_of_getElem? (i := 204) rfl)) rfl
theorem kw_7_207 : (Jvm.Cond.code ({ cls := "ParishUnionModel", name := "one", desc := "(I)I" } : Jvm.MethodName) prog_14_method_89_code (2 : Nat) (Option.some Jvm.ClassFile.FieldType.int)) ∈ gT := gT_of (tb_7 _ (List.mem_of_getElem? (i := 207) rfl)) rfl
theorem okX12_one : gQok yX12_one cX12_one 2 (Option.some Jvm.ClassFile.FieldType.int) 1 := ⟨kw_7_207, kw_1_13, by decide +kernel, by decide +kernel, by decide +kernel⟩
theorem kw_7_205 : (Jvm.Cond.instanceMethod ({ cls := "ParishUnionModel", name := "one", desc := "(I)I" } : Jvm.MethodName)) ∈ gT := gT_of (tb_7 _ (List.mem_of_getElem? (i := 205) rfl)) rfl
theorem kw_7_206 : (Jvm.Cond.selects "ParishUnionModel" ({ cls := "ParishUnionModel", name := "one", desc := "(I)I" } : Jvm.MethodName) ({ cls := "ParishUnionModel", name := "one", desc := "(I)I" } : Jvm.MethodName)) ∈ gT := gT_of (tb_7 _ (List.mem_of_getElem? (i := 206) rfl)) rfl
theorem dL_law_1609 : decode code 1609 = .ok (.pop, 1) := dc_87 (by decide +kernel)
theorem dL_law_1610 : decode code 1610 = .ok (.goto 382, 3) := dc_167 1 126 382 (by decide +kernel)
set_option maxRecDepth 100000 in
set_option maxHeartbeats 4000000 in
theorem law_case_32 {p : Program} {e : Env} {s : State} {m : MethodId} {below : List Frame} {meth : Method} {cd : Code} {l : Launch} {D : va_G} {cA : Nat → ClassId} {b Ln : Nat} {xs : Nat → Int32} (X : gCx p s m #[Value.ref b] meth cd s.heap.size D cA "ParishUnionLaw" code 4) (hr : meth.sig.returnType = ret) (hb : b < s.heap.size ∧ va_X b Ln xs s s.heap) (hLn : Ln ≤ 3584) {sz cs ss : Nat} {M : gM} (L : lwI sz cs ss M) (i : Int) (hi : 0 ≤ i ∧ i + 7 ≤ (Ln : Int)) (kk : ∀ (sz cs ss : Nat) (M1 : gM), lwI sz cs ss M1 → G p l e room_1 s m #[Value.ref b] below meth cd s.heap.size D cA 4 (lw_Z below #[Value.ref b] s) cs ss M1 sz 1992 [(3, gJ i), (2, gA s.heap.size 190), (1, gA s.heap.size 0), (0, .ref b)] []) : G p l e room_1 s m #[Value.ref b] below meth cd s.heap.size D cA 4 (lw_Z below #[Value.ref b] s) cs ss M sz 1590 [(3, gJ i), (2, gA s.heap.size 190), (1, gA s.heap.size 0), (0, .ref b)] [] := by
  obtain ⟨hsz, I, C, W, LA, LB, LK, LR⟩ := L
  have hN := gN_of hsz I
  obtain ⟨ac, hac, rac⟩ : ∃ v : Int, M 1 13 = v ∧ (0 ≤ v ∧ v ≤ 10) := by
    obtain ⟨v, hv, rv⟩ := gRd I (by decide) (gsz hsz (by decide)) rc_1_13.1
    exact ⟨v, hv, by omega⟩
  obtain ⟨ab, hab, rab⟩ : ∃ v : Int, M 191 4 = v ∧ (0 ≤ v ∧ v ≤ 10) := by
    obtain ⟨v, hv, rv⟩ := gRd I (by decide) (gsz hsz (by decide)) (rs_NA (k := 4) (by omega)).1
    exact ⟨v, hv, by omega⟩
  have hRm : cs + 0 ≤ room_1.cells ∧ ss + 0 ≤ room_1.slots := by
    show cs + 0 ≤ 349274 ∧ ss + 0 ≤ 8054428
    have := lwK.room LK
    omega
  obtain ⟨u1, eu1, ru1⟩ : ∃ z : Int, xs (i + 1).toNat = Int32.ofInt z ∧ (-2147483648 ≤ z ∧ z ≤ 2147483647) := ⟨_, gi_of _, gi_rg _⟩
  obtain ⟨u2, eu2, ru2⟩ : ∃ z : Int, xs (i + 2).toNat = Int32.ofInt z ∧ (-2147483648 ≤ z ∧ z ≤ 2147483647) := ⟨_, gi_of _, gi_rg _⟩
  obtain ⟨u3, eu3, ru3⟩ : ∃ z : Int, xs (i + 3).toNat = Int32.ofInt z ∧ (-2147483648 ≤ z ∧ z ≤ 2147483647) := ⟨_, gi_of _, gi_rg _⟩
  obtain ⟨u4, eu4, ru4⟩ : ∃ z : Int, xs (i + 4).toNat = Int32.ofInt z ∧ (-2147483648 ≤ z ∧ z ≤ 2147483647) := ⟨_, gi_of _, gi_rg _⟩
  obtain ⟨u5, eu5, ru5⟩ : ∃ z : Int, xs (i + 5).toNat = Int32.ofInt z ∧ (-2147483648 ≤ z ∧ z ≤ 2147483647) := ⟨_, gi_of _, gi_rg _⟩
  obtain ⟨u6, eu6, ru6⟩ : ∃ z : Int, xs (i + 6).toNat = Int32.ofInt z ∧ (-2147483648 ≤ z ∧ z ≤ 2147483647) := ⟨_, gi_of _, gi_rg _⟩
  refine g_aload_n (n := 1591) X 2 dL_law_1590 rfl rfl rfl ?_
  refine g_aload_n (n := 1592) X 3 dL_law_1591 rfl rfl rfl ?_
  refine g_iload_n (n := 1593) X 0 dL_law_1592 rfl rfl rfl ?_
  refine g_iconst (n := 1594) X dL_law_1593 rfl ?_
  refine g_iadd (n := 1595) (z := i + 1) X dL_law_1594 (by omega) rfl ?_
  refine g_scrld (n := 1596) (z := u1) X hb (by omega) (by omega) (by omega) dL_law_1595 rfl eu1 ?_
  refine g_callVi (n := 1599) (As := [gJ u1]) (rest := []) (cs1 := cs) (ss1 := ss) X (s_X11_one u1 (by omega) hsz I C ) okX11_one kw_5_90 ⟨kw_5_91, kw_5_92⟩ ⟨rfl, rfl⟩ ⟨Nat.le_of_ble_eq_true rfl, Nat.le_of_ble_eq_true rfl⟩ rfl (by decide) (gsz hsz (by decide)) lay_0 rfl rfl (Nat.le_of_ble_eq_true rfl) hRm rfl rfl dL_law_1596 rfl (fun v1 M2 P3 => ?_)
  obtain ⟨rfl, rv1⟩ := P3
  refine g_pop (n := 1600) X dL_law_1599 rfl rfl ?_
  refine g_aload_n (n := 1601) X 1 dL_law_1600 rfl rfl rfl ?_
  refine g_aload_n (n := 1602) X 3 dL_law_1601 rfl rfl rfl ?_
  refine g_iload_n (n := 1603) X 0 dL_law_1602 rfl rfl rfl ?_
  refine g_iconst (n := 1604) X dL_law_1603 rfl ?_
  refine g_iadd (n := 1605) (z := i + 1) X dL_law_1604 (by omega) rfl ?_
  refine g_scrld (n := 1606) (z := u1) X hb (by omega) (by omega) (by omega) dL_law_1605 rfl eu1 ?_
  refine g_callVi (n := 1609) (As := [gJ u1]) (rest := []) (cs1 := cs) (ss1 := ss) X (s_X12_one u1 (by omega) hsz I C ) okX12_one kw_7_204 ⟨kw_7_205, kw_7_206⟩ ⟨rfl, rfl⟩ ⟨Nat.le_of_ble_eq_true rfl, Nat.le_of_ble_eq_true rfl⟩ rfl (by decide) (gsz hsz (by decide)) lay_190 rfl rfl (Nat.le_of_ble_eq_true rfl) hRm rfl rfl dL_law_1606 rfl (fun v4 M5 P6 => ?_)
  obtain ⟨rfl, rv4⟩ := P6
  refine g_pop (n := 1610) X dL_law_1609 rfl rfl ?_
  refine g_goto (tgt := 1992) X dL_law_1610 (by decide) ?_
  exact kk _ _ _ _ ⟨hsz, I, C, W, LA, LB, (lwK.fr LK (gFr.rf : gFr 0 M M) rfl), ⟨LR.1, LR.2.1, LR.2.2.1, LR.2.2.2.1, LR.2.2.2.2.1, LR.2.2.2.2.2.1, LR.2.2.2.2.2.2.1, LR.2.2.2.2.2.2.2.1, LR.2.2.2.2.2.2.2.2.1, LR.2.2.2.2.2.2.2.2.2.1, LR.2.2.2.2.2.2.2.2.2.2.1, LR.2.2.2.2.2.2.2.2.2.2.2.1, LR.2.2.2.2.2.2.2.2.2.2.2.2⟩⟩
theorem dL_law_1613 : decode code 1613 = .ok (.aload_n 1, 1) := dc_43 (by decide +kernel)
theorem dL_law_1614 : decode code 1614 = .ok (.invokevirtual 157, 3) := dc_182 0 157 (by decide +kernel)
theorem kw_5_99 : (Jvm.Cond.methodLink "ParishUnionLaw" (157 : Nat) ({ cls := "ParishUnion", name := "greatest", desc := "()I" } : Jvm.MethodName)) ∈ gT := gT_of (tb_5 _ (List.mem_of_getElem? (i := 99) rfl)) rfl
theorem kw_5_102 : (Jvm.Cond.code ({ cls := "ParishUnion", name := "greatest", desc := "()I" } : Jvm.MethodName) prog_1_method_35_code (1 : Nat) (Option.some Jvm.ClassFile.FieldType.int)) ∈ gT := gT_of (tb_5 _ (List.mem_of_getElem? (i := 102) rfl)) rfl
theorem okX11_greatest : gQok yX11_greatest cX11_greatest 1 (Option.some Jvm.ClassFile.FieldType.int) 0 := ⟨kw_5_102, kw_1_1, by decide +kernel, by decide +kernel, by decide +kernel⟩
theorem kw_5_100 : (Jvm.Cond.instanceMethod ({ cls := "ParishUnion", name := "greatest", desc := "()I" } : Jvm.MethodName)) ∈ gT := gT_of (tb_5 _ (List.mem_of_getElem? (i := 100) rfl)) rfl
theorem kw_5_101 : (Jvm.Cond.selects "ParishUnion" ({ cls := "ParishUnion", name := "greatest", desc := "()I" } : Jvm.MethodName) ({ cls := "ParishUnion", name := "greatest", desc := "()I" } : Jvm.MethodName)) ∈ gT := gT_of (tb_5 _ (List.mem_of_getElem? (i := 101) rfl)) rfl
theorem dL_law_1617 : decode code 1617 = .ok (.pop, 1) := dc_87 (by decide +kernel)
theorem dL_law_1618 : decode code 1618 = .ok (.aload_n 2, 1) := dc_44 (by decide +kernel)
theorem dL_law_1619 : decode code 1619 = .ok (.invokevirtual 161, 3) := dc_182 0 161 (by decide +kernel)
theorem kw_7_216 : (Jvm.Cond.methodLink "ParishUnionLaw" (161 : Nat) ({ cls := "ParishUnionModel", name := "greatest", desc := "()I" } : Jvm.MethodName)) ∈ gT := gT_of (tb_7 _ (List.mem_of_getElem? (i := 216) rfl)) rfl
theorem kw_7_219 : (Jvm.Cond.code ({ cls := "ParishUnionModel", name := "greatest", desc := "()I" } : Jvm.MethodName) prog_14_method_90_code (5 : Nat) (Option.some Jvm.ClassFile.FieldType.int)) ∈ gT := gT_of (tb_7 _ (List.mem_of_getElem? (i := 219) rfl)) rfl
theorem okX12_greatest : gQok yX12_greatest cX12_greatest 5 (Option.some Jvm.ClassFile.FieldType.int) 0 := ⟨kw_7_219, kw_1_13, by decide +kernel, by decide +kernel, by decide +kernel⟩
theorem kw_7_217 : (Jvm.Cond.instanceMethod ({ cls := "ParishUnionModel", name := "greatest", desc := "()I" } : Jvm.MethodName)) ∈ gT := gT_of (tb_7 _ (List.mem_of_getElem? (i := 217) rfl)) rfl
theorem kw_7_218 : (Jvm.Cond.selects "ParishUnionModel" ({ cls := "ParishUnionModel", name := "greatest", desc := "()I" } : Jvm.MethodName) ({ cls := "ParishUnionModel", name := "greatest", desc := "()I" } : Jvm.MethodName)) ∈ gT := gT_of (tb_7 _ (List.mem_of_getElem? (i := 218) rfl)) rfl
theorem dL_law_1622 : decode code 1622 = .ok (.pop, 1) := dc_87 (by decide +kernel)
theorem dL_law_1623 : decode code 1623 = .ok (.goto 369, 3) := dc_167 1 113 369 (by decide +kernel)
set_option maxRecDepth 100000 in
set_option maxHeartbeats 4000000 in
theorem law_case_33 {p : Program} {e : Env} {s : State} {m : MethodId} {below : List Frame} {meth : Method} {cd : Code} {l : Launch} {D : va_G} {cA : Nat → ClassId} {b Ln : Nat} {xs : Nat → Int32} (X : gCx p s m #[Value.ref b] meth cd s.heap.size D cA "ParishUnionLaw" code 4) (hr : meth.sig.returnType = ret) (hb : b < s.heap.size ∧ va_X b Ln xs s s.heap) (hLn : Ln ≤ 3584) {sz cs ss : Nat} {M : gM} (L : lwI sz cs ss M) (i : Int) (hi : 0 ≤ i ∧ i + 7 ≤ (Ln : Int)) (kk : ∀ (sz cs ss : Nat) (M1 : gM), lwI sz cs ss M1 → G p l e room_1 s m #[Value.ref b] below meth cd s.heap.size D cA 4 (lw_Z below #[Value.ref b] s) cs ss M1 sz 1992 [(3, gJ i), (2, gA s.heap.size 190), (1, gA s.heap.size 0), (0, .ref b)] []) : G p l e room_1 s m #[Value.ref b] below meth cd s.heap.size D cA 4 (lw_Z below #[Value.ref b] s) cs ss M sz 1613 [(3, gJ i), (2, gA s.heap.size 190), (1, gA s.heap.size 0), (0, .ref b)] [] := by
  obtain ⟨hsz, I, C, W, LA, LB, LK, LR⟩ := L
  have hN := gN_of hsz I
  obtain ⟨ac, hac, rac⟩ : ∃ v : Int, M 1 13 = v ∧ (0 ≤ v ∧ v ≤ 10) := by
    obtain ⟨v, hv, rv⟩ := gRd I (by decide) (gsz hsz (by decide)) rc_1_13.1
    exact ⟨v, hv, by omega⟩
  obtain ⟨ab, hab, rab⟩ : ∃ v : Int, M 191 4 = v ∧ (0 ≤ v ∧ v ≤ 10) := by
    obtain ⟨v, hv, rv⟩ := gRd I (by decide) (gsz hsz (by decide)) (rs_NA (k := 4) (by omega)).1
    exact ⟨v, hv, by omega⟩
  have hRm : cs + 0 ≤ room_1.cells ∧ ss + 0 ≤ room_1.slots := by
    show cs + 0 ≤ 349274 ∧ ss + 0 ≤ 8054428
    have := lwK.room LK
    omega
  obtain ⟨u1, eu1, ru1⟩ : ∃ z : Int, xs (i + 1).toNat = Int32.ofInt z ∧ (-2147483648 ≤ z ∧ z ≤ 2147483647) := ⟨_, gi_of _, gi_rg _⟩
  obtain ⟨u2, eu2, ru2⟩ : ∃ z : Int, xs (i + 2).toNat = Int32.ofInt z ∧ (-2147483648 ≤ z ∧ z ≤ 2147483647) := ⟨_, gi_of _, gi_rg _⟩
  obtain ⟨u3, eu3, ru3⟩ : ∃ z : Int, xs (i + 3).toNat = Int32.ofInt z ∧ (-2147483648 ≤ z ∧ z ≤ 2147483647) := ⟨_, gi_of _, gi_rg _⟩
  obtain ⟨u4, eu4, ru4⟩ : ∃ z : Int, xs (i + 4).toNat = Int32.ofInt z ∧ (-2147483648 ≤ z ∧ z ≤ 2147483647) := ⟨_, gi_of _, gi_rg _⟩
  obtain ⟨u5, eu5, ru5⟩ : ∃ z : Int, xs (i + 5).toNat = Int32.ofInt z ∧ (-2147483648 ≤ z ∧ z ≤ 2147483647) := ⟨_, gi_of _, gi_rg _⟩
  obtain ⟨u6, eu6, ru6⟩ : ∃ z : Int, xs (i + 6).toNat = Int32.ofInt z ∧ (-2147483648 ≤ z ∧ z ≤ 2147483647) := ⟨_, gi_of _, gi_rg _⟩
  refine g_aload_n (n := 1614) X 2 dL_law_1613 rfl rfl rfl ?_
  refine g_callVi (n := 1617) (As := []) (rest := []) (cs1 := cs) (ss1 := ss) X (s_X11_greatest  hsz I C ) okX11_greatest kw_5_99 ⟨kw_5_100, kw_5_101⟩ ⟨rfl, rfl⟩ ⟨Nat.le_of_ble_eq_true rfl, Nat.le_of_ble_eq_true rfl⟩ rfl (by decide) (gsz hsz (by decide)) lay_0 rfl rfl (Nat.le_of_ble_eq_true rfl) hRm rfl rfl dL_law_1614 rfl (fun v1 M2 P3 => ?_)
  obtain ⟨rfl, rv1⟩ := P3
  refine g_pop (n := 1618) X dL_law_1617 rfl rfl ?_
  refine g_aload_n (n := 1619) X 1 dL_law_1618 rfl rfl rfl ?_
  refine g_callVi (n := 1622) (As := []) (rest := []) (cs1 := cs) (ss1 := ss) X (s_X12_greatest  hsz I C ) okX12_greatest kw_7_216 ⟨kw_7_217, kw_7_218⟩ ⟨rfl, rfl⟩ ⟨Nat.le_of_ble_eq_true rfl, Nat.le_of_ble_eq_true rfl⟩ rfl (by decide) (gsz hsz (by decide)) lay_190 rfl rfl (Nat.le_of_ble_eq_true rfl) hRm rfl rfl dL_law_1619 rfl (fun v4 M5 P6 => ?_)
  obtain ⟨rfl, rv4⟩ := P6
  refine g_pop (n := 1623) X dL_law_1622 rfl rfl ?_
  refine g_goto (tgt := 1992) X dL_law_1623 (by decide) ?_
  exact kk _ _ _ _ ⟨hsz, I, C, W, LA, LB, (lwK.fr LK (gFr.rf : gFr 0 M M) rfl), ⟨LR.1, LR.2.1, LR.2.2.1, LR.2.2.2.1, LR.2.2.2.2.1, LR.2.2.2.2.2.1, LR.2.2.2.2.2.2.1, LR.2.2.2.2.2.2.2.1, LR.2.2.2.2.2.2.2.2.1, LR.2.2.2.2.2.2.2.2.2.1, LR.2.2.2.2.2.2.2.2.2.2.1, LR.2.2.2.2.2.2.2.2.2.2.2.1, LR.2.2.2.2.2.2.2.2.2.2.2.2⟩⟩
theorem dL_law_1626 : decode code 1626 = .ok (.aload_n 1, 1) := dc_43 (by decide +kernel)
theorem dL_law_1627 : decode code 1627 = .ok (.aload_n 0, 1) := dc_42 (by decide +kernel)
theorem dL_law_1628 : decode code 1628 = .ok (.iload_n 3, 1) := dc_29 (by decide +kernel)
theorem dL_law_1629 : decode code 1629 = .ok (.iconst 1, 1) := dc_4 (by decide +kernel)
theorem dL_law_1630 : decode code 1630 = .ok (.iadd, 1) := dc_96 (by decide +kernel)
theorem dL_law_1631 : decode code 1631 = .ok (.iaload, 1) := dc_46 (by decide +kernel)
theorem dL_law_1632 : decode code 1632 = .ok (.aload_n 0, 1) := dc_42 (by decide +kernel)
theorem dL_law_1633 : decode code 1633 = .ok (.iload_n 3, 1) := dc_29 (by decide +kernel)
theorem dL_law_1634 : decode code 1634 = .ok (.iconst 2, 1) := dc_5 (by decide +kernel)
theorem dL_law_1635 : decode code 1635 = .ok (.iadd, 1) := dc_96 (by decide +kernel)
theorem dL_law_1636 : decode code 1636 = .ok (.iaload, 1) := dc_46 (by decide +kernel)
theorem dL_law_1637 : decode code 1637 = .ok (.invokevirtual 162, 3) := dc_182 0 162 (by decide +kernel)
theorem kw_5_109 : (Jvm.Cond.methodLink "ParishUnionLaw" (162 : Nat) ({ cls := "ParishUnion", name := "master", desc := "(II)I" } : Jvm.MethodName)) ∈ gT := gT_of (tb_5 _ (List.mem_of_getElem? (i := 109) rfl)) rfl
theorem kw_5_112 : (Jvm.Cond.code ({ cls := "ParishUnion", name := "master", desc := "(II)I" } : Jvm.MethodName) prog_1_method_36_code (4 : Nat) (Option.some Jvm.ClassFile.FieldType.int)) ∈ gT := gT_of (tb_5 _ (List.mem_of_getElem? (i := 112) rfl)) rfl
theorem okX11_master : gQok yX11_master cX11_master 4 (Option.some Jvm.ClassFile.FieldType.int) 2 := ⟨kw_5_112, kw_1_1, by decide +kernel, by decide +kernel, by decide +kernel⟩
theorem kw_5_110 : (Jvm.Cond.instanceMethod ({ cls := "ParishUnion", name := "master", desc := "(II)I" } : Jvm.MethodName)) ∈ gT := gT_of (tb_5 _ (List.mem_of_getElem? (i := 110) rfl)) rfl
theorem kw_5_111 : (Jvm.Cond.selects "ParishUnion" ({ cls := "ParishUnion", name := "master", desc := "(II)I" } : Jvm.MethodName) ({ cls := "ParishUnion", name := "master", desc := "(II)I" } : Jvm.MethodName)) ∈ gT := gT_of (tb_5 _ (List.mem_of_getElem? (i := 111) rfl)) rfl
theorem dL_law_1640 : decode code 1640 = .ok (.pop, 1) := dc_87 (by decide +kernel)
theorem dL_law_1641 : decode code 1641 = .ok (.aload_n 2, 1) := dc_44 (by decide +kernel)
theorem dL_law_1642 : decode code 1642 = .ok (.aload_n 0, 1) := dc_42 (by decide +kernel)
theorem dL_law_1643 : decode code 1643 = .ok (.iload_n 3, 1) := dc_29 (by decide +kernel)
theorem dL_law_1644 : decode code 1644 = .ok (.iconst 1, 1) := dc_4 (by decide +kernel)
theorem dL_law_1645 : decode code 1645 = .ok (.iadd, 1) := dc_96 (by decide +kernel)
theorem dL_law_1646 : decode code 1646 = .ok (.iaload, 1) := dc_46 (by decide +kernel)
theorem dL_law_1647 : decode code 1647 = .ok (.aload_n 0, 1) := dc_42 (by decide +kernel)
theorem dL_law_1648 : decode code 1648 = .ok (.iload_n 3, 1) := dc_29 (by decide +kernel)
theorem dL_law_1649 : decode code 1649 = .ok (.iconst 2, 1) := dc_5 (by decide +kernel)
theorem dL_law_1650 : decode code 1650 = .ok (.iadd, 1) := dc_96 (by decide +kernel)
theorem dL_law_1651 : decode code 1651 = .ok (.iaload, 1) := dc_46 (by decide +kernel)
theorem dL_law_1652 : decode code 1652 = .ok (.invokevirtual 165, 3) := dc_182 0 165 (by decide +kernel)
theorem kw_7_220 : (Jvm.Cond.methodLink "ParishUnionLaw" (165 : Nat) ({ cls := "ParishUnionModel", name := "master", desc := "(II)I" } : Jvm.MethodName)) ∈ gT := gT_of (tb_7 _ (List.mem_of_getElem? (i := 220) rfl)) rfl
theorem kw_7_223 : (Jvm.Cond.code ({ cls := "ParishUnionModel", name := "master", desc := "(II)I" } : Jvm.MethodName) prog_14_method_91_code (4 : Nat) (Option.some Jvm.ClassFile.FieldType.int)) ∈ gT := gT_of (tb_7 _ (List.mem_of_getElem? (i := 223) rfl)) rfl
theorem okX12_master : gQok yX12_master cX12_master 4 (Option.some Jvm.ClassFile.FieldType.int) 2 := ⟨kw_7_223, kw_1_13, by decide +kernel, by decide +kernel, by decide +kernel⟩
theorem kw_7_221 : (Jvm.Cond.instanceMethod ({ cls := "ParishUnionModel", name := "master", desc := "(II)I" } : Jvm.MethodName)) ∈ gT := gT_of (tb_7 _ (List.mem_of_getElem? (i := 221) rfl)) rfl
theorem kw_7_222 : (Jvm.Cond.selects "ParishUnionModel" ({ cls := "ParishUnionModel", name := "master", desc := "(II)I" } : Jvm.MethodName) ({ cls := "ParishUnionModel", name := "master", desc := "(II)I" } : Jvm.MethodName)) ∈ gT := gT_of (tb_7 _ (List.mem_of_getElem? (i := 222) rfl)) rfl
theorem dL_law_1655 : decode code 1655 = .ok (.pop, 1) := dc_87 (by decide +kernel)
theorem dL_law_1656 : decode code 1656 = .ok (.goto 336, 3) := dc_167 1 80 336 (by decide +kernel)
set_option maxRecDepth 100000 in
set_option maxHeartbeats 4000000 in
theorem law_case_34 {p : Program} {e : Env} {s : State} {m : MethodId} {below : List Frame} {meth : Method} {cd : Code} {l : Launch} {D : va_G} {cA : Nat → ClassId} {b Ln : Nat} {xs : Nat → Int32} (X : gCx p s m #[Value.ref b] meth cd s.heap.size D cA "ParishUnionLaw" code 4) (hr : meth.sig.returnType = ret) (hb : b < s.heap.size ∧ va_X b Ln xs s s.heap) (hLn : Ln ≤ 3584) {sz cs ss : Nat} {M : gM} (L : lwI sz cs ss M) (i : Int) (hi : 0 ≤ i ∧ i + 7 ≤ (Ln : Int)) (kk : ∀ (sz cs ss : Nat) (M1 : gM), lwI sz cs ss M1 → G p l e room_1 s m #[Value.ref b] below meth cd s.heap.size D cA 4 (lw_Z below #[Value.ref b] s) cs ss M1 sz 1992 [(3, gJ i), (2, gA s.heap.size 190), (1, gA s.heap.size 0), (0, .ref b)] []) : G p l e room_1 s m #[Value.ref b] below meth cd s.heap.size D cA 4 (lw_Z below #[Value.ref b] s) cs ss M sz 1626 [(3, gJ i), (2, gA s.heap.size 190), (1, gA s.heap.size 0), (0, .ref b)] [] := by
  obtain ⟨hsz, I, C, W, LA, LB, LK, LR⟩ := L
  have hN := gN_of hsz I
  obtain ⟨ac, hac, rac⟩ : ∃ v : Int, M 1 13 = v ∧ (0 ≤ v ∧ v ≤ 10) := by
    obtain ⟨v, hv, rv⟩ := gRd I (by decide) (gsz hsz (by decide)) rc_1_13.1
    exact ⟨v, hv, by omega⟩
  obtain ⟨ab, hab, rab⟩ : ∃ v : Int, M 191 4 = v ∧ (0 ≤ v ∧ v ≤ 10) := by
    obtain ⟨v, hv, rv⟩ := gRd I (by decide) (gsz hsz (by decide)) (rs_NA (k := 4) (by omega)).1
    exact ⟨v, hv, by omega⟩
  have hRm : cs + 0 ≤ room_1.cells ∧ ss + 0 ≤ room_1.slots := by
    show cs + 0 ≤ 349274 ∧ ss + 0 ≤ 8054428
    have := lwK.room LK
    omega
  obtain ⟨u1, eu1, ru1⟩ : ∃ z : Int, xs (i + 1).toNat = Int32.ofInt z ∧ (-2147483648 ≤ z ∧ z ≤ 2147483647) := ⟨_, gi_of _, gi_rg _⟩
  obtain ⟨u2, eu2, ru2⟩ : ∃ z : Int, xs (i + 2).toNat = Int32.ofInt z ∧ (-2147483648 ≤ z ∧ z ≤ 2147483647) := ⟨_, gi_of _, gi_rg _⟩
  obtain ⟨u3, eu3, ru3⟩ : ∃ z : Int, xs (i + 3).toNat = Int32.ofInt z ∧ (-2147483648 ≤ z ∧ z ≤ 2147483647) := ⟨_, gi_of _, gi_rg _⟩
  obtain ⟨u4, eu4, ru4⟩ : ∃ z : Int, xs (i + 4).toNat = Int32.ofInt z ∧ (-2147483648 ≤ z ∧ z ≤ 2147483647) := ⟨_, gi_of _, gi_rg _⟩
  obtain ⟨u5, eu5, ru5⟩ : ∃ z : Int, xs (i + 5).toNat = Int32.ofInt z ∧ (-2147483648 ≤ z ∧ z ≤ 2147483647) := ⟨_, gi_of _, gi_rg _⟩
  obtain ⟨u6, eu6, ru6⟩ : ∃ z : Int, xs (i + 6).toNat = Int32.ofInt z ∧ (-2147483648 ≤ z ∧ z ≤ 2147483647) := ⟨_, gi_of _, gi_rg _⟩
  refine g_aload_n (n := 1627) X 2 dL_law_1626 rfl rfl rfl ?_
  refine g_aload_n (n := 1628) X 3 dL_law_1627 rfl rfl rfl ?_
  refine g_iload_n (n := 1629) X 0 dL_law_1628 rfl rfl rfl ?_
  refine g_iconst (n := 1630) X dL_law_1629 rfl ?_
  refine g_iadd (n := 1631) (z := i + 1) X dL_law_1630 (by omega) rfl ?_
  refine g_scrld (n := 1632) (z := u1) X hb (by omega) (by omega) (by omega) dL_law_1631 rfl eu1 ?_
  refine g_aload_n (n := 1633) X 3 dL_law_1632 rfl rfl rfl ?_
  refine g_iload_n (n := 1634) X 0 dL_law_1633 rfl rfl rfl ?_
  refine g_iconst (n := 1635) X dL_law_1634 rfl ?_
  refine g_iadd (n := 1636) (z := i + 2) X dL_law_1635 (by omega) rfl ?_
  refine g_scrld (n := 1637) (z := u2) X hb (by omega) (by omega) (by omega) dL_law_1636 rfl eu2 ?_
  refine g_callVi (n := 1640) (As := [gJ u1, gJ u2]) (rest := []) (cs1 := cs) (ss1 := ss) X (s_X11_master u1 (by omega) u2 (by omega) hsz I C ) okX11_master kw_5_109 ⟨kw_5_110, kw_5_111⟩ ⟨rfl, rfl⟩ ⟨Nat.le_of_ble_eq_true rfl, Nat.le_of_ble_eq_true rfl⟩ rfl (by decide) (gsz hsz (by decide)) lay_0 rfl rfl (Nat.le_of_ble_eq_true rfl) hRm rfl rfl dL_law_1637 rfl (fun v1 M2 P3 => ?_)
  obtain ⟨rv1, IM2, CM2, FM2⟩ := P3
  refine g_pop (n := 1641) X dL_law_1640 rfl rfl ?_
  refine g_aload_n (n := 1642) X 1 dL_law_1641 rfl rfl rfl ?_
  refine g_aload_n (n := 1643) X 3 dL_law_1642 rfl rfl rfl ?_
  refine g_iload_n (n := 1644) X 0 dL_law_1643 rfl rfl rfl ?_
  refine g_iconst (n := 1645) X dL_law_1644 rfl ?_
  refine g_iadd (n := 1646) (z := i + 1) X dL_law_1645 (by omega) rfl ?_
  refine g_scrld (n := 1647) (z := u1) X hb (by omega) (by omega) (by omega) dL_law_1646 rfl eu1 ?_
  refine g_aload_n (n := 1648) X 3 dL_law_1647 rfl rfl rfl ?_
  refine g_iload_n (n := 1649) X 0 dL_law_1648 rfl rfl rfl ?_
  refine g_iconst (n := 1650) X dL_law_1649 rfl ?_
  refine g_iadd (n := 1651) (z := i + 2) X dL_law_1650 (by omega) rfl ?_
  refine g_scrld (n := 1652) (z := u2) X hb (by omega) (by omega) (by omega) dL_law_1651 rfl eu2 ?_
  refine g_callVi (n := 1655) (As := [gJ u1, gJ u2]) (rest := []) (cs1 := cs) (ss1 := ss) X (s_X12_master u1 (by omega) u2 (by omega) hsz IM2 CM2 ) okX12_master kw_7_220 ⟨kw_7_221, kw_7_222⟩ ⟨rfl, rfl⟩ ⟨Nat.le_of_ble_eq_true rfl, Nat.le_of_ble_eq_true rfl⟩ rfl (by decide) (gsz hsz (by decide)) lay_190 rfl rfl (Nat.le_of_ble_eq_true rfl) hRm rfl rfl dL_law_1652 rfl (fun v4 M5 P6 => ?_)
  obtain ⟨rv4, IM5, CM5, FM5⟩ := P6
  refine g_pop (n := 1656) X dL_law_1655 rfl rfl ?_
  refine g_goto (tgt := 1992) X dL_law_1656 (by decide) ?_
  exact kk _ _ _ _ ⟨hsz, IM5, CM5, (gW.fr (S := 281474977234944) W ⟨sz, hsz, I⟩ (gFr.c (gFr.c gFr.rf FM2 rfl) FM5 rfl) rfl), (by rw [((gFr.at FM5 rc_1_13.2.2 rfl).trans (gFr.at FM2 rc_1_13.2.2 rfl))]; exact LA), (by rw [((gFr.at FM5 (rs_NA (k := 4) (by omega)).2.2 rfl).trans (gFr.at FM2 (rs_NA (k := 4) (by omega)).2.2 rfl))]; exact LB), (lwK.fr LK ((gFr.c (gFr.c gFr.rf FM2 rfl) FM5 rfl) : gFr 281474977234944 M M5) rfl), ⟨(rl_now.fr (rl_now.fr LR.1 hN FM2 rfl) (gN_of hsz IM2) FM5 rfl), (rl_npers.fr (rl_npers.fr LR.2.1 hN FM2 rfl) (gN_of hsz IM2) FM5 rfl), (rl_sex.fr (rl_sex.fr LR.2.2.1 hN FM2 rfl) (gN_of hsz IM2) FM5 rfl), (rl_born.fr (rl_born.fr LR.2.2.2.1 hN FM2 rfl) (gN_of hsz IM2) FM5 rfl), (rl_nright.fr (rl_nright.fr LR.2.2.2.2.1 hN FM2 rfl) (gN_of hsz IM2) FM5 rfl), (rl_nent.fr (rl_nent.fr LR.2.2.2.2.2.1 hN FM2 rfl) (gN_of hsz IM2) FM5 rfl), (rl_rkind.fr (rl_rkind.fr LR.2.2.2.2.2.2.1 hN FM2 rfl) (gN_of hsz IM2) FM5 rfl), (rl_rwho.fr (rl_rwho.fr LR.2.2.2.2.2.2.2.1 hN FM2 rfl) (gN_of hsz IM2) FM5 rfl), (rl_rto.fr (rl_rto.fr LR.2.2.2.2.2.2.2.2.1 hN FM2 rfl) (gN_of hsz IM2) FM5 rfl), (rl_rn.fr (rl_rn.fr LR.2.2.2.2.2.2.2.2.2.1 hN FM2 rfl) (gN_of hsz IM2) FM5 rfl), (rl_rweek.fr (rl_rweek.fr LR.2.2.2.2.2.2.2.2.2.2.1 hN FM2 rfl) (gN_of hsz IM2) FM5 rfl), (rl_rsure.fr (rl_rsure.fr LR.2.2.2.2.2.2.2.2.2.2.2.1 hN FM2 rfl) (gN_of hsz IM2) FM5 rfl), (rl_proofs.fr (rl_proofs.fr LR.2.2.2.2.2.2.2.2.2.2.2.2 hN FM2 rfl) (gN_of hsz IM2) FM5 rfl)⟩⟩
theorem dL_law_1659 : decode code 1659 = .ok (.aload_n 1, 1) := dc_43 (by decide +kernel)
theorem dL_law_1660 : decode code 1660 = .ok (.aload_n 0, 1) := dc_42 (by decide +kernel)
theorem dL_law_1661 : decode code 1661 = .ok (.iload_n 3, 1) := dc_29 (by decide +kernel)
theorem dL_law_1662 : decode code 1662 = .ok (.iconst 1, 1) := dc_4 (by decide +kernel)
theorem dL_law_1663 : decode code 1663 = .ok (.iadd, 1) := dc_96 (by decide +kernel)
theorem dL_law_1664 : decode code 1664 = .ok (.iaload, 1) := dc_46 (by decide +kernel)
theorem dL_law_1665 : decode code 1665 = .ok (.aload_n 0, 1) := dc_42 (by decide +kernel)
theorem dL_law_1666 : decode code 1666 = .ok (.iload_n 3, 1) := dc_29 (by decide +kernel)
theorem dL_law_1667 : decode code 1667 = .ok (.iconst 2, 1) := dc_5 (by decide +kernel)
theorem dL_law_1668 : decode code 1668 = .ok (.iadd, 1) := dc_96 (by decide +kernel)
theorem dL_law_1669 : decode code 1669 = .ok (.iaload, 1) := dc_46 (by decide +kernel)
theorem dL_law_1670 : decode code 1670 = .ok (.invokevirtual 166, 3) := dc_182 0 166 (by decide +kernel)
theorem kw_5_117 : (Jvm.Cond.methodLink "ParishUnionLaw" (166 : Nat) ({ cls := "ParishUnion", name := "bind", desc := "(II)I" } : Jvm.MethodName)) ∈ gT := gT_of (tb_5 _ (List.mem_of_getElem? (i := 117) rfl)) rfl
theorem kw_5_120 : (Jvm.Cond.code ({ cls := "ParishUnion", name := "bind", desc := "(II)I" } : Jvm.MethodName) prog_1_method_37_code (7 : Nat) (Option.some Jvm.ClassFile.FieldType.int)) ∈ gT := gT_of (tb_5 _ (List.mem_of_getElem? (i := 120) rfl)) rfl
theorem okX11_bind : gQok yX11_bind cX11_bind 7 (Option.some Jvm.ClassFile.FieldType.int) 2 := ⟨kw_5_120, kw_1_1, by decide +kernel, by decide +kernel, by decide +kernel⟩
theorem kw_5_118 : (Jvm.Cond.instanceMethod ({ cls := "ParishUnion", name := "bind", desc := "(II)I" } : Jvm.MethodName)) ∈ gT := gT_of (tb_5 _ (List.mem_of_getElem? (i := 118) rfl)) rfl
theorem kw_5_119 : (Jvm.Cond.selects "ParishUnion" ({ cls := "ParishUnion", name := "bind", desc := "(II)I" } : Jvm.MethodName) ({ cls := "ParishUnion", name := "bind", desc := "(II)I" } : Jvm.MethodName)) ∈ gT := gT_of (tb_5 _ (List.mem_of_getElem? (i := 119) rfl)) rfl
theorem dL_law_1673 : decode code 1673 = .ok (.pop, 1) := dc_87 (by decide +kernel)
theorem dL_law_1674 : decode code 1674 = .ok (.aload_n 2, 1) := dc_44 (by decide +kernel)
theorem dL_law_1675 : decode code 1675 = .ok (.aload_n 0, 1) := dc_42 (by decide +kernel)
theorem dL_law_1676 : decode code 1676 = .ok (.iload_n 3, 1) := dc_29 (by decide +kernel)
theorem dL_law_1677 : decode code 1677 = .ok (.iconst 1, 1) := dc_4 (by decide +kernel)
theorem dL_law_1678 : decode code 1678 = .ok (.iadd, 1) := dc_96 (by decide +kernel)
theorem dL_law_1679 : decode code 1679 = .ok (.iaload, 1) := dc_46 (by decide +kernel)
theorem dL_law_1680 : decode code 1680 = .ok (.aload_n 0, 1) := dc_42 (by decide +kernel)
theorem dL_law_1681 : decode code 1681 = .ok (.iload_n 3, 1) := dc_29 (by decide +kernel)
theorem dL_law_1682 : decode code 1682 = .ok (.iconst 2, 1) := dc_5 (by decide +kernel)
theorem dL_law_1683 : decode code 1683 = .ok (.iadd, 1) := dc_96 (by decide +kernel)
theorem dL_law_1684 : decode code 1684 = .ok (.iaload, 1) := dc_46 (by decide +kernel)
theorem dL_law_1685 : decode code 1685 = .ok (.invokevirtual 169, 3) := dc_182 0 169 (by decide +kernel)
theorem kw_7_224 : (Jvm.Cond.methodLink "ParishUnionLaw" (169 : Nat) ({ cls := "ParishUnionModel", name := "bind", desc := "(II)I" } : Jvm.MethodName)) ∈ gT := gT_of (tb_7 _ (List.mem_of_getElem? (i := 224) rfl)) rfl
theorem kw_7_227 : (Jvm.Cond.code ({ cls := "ParishUnionModel", name := "bind", desc := "(II)I" } : Jvm.MethodName) prog_14_method_92_code (3 : Nat) (Option.some Jvm.ClassFile.FieldType.int)) ∈ gT := gT_of (tb_7 _ (List.mem_of_getElem? (i := 227) rfl)) rfl
theorem okX12_bind : gQok yX12_bind cX12_bind 3 (Option.some Jvm.ClassFile.FieldType.int) 2 := ⟨kw_7_227, kw_1_13, by decide +kernel, by decide +kernel, by decide +kernel⟩
theorem kw_7_225 : (Jvm.Cond.instanceMethod ({ cls := "ParishUnionModel", name := "bind", desc := "(II)I" } : Jvm.MethodName)) ∈ gT := gT_of (tb_7 _ (List.mem_of_getElem? (i := 225) rfl)) rfl
theorem kw_7_226 : (Jvm.Cond.selects "ParishUnionModel" ({ cls := "ParishUnionModel", name := "bind", desc := "(II)I" } : Jvm.MethodName) ({ cls := "ParishUnionModel", name := "bind", desc := "(II)I" } : Jvm.MethodName)) ∈ gT := gT_of (tb_7 _ (List.mem_of_getElem? (i := 226) rfl)) rfl
theorem dL_law_1688 : decode code 1688 = .ok (.pop, 1) := dc_87 (by decide +kernel)
theorem dL_law_1689 : decode code 1689 = .ok (.goto 303, 3) := dc_167 1 47 303 (by decide +kernel)
set_option maxRecDepth 100000 in
set_option maxHeartbeats 4000000 in
theorem law_case_35 {p : Program} {e : Env} {s : State} {m : MethodId} {below : List Frame} {meth : Method} {cd : Code} {l : Launch} {D : va_G} {cA : Nat → ClassId} {b Ln : Nat} {xs : Nat → Int32} (X : gCx p s m #[Value.ref b] meth cd s.heap.size D cA "ParishUnionLaw" code 4) (hr : meth.sig.returnType = ret) (hb : b < s.heap.size ∧ va_X b Ln xs s s.heap) (hLn : Ln ≤ 3584) {sz cs ss : Nat} {M : gM} (L : lwI sz cs ss M) (i : Int) (hi : 0 ≤ i ∧ i + 7 ≤ (Ln : Int)) (kk : ∀ (sz cs ss : Nat) (M1 : gM), lwI sz cs ss M1 → G p l e room_1 s m #[Value.ref b] below meth cd s.heap.size D cA 4 (lw_Z below #[Value.ref b] s) cs ss M1 sz 1992 [(3, gJ i), (2, gA s.heap.size 190), (1, gA s.heap.size 0), (0, .ref b)] []) : G p l e room_1 s m #[Value.ref b] below meth cd s.heap.size D cA 4 (lw_Z below #[Value.ref b] s) cs ss M sz 1659 [(3, gJ i), (2, gA s.heap.size 190), (1, gA s.heap.size 0), (0, .ref b)] [] := by
  obtain ⟨hsz, I, C, W, LA, LB, LK, LR⟩ := L
  have hN := gN_of hsz I
  obtain ⟨ac, hac, rac⟩ : ∃ v : Int, M 1 13 = v ∧ (0 ≤ v ∧ v ≤ 10) := by
    obtain ⟨v, hv, rv⟩ := gRd I (by decide) (gsz hsz (by decide)) rc_1_13.1
    exact ⟨v, hv, by omega⟩
  obtain ⟨ab, hab, rab⟩ : ∃ v : Int, M 191 4 = v ∧ (0 ≤ v ∧ v ≤ 10) := by
    obtain ⟨v, hv, rv⟩ := gRd I (by decide) (gsz hsz (by decide)) (rs_NA (k := 4) (by omega)).1
    exact ⟨v, hv, by omega⟩
  have hRm : cs + 0 ≤ room_1.cells ∧ ss + 0 ≤ room_1.slots := by
    show cs + 0 ≤ 349274 ∧ ss + 0 ≤ 8054428
    have := lwK.room LK
    omega
  obtain ⟨u1, eu1, ru1⟩ : ∃ z : Int, xs (i + 1).toNat = Int32.ofInt z ∧ (-2147483648 ≤ z ∧ z ≤ 2147483647) := ⟨_, gi_of _, gi_rg _⟩
  obtain ⟨u2, eu2, ru2⟩ : ∃ z : Int, xs (i + 2).toNat = Int32.ofInt z ∧ (-2147483648 ≤ z ∧ z ≤ 2147483647) := ⟨_, gi_of _, gi_rg _⟩
  obtain ⟨u3, eu3, ru3⟩ : ∃ z : Int, xs (i + 3).toNat = Int32.ofInt z ∧ (-2147483648 ≤ z ∧ z ≤ 2147483647) := ⟨_, gi_of _, gi_rg _⟩
  obtain ⟨u4, eu4, ru4⟩ : ∃ z : Int, xs (i + 4).toNat = Int32.ofInt z ∧ (-2147483648 ≤ z ∧ z ≤ 2147483647) := ⟨_, gi_of _, gi_rg _⟩
  obtain ⟨u5, eu5, ru5⟩ : ∃ z : Int, xs (i + 5).toNat = Int32.ofInt z ∧ (-2147483648 ≤ z ∧ z ≤ 2147483647) := ⟨_, gi_of _, gi_rg _⟩
  obtain ⟨u6, eu6, ru6⟩ : ∃ z : Int, xs (i + 6).toNat = Int32.ofInt z ∧ (-2147483648 ≤ z ∧ z ≤ 2147483647) := ⟨_, gi_of _, gi_rg _⟩
  refine g_aload_n (n := 1660) X 2 dL_law_1659 rfl rfl rfl ?_
  refine g_aload_n (n := 1661) X 3 dL_law_1660 rfl rfl rfl ?_
  refine g_iload_n (n := 1662) X 0 dL_law_1661 rfl rfl rfl ?_
  refine g_iconst (n := 1663) X dL_law_1662 rfl ?_
  refine g_iadd (n := 1664) (z := i + 1) X dL_law_1663 (by omega) rfl ?_
  refine g_scrld (n := 1665) (z := u1) X hb (by omega) (by omega) (by omega) dL_law_1664 rfl eu1 ?_
  refine g_aload_n (n := 1666) X 3 dL_law_1665 rfl rfl rfl ?_
  refine g_iload_n (n := 1667) X 0 dL_law_1666 rfl rfl rfl ?_
  refine g_iconst (n := 1668) X dL_law_1667 rfl ?_
  refine g_iadd (n := 1669) (z := i + 2) X dL_law_1668 (by omega) rfl ?_
  refine g_scrld (n := 1670) (z := u2) X hb (by omega) (by omega) (by omega) dL_law_1669 rfl eu2 ?_
  refine g_callVi (n := 1673) (As := [gJ u1, gJ u2]) (rest := []) (cs1 := cs) (ss1 := ss) X (s_X11_bind u1 (by omega) u2 (by omega) hsz I C ) okX11_bind kw_5_117 ⟨kw_5_118, kw_5_119⟩ ⟨rfl, rfl⟩ ⟨Nat.le_of_ble_eq_true rfl, Nat.le_of_ble_eq_true rfl⟩ rfl (by decide) (gsz hsz (by decide)) lay_0 rfl rfl (Nat.le_of_ble_eq_true rfl) hRm rfl rfl dL_law_1670 rfl (fun v1 M2 P3 => ?_)
  obtain ⟨rv1, IM2, CM2, FM2⟩ := P3
  refine g_pop (n := 1674) X dL_law_1673 rfl rfl ?_
  refine g_aload_n (n := 1675) X 1 dL_law_1674 rfl rfl rfl ?_
  refine g_aload_n (n := 1676) X 3 dL_law_1675 rfl rfl rfl ?_
  refine g_iload_n (n := 1677) X 0 dL_law_1676 rfl rfl rfl ?_
  refine g_iconst (n := 1678) X dL_law_1677 rfl ?_
  refine g_iadd (n := 1679) (z := i + 1) X dL_law_1678 (by omega) rfl ?_
  refine g_scrld (n := 1680) (z := u1) X hb (by omega) (by omega) (by omega) dL_law_1679 rfl eu1 ?_
  refine g_aload_n (n := 1681) X 3 dL_law_1680 rfl rfl rfl ?_
  refine g_iload_n (n := 1682) X 0 dL_law_1681 rfl rfl rfl ?_
  refine g_iconst (n := 1683) X dL_law_1682 rfl ?_
  refine g_iadd (n := 1684) (z := i + 2) X dL_law_1683 (by omega) rfl ?_
  refine g_scrld (n := 1685) (z := u2) X hb (by omega) (by omega) (by omega) dL_law_1684 rfl eu2 ?_
  refine g_callVi (n := 1688) (As := [gJ u1, gJ u2]) (rest := []) (cs1 := cs) (ss1 := ss) X (s_X12_bind u1 (by omega) u2 (by omega) hsz IM2 CM2 ) okX12_bind kw_7_224 ⟨kw_7_225, kw_7_226⟩ ⟨rfl, rfl⟩ ⟨Nat.le_of_ble_eq_true rfl, Nat.le_of_ble_eq_true rfl⟩ rfl (by decide) (gsz hsz (by decide)) lay_190 rfl rfl (Nat.le_of_ble_eq_true rfl) hRm rfl rfl dL_law_1685 rfl (fun v4 M5 P6 => ?_)
  obtain ⟨rv4, IM5, CM5, FM5⟩ := P6
  refine g_pop (n := 1689) X dL_law_1688 rfl rfl ?_
  refine g_goto (tgt := 1992) X dL_law_1689 (by decide) ?_
  exact kk _ _ _ _ ⟨hsz, IM5, CM5, (gW.fr (S := 1407374883553296) W ⟨sz, hsz, I⟩ (gFr.c (gFr.c gFr.rf FM2 rfl) FM5 rfl) rfl), (by rw [((gFr.at FM5 rc_1_13.2.2 rfl).trans (gFr.at FM2 rc_1_13.2.2 rfl))]; exact LA), (by rw [((gFr.at FM5 (rs_NA (k := 4) (by omega)).2.2 rfl).trans (gFr.at FM2 (rs_NA (k := 4) (by omega)).2.2 rfl))]; exact LB), (lwK.fr LK ((gFr.c (gFr.c gFr.rf FM2 rfl) FM5 rfl) : gFr 1407374883553296 M M5) rfl), ⟨(rl_now.fr (rl_now.fr LR.1 hN FM2 rfl) (gN_of hsz IM2) FM5 rfl), (rl_npers.fr (rl_npers.fr LR.2.1 hN FM2 rfl) (gN_of hsz IM2) FM5 rfl), (rl_sex.fr (rl_sex.fr LR.2.2.1 hN FM2 rfl) (gN_of hsz IM2) FM5 rfl), (rl_born.fr (rl_born.fr LR.2.2.2.1 hN FM2 rfl) (gN_of hsz IM2) FM5 rfl), (rl_nright.fr (rl_nright.fr LR.2.2.2.2.1 hN FM2 rfl) (gN_of hsz IM2) FM5 rfl), (rl_nent.fr (rl_nent.fr LR.2.2.2.2.2.1 hN FM2 rfl) (gN_of hsz IM2) FM5 rfl), (rl_rkind.fr (rl_rkind.fr LR.2.2.2.2.2.2.1 hN FM2 rfl) (gN_of hsz IM2) FM5 rfl), (rl_rwho.fr (rl_rwho.fr LR.2.2.2.2.2.2.2.1 hN FM2 rfl) (gN_of hsz IM2) FM5 rfl), (rl_rto.fr (rl_rto.fr LR.2.2.2.2.2.2.2.2.1 hN FM2 rfl) (gN_of hsz IM2) FM5 rfl), (rl_rn.fr (rl_rn.fr LR.2.2.2.2.2.2.2.2.2.1 hN FM2 rfl) (gN_of hsz IM2) FM5 rfl), (rl_rweek.fr (rl_rweek.fr LR.2.2.2.2.2.2.2.2.2.2.1 hN FM2 rfl) (gN_of hsz IM2) FM5 rfl), (rl_rsure.fr (rl_rsure.fr LR.2.2.2.2.2.2.2.2.2.2.2.1 hN FM2 rfl) (gN_of hsz IM2) FM5 rfl), (rl_proofs.fr (rl_proofs.fr LR.2.2.2.2.2.2.2.2.2.2.2.2 hN FM2 rfl) (gN_of hsz IM2) FM5 rfl)⟩⟩
theorem dL_law_1692 : decode code 1692 = .ok (.aload_n 1, 1) := dc_43 (by decide +kernel)
theorem dL_law_1693 : decode code 1693 = .ok (.aload_n 0, 1) := dc_42 (by decide +kernel)
theorem dL_law_1694 : decode code 1694 = .ok (.iload_n 3, 1) := dc_29 (by decide +kernel)
theorem dL_law_1695 : decode code 1695 = .ok (.iconst 1, 1) := dc_4 (by decide +kernel)
theorem dL_law_1696 : decode code 1696 = .ok (.iadd, 1) := dc_96 (by decide +kernel)
theorem dL_law_1697 : decode code 1697 = .ok (.iaload, 1) := dc_46 (by decide +kernel)
theorem dL_law_1698 : decode code 1698 = .ok (.invokevirtual 170, 3) := dc_182 0 170 (by decide +kernel)
theorem kw_5_123 : (Jvm.Cond.methodLink "ParishUnionLaw" (170 : Nat) ({ cls := "ParishUnion", name := "run", desc := "(I)I" } : Jvm.MethodName)) ∈ gT := gT_of (tb_5 _ (List.mem_of_getElem? (i := 123) rfl)) rfl
theorem kw_5_126 : (Jvm.Cond.code ({ cls := "ParishUnion", name := "run", desc := "(I)I" } : Jvm.MethodName) prog_1_method_38_code (3 : Nat) (Option.some Jvm.ClassFile.FieldType.int)) ∈ gT := gT_of (tb_5 _ (List.mem_of_getElem? (i := 126) rfl)) rfl
theorem okX11_run : gQok yX11_run cX11_run 3 (Option.some Jvm.ClassFile.FieldType.int) 1 := ⟨kw_5_126, kw_1_1, by decide +kernel, by decide +kernel, by decide +kernel⟩
theorem kw_5_124 : (Jvm.Cond.instanceMethod ({ cls := "ParishUnion", name := "run", desc := "(I)I" } : Jvm.MethodName)) ∈ gT := gT_of (tb_5 _ (List.mem_of_getElem? (i := 124) rfl)) rfl
theorem kw_5_125 : (Jvm.Cond.selects "ParishUnion" ({ cls := "ParishUnion", name := "run", desc := "(I)I" } : Jvm.MethodName) ({ cls := "ParishUnion", name := "run", desc := "(I)I" } : Jvm.MethodName)) ∈ gT := gT_of (tb_5 _ (List.mem_of_getElem? (i := 125) rfl)) rfl
theorem dL_law_1701 : decode code 1701 = .ok (.pop, 1) := dc_87 (by decide +kernel)
theorem dL_law_1702 : decode code 1702 = .ok (.aload_n 2, 1) := dc_44 (by decide +kernel)
theorem dL_law_1703 : decode code 1703 = .ok (.aload_n 0, 1) := dc_42 (by decide +kernel)
theorem dL_law_1704 : decode code 1704 = .ok (.iload_n 3, 1) := dc_29 (by decide +kernel)
theorem dL_law_1705 : decode code 1705 = .ok (.iconst 1, 1) := dc_4 (by decide +kernel)
theorem dL_law_1706 : decode code 1706 = .ok (.iadd, 1) := dc_96 (by decide +kernel)
theorem dL_law_1707 : decode code 1707 = .ok (.iaload, 1) := dc_46 (by decide +kernel)
theorem dL_law_1708 : decode code 1708 = .ok (.invokevirtual 173, 3) := dc_182 0 173 (by decide +kernel)
theorem kw_7_228 : (Jvm.Cond.methodLink "ParishUnionLaw" (173 : Nat) ({ cls := "ParishUnionModel", name := "run", desc := "(I)I" } : Jvm.MethodName)) ∈ gT := gT_of (tb_7 _ (List.mem_of_getElem? (i := 228) rfl)) rfl
theorem kw_7_231 : (Jvm.Cond.code ({ cls := "ParishUnionModel", name := "run", desc := "(I)I" } : Jvm.MethodName) prog_14_method_93_code (2 : Nat) (Option.some Jvm.ClassFile.FieldType.int)) ∈ gT := gT_of (tb_7 _ (List.mem_of_getElem? (i := 231) rfl)) rfl
theorem okX12_run : gQok yX12_run cX12_run 2 (Option.some Jvm.ClassFile.FieldType.int) 1 := ⟨kw_7_231, kw_1_13, by decide +kernel, by decide +kernel, by decide +kernel⟩
theorem kw_7_229 : (Jvm.Cond.instanceMethod ({ cls := "ParishUnionModel", name := "run", desc := "(I)I" } : Jvm.MethodName)) ∈ gT := gT_of (tb_7 _ (List.mem_of_getElem? (i := 229) rfl)) rfl
theorem kw_7_230 : (Jvm.Cond.selects "ParishUnionModel" ({ cls := "ParishUnionModel", name := "run", desc := "(I)I" } : Jvm.MethodName) ({ cls := "ParishUnionModel", name := "run", desc := "(I)I" } : Jvm.MethodName)) ∈ gT := gT_of (tb_7 _ (List.mem_of_getElem? (i := 230) rfl)) rfl
theorem dL_law_1711 : decode code 1711 = .ok (.pop, 1) := dc_87 (by decide +kernel)
theorem dL_law_1712 : decode code 1712 = .ok (.goto 280, 3) := dc_167 1 24 280 (by decide +kernel)
set_option maxRecDepth 100000 in
set_option maxHeartbeats 4000000 in
theorem law_case_36 {p : Program} {e : Env} {s : State} {m : MethodId} {below : List Frame} {meth : Method} {cd : Code} {l : Launch} {D : va_G} {cA : Nat → ClassId} {b Ln : Nat} {xs : Nat → Int32} (X : gCx p s m #[Value.ref b] meth cd s.heap.size D cA "ParishUnionLaw" code 4) (hr : meth.sig.returnType = ret) (hb : b < s.heap.size ∧ va_X b Ln xs s s.heap) (hLn : Ln ≤ 3584) {sz cs ss : Nat} {M : gM} (L : lwI sz cs ss M) (i : Int) (hi : 0 ≤ i ∧ i + 7 ≤ (Ln : Int)) (kk : ∀ (sz cs ss : Nat) (M1 : gM), lwI sz cs ss M1 → G p l e room_1 s m #[Value.ref b] below meth cd s.heap.size D cA 4 (lw_Z below #[Value.ref b] s) cs ss M1 sz 1992 [(3, gJ i), (2, gA s.heap.size 190), (1, gA s.heap.size 0), (0, .ref b)] []) : G p l e room_1 s m #[Value.ref b] below meth cd s.heap.size D cA 4 (lw_Z below #[Value.ref b] s) cs ss M sz 1692 [(3, gJ i), (2, gA s.heap.size 190), (1, gA s.heap.size 0), (0, .ref b)] [] := by
  obtain ⟨hsz, I, C, W, LA, LB, LK, LR⟩ := L
  have hN := gN_of hsz I
  obtain ⟨ac, hac, rac⟩ : ∃ v : Int, M 1 13 = v ∧ (0 ≤ v ∧ v ≤ 10) := by
    obtain ⟨v, hv, rv⟩ := gRd I (by decide) (gsz hsz (by decide)) rc_1_13.1
    exact ⟨v, hv, by omega⟩
  obtain ⟨ab, hab, rab⟩ : ∃ v : Int, M 191 4 = v ∧ (0 ≤ v ∧ v ≤ 10) := by
    obtain ⟨v, hv, rv⟩ := gRd I (by decide) (gsz hsz (by decide)) (rs_NA (k := 4) (by omega)).1
    exact ⟨v, hv, by omega⟩
  have hRm : cs + 0 ≤ room_1.cells ∧ ss + 0 ≤ room_1.slots := by
    show cs + 0 ≤ 349274 ∧ ss + 0 ≤ 8054428
    have := lwK.room LK
    omega
  obtain ⟨u1, eu1, ru1⟩ : ∃ z : Int, xs (i + 1).toNat = Int32.ofInt z ∧ (-2147483648 ≤ z ∧ z ≤ 2147483647) := ⟨_, gi_of _, gi_rg _⟩
  obtain ⟨u2, eu2, ru2⟩ : ∃ z : Int, xs (i + 2).toNat = Int32.ofInt z ∧ (-2147483648 ≤ z ∧ z ≤ 2147483647) := ⟨_, gi_of _, gi_rg _⟩
  obtain ⟨u3, eu3, ru3⟩ : ∃ z : Int, xs (i + 3).toNat = Int32.ofInt z ∧ (-2147483648 ≤ z ∧ z ≤ 2147483647) := ⟨_, gi_of _, gi_rg _⟩
  obtain ⟨u4, eu4, ru4⟩ : ∃ z : Int, xs (i + 4).toNat = Int32.ofInt z ∧ (-2147483648 ≤ z ∧ z ≤ 2147483647) := ⟨_, gi_of _, gi_rg _⟩
  obtain ⟨u5, eu5, ru5⟩ : ∃ z : Int, xs (i + 5).toNat = Int32.ofInt z ∧ (-2147483648 ≤ z ∧ z ≤ 2147483647) := ⟨_, gi_of _, gi_rg _⟩
  obtain ⟨u6, eu6, ru6⟩ : ∃ z : Int, xs (i + 6).toNat = Int32.ofInt z ∧ (-2147483648 ≤ z ∧ z ≤ 2147483647) := ⟨_, gi_of _, gi_rg _⟩
  refine g_aload_n (n := 1693) X 2 dL_law_1692 rfl rfl rfl ?_
  refine g_aload_n (n := 1694) X 3 dL_law_1693 rfl rfl rfl ?_
  refine g_iload_n (n := 1695) X 0 dL_law_1694 rfl rfl rfl ?_
  refine g_iconst (n := 1696) X dL_law_1695 rfl ?_
  refine g_iadd (n := 1697) (z := i + 1) X dL_law_1696 (by omega) rfl ?_
  refine g_scrld (n := 1698) (z := u1) X hb (by omega) (by omega) (by omega) dL_law_1697 rfl eu1 ?_
  refine g_callVi (n := 1701) (As := [gJ u1]) (rest := []) (cs1 := cs) (ss1 := ss) X (s_X11_run u1 (by omega) hsz I C ) okX11_run kw_5_123 ⟨kw_5_124, kw_5_125⟩ ⟨rfl, rfl⟩ ⟨Nat.le_of_ble_eq_true rfl, Nat.le_of_ble_eq_true rfl⟩ rfl (by decide) (gsz hsz (by decide)) lay_0 rfl rfl (Nat.le_of_ble_eq_true rfl) hRm rfl rfl dL_law_1698 rfl (fun v1 M2 P3 => ?_)
  obtain ⟨rv1, IM2, CM2, FM2⟩ := P3
  refine g_pop (n := 1702) X dL_law_1701 rfl rfl ?_
  refine g_aload_n (n := 1703) X 1 dL_law_1702 rfl rfl rfl ?_
  refine g_aload_n (n := 1704) X 3 dL_law_1703 rfl rfl rfl ?_
  refine g_iload_n (n := 1705) X 0 dL_law_1704 rfl rfl rfl ?_
  refine g_iconst (n := 1706) X dL_law_1705 rfl ?_
  refine g_iadd (n := 1707) (z := i + 1) X dL_law_1706 (by omega) rfl ?_
  refine g_scrld (n := 1708) (z := u1) X hb (by omega) (by omega) (by omega) dL_law_1707 rfl eu1 ?_
  refine g_callVi (n := 1711) (As := [gJ u1]) (rest := []) (cs1 := cs) (ss1 := ss) X (s_X12_run u1 (by omega) hsz IM2 CM2 ) okX12_run kw_7_228 ⟨kw_7_229, kw_7_230⟩ ⟨rfl, rfl⟩ ⟨Nat.le_of_ble_eq_true rfl, Nat.le_of_ble_eq_true rfl⟩ rfl (by decide) (gsz hsz (by decide)) lay_190 rfl rfl (Nat.le_of_ble_eq_true rfl) hRm rfl rfl dL_law_1708 rfl (fun v4 M5 P6 => ?_)
  obtain ⟨rv4, IM5, CM5, FM5⟩ := P6
  refine g_pop (n := 1712) X dL_law_1711 rfl rfl ?_
  refine g_goto (tgt := 1992) X dL_law_1712 (by decide) ?_
  exact kk _ _ _ _ ⟨hsz, IM5, CM5, (gW.fr (S := 1407374883553296) W ⟨sz, hsz, I⟩ (gFr.c (gFr.c gFr.rf FM2 rfl) FM5 rfl) rfl), (by rw [((gFr.at FM5 rc_1_13.2.2 rfl).trans (gFr.at FM2 rc_1_13.2.2 rfl))]; exact LA), (by rw [((gFr.at FM5 (rs_NA (k := 4) (by omega)).2.2 rfl).trans (gFr.at FM2 (rs_NA (k := 4) (by omega)).2.2 rfl))]; exact LB), (lwK.fr LK ((gFr.c (gFr.c gFr.rf FM2 rfl) FM5 rfl) : gFr 1407374883553296 M M5) rfl), ⟨(rl_now.fr (rl_now.fr LR.1 hN FM2 rfl) (gN_of hsz IM2) FM5 rfl), (rl_npers.fr (rl_npers.fr LR.2.1 hN FM2 rfl) (gN_of hsz IM2) FM5 rfl), (rl_sex.fr (rl_sex.fr LR.2.2.1 hN FM2 rfl) (gN_of hsz IM2) FM5 rfl), (rl_born.fr (rl_born.fr LR.2.2.2.1 hN FM2 rfl) (gN_of hsz IM2) FM5 rfl), (rl_nright.fr (rl_nright.fr LR.2.2.2.2.1 hN FM2 rfl) (gN_of hsz IM2) FM5 rfl), (rl_nent.fr (rl_nent.fr LR.2.2.2.2.2.1 hN FM2 rfl) (gN_of hsz IM2) FM5 rfl), (rl_rkind.fr (rl_rkind.fr LR.2.2.2.2.2.2.1 hN FM2 rfl) (gN_of hsz IM2) FM5 rfl), (rl_rwho.fr (rl_rwho.fr LR.2.2.2.2.2.2.2.1 hN FM2 rfl) (gN_of hsz IM2) FM5 rfl), (rl_rto.fr (rl_rto.fr LR.2.2.2.2.2.2.2.2.1 hN FM2 rfl) (gN_of hsz IM2) FM5 rfl), (rl_rn.fr (rl_rn.fr LR.2.2.2.2.2.2.2.2.2.1 hN FM2 rfl) (gN_of hsz IM2) FM5 rfl), (rl_rweek.fr (rl_rweek.fr LR.2.2.2.2.2.2.2.2.2.2.1 hN FM2 rfl) (gN_of hsz IM2) FM5 rfl), (rl_rsure.fr (rl_rsure.fr LR.2.2.2.2.2.2.2.2.2.2.2.1 hN FM2 rfl) (gN_of hsz IM2) FM5 rfl), (rl_proofs.fr (rl_proofs.fr LR.2.2.2.2.2.2.2.2.2.2.2.2 hN FM2 rfl) (gN_of hsz IM2) FM5 rfl)⟩⟩
theorem dL_law_1715 : decode code 1715 = .ok (.aload_n 1, 1) := dc_43 (by decide +kernel)
theorem dL_law_1716 : decode code 1716 = .ok (.aload_n 0, 1) := dc_42 (by decide +kernel)
theorem dL_law_1717 : decode code 1717 = .ok (.iload_n 3, 1) := dc_29 (by decide +kernel)
theorem dL_law_1718 : decode code 1718 = .ok (.iconst 1, 1) := dc_4 (by decide +kernel)
theorem dL_law_1719 : decode code 1719 = .ok (.iadd, 1) := dc_96 (by decide +kernel)
theorem dL_law_1720 : decode code 1720 = .ok (.iaload, 1) := dc_46 (by decide +kernel)
theorem dL_law_1721 : decode code 1721 = .ok (.aload_n 0, 1) := dc_42 (by decide +kernel)
theorem dL_law_1722 : decode code 1722 = .ok (.iload_n 3, 1) := dc_29 (by decide +kernel)
theorem dL_law_1723 : decode code 1723 = .ok (.iconst 2, 1) := dc_5 (by decide +kernel)
theorem dL_law_1724 : decode code 1724 = .ok (.iadd, 1) := dc_96 (by decide +kernel)
theorem dL_law_1725 : decode code 1725 = .ok (.iaload, 1) := dc_46 (by decide +kernel)
theorem dL_law_1726 : decode code 1726 = .ok (.aload_n 0, 1) := dc_42 (by decide +kernel)
theorem dL_law_1727 : decode code 1727 = .ok (.iload_n 3, 1) := dc_29 (by decide +kernel)
theorem dL_law_1728 : decode code 1728 = .ok (.iconst 3, 1) := dc_6 (by decide +kernel)
theorem dL_law_1729 : decode code 1729 = .ok (.iadd, 1) := dc_96 (by decide +kernel)
theorem dL_law_1730 : decode code 1730 = .ok (.iaload, 1) := dc_46 (by decide +kernel)
theorem dL_law_1731 : decode code 1731 = .ok (.invokevirtual 174, 3) := dc_182 0 174 (by decide +kernel)
theorem kw_5_127 : (Jvm.Cond.methodLink "ParishUnionLaw" (174 : Nat) ({ cls := "ParishUnion", name := "choice", desc := "(III)I" } : Jvm.MethodName)) ∈ gT := gT_of (tb_5 _ (List.mem_of_getElem? (i := 127) rfl)) rfl
theorem kw_5_130 : (Jvm.Cond.code ({ cls := "ParishUnion", name := "choice", desc := "(III)I" } : Jvm.MethodName) prog_1_method_39_code (4 : Nat) (Option.some Jvm.ClassFile.FieldType.int)) ∈ gT := gT_of (tb_5 _ (List.mem_of_getElem? (i := 130) rfl)) rfl
theorem okX11_choice : gQok yX11_choice cX11_choice 4 (Option.some Jvm.ClassFile.FieldType.int) 3 := ⟨kw_5_130, kw_1_1, by decide +kernel, by decide +kernel, by decide +kernel⟩
theorem kw_5_128 : (Jvm.Cond.instanceMethod ({ cls := "ParishUnion", name := "choice", desc := "(III)I" } : Jvm.MethodName)) ∈ gT := gT_of (tb_5 _ (List.mem_of_getElem? (i := 128) rfl)) rfl
theorem kw_5_129 : (Jvm.Cond.selects "ParishUnion" ({ cls := "ParishUnion", name := "choice", desc := "(III)I" } : Jvm.MethodName) ({ cls := "ParishUnion", name := "choice", desc := "(III)I" } : Jvm.MethodName)) ∈ gT := gT_of (tb_5 _ (List.mem_of_getElem? (i := 129) rfl)) rfl
theorem dL_law_1734 : decode code 1734 = .ok (.pop, 1) := dc_87 (by decide +kernel)
theorem dL_law_1735 : decode code 1735 = .ok (.aload_n 2, 1) := dc_44 (by decide +kernel)
theorem dL_law_1736 : decode code 1736 = .ok (.aload_n 0, 1) := dc_42 (by decide +kernel)
theorem dL_law_1737 : decode code 1737 = .ok (.iload_n 3, 1) := dc_29 (by decide +kernel)
theorem dL_law_1738 : decode code 1738 = .ok (.iconst 1, 1) := dc_4 (by decide +kernel)
theorem dL_law_1739 : decode code 1739 = .ok (.iadd, 1) := dc_96 (by decide +kernel)
theorem dL_law_1740 : decode code 1740 = .ok (.iaload, 1) := dc_46 (by decide +kernel)
theorem dL_law_1741 : decode code 1741 = .ok (.aload_n 0, 1) := dc_42 (by decide +kernel)
theorem dL_law_1742 : decode code 1742 = .ok (.iload_n 3, 1) := dc_29 (by decide +kernel)
theorem dL_law_1743 : decode code 1743 = .ok (.iconst 2, 1) := dc_5 (by decide +kernel)
theorem dL_law_1744 : decode code 1744 = .ok (.iadd, 1) := dc_96 (by decide +kernel)
theorem dL_law_1745 : decode code 1745 = .ok (.iaload, 1) := dc_46 (by decide +kernel)
theorem dL_law_1746 : decode code 1746 = .ok (.aload_n 0, 1) := dc_42 (by decide +kernel)
theorem dL_law_1747 : decode code 1747 = .ok (.iload_n 3, 1) := dc_29 (by decide +kernel)
theorem dL_law_1748 : decode code 1748 = .ok (.iconst 3, 1) := dc_6 (by decide +kernel)
theorem dL_law_1749 : decode code 1749 = .ok (.iadd, 1) := dc_96 (by decide +kernel)
theorem dL_law_1750 : decode code 1750 = .ok (.iaload, 1) := dc_46 (by decide +kernel)
theorem dL_law_1751 : decode code 1751 = .ok (.invokevirtual 177, 3) := dc_182 0 177 (by decide +kernel)
theorem kw_7_232 : (Jvm.Cond.methodLink "ParishUnionLaw" (177 : Nat) ({ cls := "ParishUnionModel", name := "choice", desc := "(III)I" } : Jvm.MethodName)) ∈ gT := gT_of (tb_7 _ (List.mem_of_getElem? (i := 232) rfl)) rfl
theorem kw_7_235 : (Jvm.Cond.code ({ cls := "ParishUnionModel", name := "choice", desc := "(III)I" } : Jvm.MethodName) prog_14_method_94_code (4 : Nat) (Option.some Jvm.ClassFile.FieldType.int)) ∈ gT := gT_of (tb_7 _ (List.mem_of_getElem? (i := 235) rfl)) rfl
theorem okX12_choice : gQok yX12_choice cX12_choice 4 (Option.some Jvm.ClassFile.FieldType.int) 3 := ⟨kw_7_235, kw_1_13, by decide +kernel, by decide +kernel, by decide +kernel⟩
theorem kw_7_233 : (Jvm.Cond.instanceMethod ({ cls := "ParishUnionModel", name := "choice", desc := "(III)I" } : Jvm.MethodName)) ∈ gT := gT_of (tb_7 _ (List.mem_of_getElem? (i := 233) rfl)) rfl
theorem kw_7_234 : (Jvm.Cond.selects "ParishUnionModel" ({ cls := "ParishUnionModel", name := "choice", desc := "(III)I" } : Jvm.MethodName) ({ cls := "ParishUnionModel", name := "choice", desc := "(III)I" } : Jvm.MethodName)) ∈ gT := gT_of (tb_7 _ (List.mem_of_getElem? (i := 234) rfl)) rfl
theorem dL_law_1754 : decode code 1754 = .ok (.pop, 1) := dc_87 (by decide +kernel)
theorem dL_law_1755 : decode code 1755 = .ok (.goto 237, 3) := dc_167 0 237 237 (by decide +kernel)
set_option maxRecDepth 100000 in
set_option maxHeartbeats 4000000 in
theorem law_case_37 {p : Program} {e : Env} {s : State} {m : MethodId} {below : List Frame} {meth : Method} {cd : Code} {l : Launch} {D : va_G} {cA : Nat → ClassId} {b Ln : Nat} {xs : Nat → Int32} (X : gCx p s m #[Value.ref b] meth cd s.heap.size D cA "ParishUnionLaw" code 4) (hr : meth.sig.returnType = ret) (hb : b < s.heap.size ∧ va_X b Ln xs s s.heap) (hLn : Ln ≤ 3584) {sz cs ss : Nat} {M : gM} (L : lwI sz cs ss M) (i : Int) (hi : 0 ≤ i ∧ i + 7 ≤ (Ln : Int)) (kk : ∀ (sz cs ss : Nat) (M1 : gM), lwI sz cs ss M1 → G p l e room_1 s m #[Value.ref b] below meth cd s.heap.size D cA 4 (lw_Z below #[Value.ref b] s) cs ss M1 sz 1992 [(3, gJ i), (2, gA s.heap.size 190), (1, gA s.heap.size 0), (0, .ref b)] []) : G p l e room_1 s m #[Value.ref b] below meth cd s.heap.size D cA 4 (lw_Z below #[Value.ref b] s) cs ss M sz 1715 [(3, gJ i), (2, gA s.heap.size 190), (1, gA s.heap.size 0), (0, .ref b)] [] := by
  obtain ⟨hsz, I, C, W, LA, LB, LK, LR⟩ := L
  have hN := gN_of hsz I
  obtain ⟨ac, hac, rac⟩ : ∃ v : Int, M 1 13 = v ∧ (0 ≤ v ∧ v ≤ 10) := by
    obtain ⟨v, hv, rv⟩ := gRd I (by decide) (gsz hsz (by decide)) rc_1_13.1
    exact ⟨v, hv, by omega⟩
  obtain ⟨ab, hab, rab⟩ : ∃ v : Int, M 191 4 = v ∧ (0 ≤ v ∧ v ≤ 10) := by
    obtain ⟨v, hv, rv⟩ := gRd I (by decide) (gsz hsz (by decide)) (rs_NA (k := 4) (by omega)).1
    exact ⟨v, hv, by omega⟩
  have hRm : cs + 0 ≤ room_1.cells ∧ ss + 0 ≤ room_1.slots := by
    show cs + 0 ≤ 349274 ∧ ss + 0 ≤ 8054428
    have := lwK.room LK
    omega
  obtain ⟨u1, eu1, ru1⟩ : ∃ z : Int, xs (i + 1).toNat = Int32.ofInt z ∧ (-2147483648 ≤ z ∧ z ≤ 2147483647) := ⟨_, gi_of _, gi_rg _⟩
  obtain ⟨u2, eu2, ru2⟩ : ∃ z : Int, xs (i + 2).toNat = Int32.ofInt z ∧ (-2147483648 ≤ z ∧ z ≤ 2147483647) := ⟨_, gi_of _, gi_rg _⟩
  obtain ⟨u3, eu3, ru3⟩ : ∃ z : Int, xs (i + 3).toNat = Int32.ofInt z ∧ (-2147483648 ≤ z ∧ z ≤ 2147483647) := ⟨_, gi_of _, gi_rg _⟩
  obtain ⟨u4, eu4, ru4⟩ : ∃ z : Int, xs (i + 4).toNat = Int32.ofInt z ∧ (-2147483648 ≤ z ∧ z ≤ 2147483647) := ⟨_, gi_of _, gi_rg _⟩
  obtain ⟨u5, eu5, ru5⟩ : ∃ z : Int, xs (i + 5).toNat = Int32.ofInt z ∧ (-2147483648 ≤ z ∧ z ≤ 2147483647) := ⟨_, gi_of _, gi_rg _⟩
  obtain ⟨u6, eu6, ru6⟩ : ∃ z : Int, xs (i + 6).toNat = Int32.ofInt z ∧ (-2147483648 ≤ z ∧ z ≤ 2147483647) := ⟨_, gi_of _, gi_rg _⟩
  refine g_aload_n (n := 1716) X 2 dL_law_1715 rfl rfl rfl ?_
  refine g_aload_n (n := 1717) X 3 dL_law_1716 rfl rfl rfl ?_
  refine g_iload_n (n := 1718) X 0 dL_law_1717 rfl rfl rfl ?_
  refine g_iconst (n := 1719) X dL_law_1718 rfl ?_
  refine g_iadd (n := 1720) (z := i + 1) X dL_law_1719 (by omega) rfl ?_
  refine g_scrld (n := 1721) (z := u1) X hb (by omega) (by omega) (by omega) dL_law_1720 rfl eu1 ?_
  refine g_aload_n (n := 1722) X 3 dL_law_1721 rfl rfl rfl ?_
  refine g_iload_n (n := 1723) X 0 dL_law_1722 rfl rfl rfl ?_
  refine g_iconst (n := 1724) X dL_law_1723 rfl ?_
  refine g_iadd (n := 1725) (z := i + 2) X dL_law_1724 (by omega) rfl ?_
  refine g_scrld (n := 1726) (z := u2) X hb (by omega) (by omega) (by omega) dL_law_1725 rfl eu2 ?_
  refine g_aload_n (n := 1727) X 3 dL_law_1726 rfl rfl rfl ?_
  refine g_iload_n (n := 1728) X 0 dL_law_1727 rfl rfl rfl ?_
  refine g_iconst (n := 1729) X dL_law_1728 rfl ?_
  refine g_iadd (n := 1730) (z := i + 3) X dL_law_1729 (by omega) rfl ?_
  refine g_scrld (n := 1731) (z := u3) X hb (by omega) (by omega) (by omega) dL_law_1730 rfl eu3 ?_
  refine g_callVi (n := 1734) (As := [gJ u1, gJ u2, gJ u3]) (rest := []) (cs1 := cs) (ss1 := ss) X (s_X11_choice u1 (by omega) u2 (by omega) u3 (by omega) hsz I C ) okX11_choice kw_5_127 ⟨kw_5_128, kw_5_129⟩ ⟨rfl, rfl⟩ ⟨Nat.le_of_ble_eq_true rfl, Nat.le_of_ble_eq_true rfl⟩ rfl (by decide) (gsz hsz (by decide)) lay_0 rfl rfl (Nat.le_of_ble_eq_true rfl) hRm rfl rfl dL_law_1731 rfl (fun v1 M2 P3 => ?_)
  obtain ⟨rv1, IM2, CM2, FM2, xM2⟩ := P3
  refine g_pop (n := 1735) X dL_law_1734 rfl rfl ?_
  refine g_aload_n (n := 1736) X 1 dL_law_1735 rfl rfl rfl ?_
  refine g_aload_n (n := 1737) X 3 dL_law_1736 rfl rfl rfl ?_
  refine g_iload_n (n := 1738) X 0 dL_law_1737 rfl rfl rfl ?_
  refine g_iconst (n := 1739) X dL_law_1738 rfl ?_
  refine g_iadd (n := 1740) (z := i + 1) X dL_law_1739 (by omega) rfl ?_
  refine g_scrld (n := 1741) (z := u1) X hb (by omega) (by omega) (by omega) dL_law_1740 rfl eu1 ?_
  refine g_aload_n (n := 1742) X 3 dL_law_1741 rfl rfl rfl ?_
  refine g_iload_n (n := 1743) X 0 dL_law_1742 rfl rfl rfl ?_
  refine g_iconst (n := 1744) X dL_law_1743 rfl ?_
  refine g_iadd (n := 1745) (z := i + 2) X dL_law_1744 (by omega) rfl ?_
  refine g_scrld (n := 1746) (z := u2) X hb (by omega) (by omega) (by omega) dL_law_1745 rfl eu2 ?_
  refine g_aload_n (n := 1747) X 3 dL_law_1746 rfl rfl rfl ?_
  refine g_iload_n (n := 1748) X 0 dL_law_1747 rfl rfl rfl ?_
  refine g_iconst (n := 1749) X dL_law_1748 rfl ?_
  refine g_iadd (n := 1750) (z := i + 3) X dL_law_1749 (by omega) rfl ?_
  refine g_scrld (n := 1751) (z := u3) X hb (by omega) (by omega) (by omega) dL_law_1750 rfl eu3 ?_
  refine g_callVi (n := 1754) (As := [gJ u1, gJ u2, gJ u3]) (rest := []) (cs1 := cs) (ss1 := ss) X (s_X12_choice u1 (by omega) u2 (by omega) u3 (by omega) hsz IM2 CM2 ) okX12_choice kw_7_232 ⟨kw_7_233, kw_7_234⟩ ⟨rfl, rfl⟩ ⟨Nat.le_of_ble_eq_true rfl, Nat.le_of_ble_eq_true rfl⟩ rfl (by decide) (gsz hsz (by decide)) lay_190 rfl rfl (Nat.le_of_ble_eq_true rfl) hRm rfl rfl dL_law_1751 rfl (fun v4 M5 P6 => ?_)
  obtain ⟨rv4, IM5, CM5, FM5, xM5⟩ := P6
  refine g_pop (n := 1755) X dL_law_1754 rfl rfl ?_
  refine g_goto (tgt := 1992) X dL_law_1755 (by decide) ?_
  exact kk _ _ _ _ ⟨hsz, IM5, CM5, (gW.fr (S := 36030996042235904) W ⟨sz, hsz, I⟩ (gFr.c (gFr.c gFr.rf FM2 rfl) FM5 rfl) rfl), (by rw [((gFr.at FM5 rc_1_13.2.2 rfl).trans (gFr.at FM2 rc_1_13.2.2 rfl))]; exact LA), (by rw [((gFr.at FM5 (rs_NA (k := 4) (by omega)).2.2 rfl).trans (gFr.at FM2 (rs_NA (k := 4) (by omega)).2.2 rfl))]; exact LB), (lwK.fr LK ((gFr.c (gFr.c gFr.rf FM2 rfl) FM5 rfl) : gFr 36030996042235904 M M5) rfl), ⟨(rl_now.fr (rl_now.fr LR.1 hN FM2 rfl) (gN_of hsz IM2) FM5 rfl), (rl_npers.fr (rl_npers.fr LR.2.1 hN FM2 rfl) (gN_of hsz IM2) FM5 rfl), (rl_sex.fr (rl_sex.fr LR.2.2.1 hN FM2 rfl) (gN_of hsz IM2) FM5 rfl), (rl_born.fr (rl_born.fr LR.2.2.2.1 hN FM2 rfl) (gN_of hsz IM2) FM5 rfl), (rl_nright.fr (rl_nright.fr LR.2.2.2.2.1 hN FM2 rfl) (gN_of hsz IM2) FM5 rfl), (rl_nent.fr (rl_nent.fr LR.2.2.2.2.2.1 hN FM2 rfl) (gN_of hsz IM2) FM5 rfl), (rl_rkind.fr (rl_rkind.fr LR.2.2.2.2.2.2.1 hN FM2 rfl) (gN_of hsz IM2) FM5 rfl), (rl_rwho.fr (rl_rwho.fr LR.2.2.2.2.2.2.2.1 hN FM2 rfl) (gN_of hsz IM2) FM5 rfl), (rl_rto.fr (rl_rto.fr LR.2.2.2.2.2.2.2.2.1 hN FM2 rfl) (gN_of hsz IM2) FM5 rfl), (rl_rn.fr (rl_rn.fr LR.2.2.2.2.2.2.2.2.2.1 hN FM2 rfl) (gN_of hsz IM2) FM5 rfl), (rl_rweek.fr (rl_rweek.fr LR.2.2.2.2.2.2.2.2.2.2.1 hN FM2 rfl) (gN_of hsz IM2) FM5 rfl), (rl_rsure.fr (rl_rsure.fr LR.2.2.2.2.2.2.2.2.2.2.2.1 hN FM2 rfl) (gN_of hsz IM2) FM5 rfl), (rl_proofs.fr (rl_proofs.fr LR.2.2.2.2.2.2.2.2.2.2.2.2 hN FM2 rfl) (gN_of hsz IM2) FM5 rfl)⟩⟩
theorem dL_law_1758 : decode code 1758 = .ok (.aload_n 1, 1) := dc_43 (by decide +kernel)
theorem dL_law_1759 : decode code 1759 = .ok (.aload_n 0, 1) := dc_42 (by decide +kernel)
theorem dL_law_1760 : decode code 1760 = .ok (.iload_n 3, 1) := dc_29 (by decide +kernel)
theorem dL_law_1761 : decode code 1761 = .ok (.iconst 1, 1) := dc_4 (by decide +kernel)
theorem dL_law_1762 : decode code 1762 = .ok (.iadd, 1) := dc_96 (by decide +kernel)
theorem dL_law_1763 : decode code 1763 = .ok (.iaload, 1) := dc_46 (by decide +kernel)
theorem dL_law_1764 : decode code 1764 = .ok (.aload_n 0, 1) := dc_42 (by decide +kernel)
theorem dL_law_1765 : decode code 1765 = .ok (.iload_n 3, 1) := dc_29 (by decide +kernel)
theorem dL_law_1766 : decode code 1766 = .ok (.iconst 2, 1) := dc_5 (by decide +kernel)
theorem dL_law_1767 : decode code 1767 = .ok (.iadd, 1) := dc_96 (by decide +kernel)
theorem dL_law_1768 : decode code 1768 = .ok (.iaload, 1) := dc_46 (by decide +kernel)
theorem dL_law_1769 : decode code 1769 = .ok (.i2l, 1) := dc_133 (by decide +kernel)
theorem dL_law_1770 : decode code 1770 = .ok (.bipush 32, 2) := dc_16 32 32 (by decide +kernel)
theorem dL_law_1772 : decode code 1772 = .ok (.lshl, 1) := dc_121 (by decide +kernel)
theorem dL_law_1773 : decode code 1773 = .ok (.aload_n 0, 1) := dc_42 (by decide +kernel)
theorem dL_law_1774 : decode code 1774 = .ok (.iload_n 3, 1) := dc_29 (by decide +kernel)
theorem dL_law_1775 : decode code 1775 = .ok (.iconst 3, 1) := dc_6 (by decide +kernel)
theorem dL_law_1776 : decode code 1776 = .ok (.iadd, 1) := dc_96 (by decide +kernel)
theorem dL_law_1777 : decode code 1777 = .ok (.iaload, 1) := dc_46 (by decide +kernel)
theorem dL_law_1778 : decode code 1778 = .ok (.i2l, 1) := dc_133 (by decide +kernel)
theorem dL_law_1779 : decode code 1779 = .ok (.ldc2_w 73, 3) := dc_20 0 73 (by decide +kernel)
theorem dL_law_1782 : decode code 1782 = .ok (.land, 1) := dc_127 (by decide +kernel)
theorem dL_law_1783 : decode code 1783 = .ok (.lor, 1) := dc_129 (by decide +kernel)
theorem dL_law_1784 : decode code 1784 = .ok (.aload_n 0, 1) := dc_42 (by decide +kernel)
theorem dL_law_1785 : decode code 1785 = .ok (.iload_n 3, 1) := dc_29 (by decide +kernel)
theorem dL_law_1786 : decode code 1786 = .ok (.iconst 4, 1) := dc_7 (by decide +kernel)
theorem dL_law_1787 : decode code 1787 = .ok (.iadd, 1) := dc_96 (by decide +kernel)
theorem dL_law_1788 : decode code 1788 = .ok (.iaload, 1) := dc_46 (by decide +kernel)
theorem dL_law_1789 : decode code 1789 = .ok (.invokevirtual 178, 3) := dc_182 0 178 (by decide +kernel)
theorem kw_5_135 : (Jvm.Cond.methodLink "ParishUnionLaw" (178 : Nat) ({ cls := "ParishUnion", name := "frosts", desc := "(IJI)I" } : Jvm.MethodName)) ∈ gT := gT_of (tb_5 _ (List.mem_of_getElem? (i := 135) rfl)) rfl
theorem kw_5_138 : (Jvm.Cond.code ({ cls := "ParishUnion", name := "frosts", desc := "(IJI)I" } : Jvm.MethodName) prog_1_method_40_code (8 : Nat) (Option.some Jvm.ClassFile.FieldType.int)) ∈ gT := gT_of (tb_5 _ (List.mem_of_getElem? (i := 138) rfl)) rfl
theorem okX11_frosts : gQok yX11_frosts cX11_frosts 8 (Option.some Jvm.ClassFile.FieldType.int) 3 := ⟨kw_5_138, kw_1_1, by decide +kernel, by decide +kernel, by decide +kernel⟩
theorem kw_5_136 : (Jvm.Cond.instanceMethod ({ cls := "ParishUnion", name := "frosts", desc := "(IJI)I" } : Jvm.MethodName)) ∈ gT := gT_of (tb_5 _ (List.mem_of_getElem? (i := 136) rfl)) rfl
theorem kw_5_137 : (Jvm.Cond.selects "ParishUnion" ({ cls := "ParishUnion", name := "frosts", desc := "(IJI)I" } : Jvm.MethodName) ({ cls := "ParishUnion", name := "frosts", desc := "(IJI)I" } : Jvm.MethodName)) ∈ gT := gT_of (tb_5 _ (List.mem_of_getElem? (i := 137) rfl)) rfl
theorem dL_law_1792 : decode code 1792 = .ok (.pop, 1) := dc_87 (by decide +kernel)
theorem dL_law_1793 : decode code 1793 = .ok (.aload_n 2, 1) := dc_44 (by decide +kernel)
theorem dL_law_1794 : decode code 1794 = .ok (.aload_n 0, 1) := dc_42 (by decide +kernel)
theorem dL_law_1795 : decode code 1795 = .ok (.iload_n 3, 1) := dc_29 (by decide +kernel)
theorem dL_law_1796 : decode code 1796 = .ok (.iconst 1, 1) := dc_4 (by decide +kernel)
theorem dL_law_1797 : decode code 1797 = .ok (.iadd, 1) := dc_96 (by decide +kernel)
theorem dL_law_1798 : decode code 1798 = .ok (.iaload, 1) := dc_46 (by decide +kernel)
theorem dL_law_1799 : decode code 1799 = .ok (.aload_n 0, 1) := dc_42 (by decide +kernel)
theorem dL_law_1800 : decode code 1800 = .ok (.iload_n 3, 1) := dc_29 (by decide +kernel)
theorem dL_law_1801 : decode code 1801 = .ok (.iconst 2, 1) := dc_5 (by decide +kernel)
theorem dL_law_1802 : decode code 1802 = .ok (.iadd, 1) := dc_96 (by decide +kernel)
theorem dL_law_1803 : decode code 1803 = .ok (.iaload, 1) := dc_46 (by decide +kernel)
theorem dL_law_1804 : decode code 1804 = .ok (.i2l, 1) := dc_133 (by decide +kernel)
theorem dL_law_1805 : decode code 1805 = .ok (.bipush 32, 2) := dc_16 32 32 (by decide +kernel)
theorem dL_law_1807 : decode code 1807 = .ok (.lshl, 1) := dc_121 (by decide +kernel)
theorem dL_law_1808 : decode code 1808 = .ok (.aload_n 0, 1) := dc_42 (by decide +kernel)
theorem dL_law_1809 : decode code 1809 = .ok (.iload_n 3, 1) := dc_29 (by decide +kernel)
theorem dL_law_1810 : decode code 1810 = .ok (.iconst 3, 1) := dc_6 (by decide +kernel)
theorem dL_law_1811 : decode code 1811 = .ok (.iadd, 1) := dc_96 (by decide +kernel)
theorem dL_law_1812 : decode code 1812 = .ok (.iaload, 1) := dc_46 (by decide +kernel)
theorem dL_law_1813 : decode code 1813 = .ok (.i2l, 1) := dc_133 (by decide +kernel)
theorem dL_law_1814 : decode code 1814 = .ok (.ldc2_w 73, 3) := dc_20 0 73 (by decide +kernel)
theorem dL_law_1817 : decode code 1817 = .ok (.land, 1) := dc_127 (by decide +kernel)
theorem dL_law_1818 : decode code 1818 = .ok (.lor, 1) := dc_129 (by decide +kernel)
theorem dL_law_1819 : decode code 1819 = .ok (.aload_n 0, 1) := dc_42 (by decide +kernel)
theorem dL_law_1820 : decode code 1820 = .ok (.iload_n 3, 1) := dc_29 (by decide +kernel)
theorem dL_law_1821 : decode code 1821 = .ok (.iconst 4, 1) := dc_7 (by decide +kernel)
theorem dL_law_1822 : decode code 1822 = .ok (.iadd, 1) := dc_96 (by decide +kernel)
theorem dL_law_1823 : decode code 1823 = .ok (.iaload, 1) := dc_46 (by decide +kernel)
theorem dL_law_1824 : decode code 1824 = .ok (.invokevirtual 182, 3) := dc_182 0 182 (by decide +kernel)
theorem kw_7_236 : (Jvm.Cond.methodLink "ParishUnionLaw" (182 : Nat) ({ cls := "ParishUnionModel", name := "frosts", desc := "(IJI)I" } : Jvm.MethodName)) ∈ gT := gT_of (tb_7 _ (List.mem_of_getElem? (i := 236) rfl)) rfl
theorem kw_7_239 : (Jvm.Cond.code ({ cls := "ParishUnionModel", name := "frosts", desc := "(IJI)I" } : Jvm.MethodName) prog_14_method_95_code (10 : Nat) (Option.some Jvm.ClassFile.FieldType.int)) ∈ gT := gT_of (tb_7 _ (List.mem_of_getElem? (i := 239) rfl)) rfl
theorem okX12_frosts : gQok yX12_frosts cX12_frosts 10 (Option.some Jvm.ClassFile.FieldType.int) 3 := ⟨kw_7_239, kw_1_13, by decide +kernel, by decide +kernel, by decide +kernel⟩
theorem kw_7_237 : (Jvm.Cond.instanceMethod ({ cls := "ParishUnionModel", name := "frosts", desc := "(IJI)I" } : Jvm.MethodName)) ∈ gT := gT_of (tb_7 _ (List.mem_of_getElem? (i := 237) rfl)) rfl
theorem kw_7_238 : (Jvm.Cond.selects "ParishUnionModel" ({ cls := "ParishUnionModel", name := "frosts", desc := "(IJI)I" } : Jvm.MethodName) ({ cls := "ParishUnionModel", name := "frosts", desc := "(IJI)I" } : Jvm.MethodName)) ∈ gT := gT_of (tb_7 _ (List.mem_of_getElem? (i := 238) rfl)) rfl
theorem dL_law_1827 : decode code 1827 = .ok (.pop, 1) := dc_87 (by decide +kernel)
theorem dL_law_1828 : decode code 1828 = .ok (.goto 164, 3) := dc_167 0 164 164 (by decide +kernel)
set_option maxRecDepth 100000 in
set_option maxHeartbeats 4000000 in
theorem law_case_38 {p : Program} {e : Env} {s : State} {m : MethodId} {below : List Frame} {meth : Method} {cd : Code} {l : Launch} {D : va_G} {cA : Nat → ClassId} {b Ln : Nat} {xs : Nat → Int32} (X : gCx p s m #[Value.ref b] meth cd s.heap.size D cA "ParishUnionLaw" code 4) (hr : meth.sig.returnType = ret) (hb : b < s.heap.size ∧ va_X b Ln xs s s.heap) (hLn : Ln ≤ 3584) {sz cs ss : Nat} {M : gM} (L : lwI sz cs ss M) (i : Int) (hi : 0 ≤ i ∧ i + 7 ≤ (Ln : Int)) (kk : ∀ (sz cs ss : Nat) (M1 : gM), lwI sz cs ss M1 → G p l e room_1 s m #[Value.ref b] below meth cd s.heap.size D cA 4 (lw_Z below #[Value.ref b] s) cs ss M1 sz 1992 [(3, gJ i), (2, gA s.heap.size 190), (1, gA s.heap.size 0), (0, .ref b)] []) : G p l e room_1 s m #[Value.ref b] below meth cd s.heap.size D cA 4 (lw_Z below #[Value.ref b] s) cs ss M sz 1758 [(3, gJ i), (2, gA s.heap.size 190), (1, gA s.heap.size 0), (0, .ref b)] [] := by
  obtain ⟨hsz, I, C, W, LA, LB, LK, LR⟩ := L
  have hN := gN_of hsz I
  obtain ⟨ac, hac, rac⟩ : ∃ v : Int, M 1 13 = v ∧ (0 ≤ v ∧ v ≤ 10) := by
    obtain ⟨v, hv, rv⟩ := gRd I (by decide) (gsz hsz (by decide)) rc_1_13.1
    exact ⟨v, hv, by omega⟩
  obtain ⟨ab, hab, rab⟩ : ∃ v : Int, M 191 4 = v ∧ (0 ≤ v ∧ v ≤ 10) := by
    obtain ⟨v, hv, rv⟩ := gRd I (by decide) (gsz hsz (by decide)) (rs_NA (k := 4) (by omega)).1
    exact ⟨v, hv, by omega⟩
  have hRm : cs + 0 ≤ room_1.cells ∧ ss + 0 ≤ room_1.slots := by
    show cs + 0 ≤ 349274 ∧ ss + 0 ≤ 8054428
    have := lwK.room LK
    omega
  obtain ⟨u1, eu1, ru1⟩ : ∃ z : Int, xs (i + 1).toNat = Int32.ofInt z ∧ (-2147483648 ≤ z ∧ z ≤ 2147483647) := ⟨_, gi_of _, gi_rg _⟩
  obtain ⟨u2, eu2, ru2⟩ : ∃ z : Int, xs (i + 2).toNat = Int32.ofInt z ∧ (-2147483648 ≤ z ∧ z ≤ 2147483647) := ⟨_, gi_of _, gi_rg _⟩
  obtain ⟨u3, eu3, ru3⟩ : ∃ z : Int, xs (i + 3).toNat = Int32.ofInt z ∧ (-2147483648 ≤ z ∧ z ≤ 2147483647) := ⟨_, gi_of _, gi_rg _⟩
  obtain ⟨u4, eu4, ru4⟩ : ∃ z : Int, xs (i + 4).toNat = Int32.ofInt z ∧ (-2147483648 ≤ z ∧ z ≤ 2147483647) := ⟨_, gi_of _, gi_rg _⟩
  obtain ⟨u5, eu5, ru5⟩ : ∃ z : Int, xs (i + 5).toNat = Int32.ofInt z ∧ (-2147483648 ≤ z ∧ z ≤ 2147483647) := ⟨_, gi_of _, gi_rg _⟩
  obtain ⟨u6, eu6, ru6⟩ : ∃ z : Int, xs (i + 6).toNat = Int32.ofInt z ∧ (-2147483648 ≤ z ∧ z ≤ 2147483647) := ⟨_, gi_of _, gi_rg _⟩
  refine g_aload_n (n := 1759) X 2 dL_law_1758 rfl rfl rfl ?_
  refine g_aload_n (n := 1760) X 3 dL_law_1759 rfl rfl rfl ?_
  refine g_iload_n (n := 1761) X 0 dL_law_1760 rfl rfl rfl ?_
  refine g_iconst (n := 1762) X dL_law_1761 rfl ?_
  refine g_iadd (n := 1763) (z := i + 1) X dL_law_1762 (by omega) rfl ?_
  refine g_scrld (n := 1764) (z := u1) X hb (by omega) (by omega) (by omega) dL_law_1763 rfl eu1 ?_
  refine g_aload_n (n := 1765) X 3 dL_law_1764 rfl rfl rfl ?_
  refine g_iload_n (n := 1766) X 0 dL_law_1765 rfl rfl rfl ?_
  refine g_iconst (n := 1767) X dL_law_1766 rfl ?_
  refine g_iadd (n := 1768) (z := i + 2) X dL_law_1767 (by omega) rfl ?_
  refine g_scrld (n := 1769) (z := u2) X hb (by omega) (by omega) (by omega) dL_law_1768 rfl eu2 ?_
  refine g_i2lE (n := 1770) (z := u2) X dL_law_1769 (g_i2l (by omega)) rfl ?_
  refine g_bipush (n := 1772) X dL_law_1770 (by decide +kernel) rfl ?_
  refine g_lshlA (n := 1773) X dL_law_1772 rfl (fun v1 rv1 xv1 => ?_)
  clear xv1
  refine g_aload_n (n := 1774) X 3 dL_law_1773 rfl rfl rfl ?_
  refine g_iload_n (n := 1775) X 0 dL_law_1774 rfl rfl rfl ?_
  refine g_iconst (n := 1776) X dL_law_1775 rfl ?_
  refine g_iadd (n := 1777) (z := i + 3) X dL_law_1776 (by omega) rfl ?_
  refine g_scrld (n := 1778) (z := u3) X hb (by omega) (by omega) (by omega) dL_law_1777 rfl eu3 ?_
  refine g_i2lE (n := 1779) (z := u3) X dL_law_1778 (g_i2l (by omega)) rfl ?_
  refine g_ldc2 (n := 1782) (z := 4294967295) X dL_law_1779 kw_8_53 (by decide +kernel) rfl ?_
  refine g_landC (n := 1783) X dL_law_1782 (by decide) rfl (fun v2 rv2 xv2 => ?_)
  clear xv2
  refine g_lorA (n := 1784) X dL_law_1783 rfl (fun v3 rv3 xv3 => ?_)
  clear xv3
  refine g_aload_n (n := 1785) X 3 dL_law_1784 rfl rfl rfl ?_
  refine g_iload_n (n := 1786) X 0 dL_law_1785 rfl rfl rfl ?_
  refine g_iconst (n := 1787) X dL_law_1786 rfl ?_
  refine g_iadd (n := 1788) (z := i + 4) X dL_law_1787 (by omega) rfl ?_
  refine g_scrld (n := 1789) (z := u4) X hb (by omega) (by omega) (by omega) dL_law_1788 rfl eu4 ?_
  refine g_callVi (n := 1792) (As := [gJ u1, gV v3, gJ u4]) (rest := []) (cs1 := cs) (ss1 := ss) X (s_X11_frosts u1 (by omega) v3 (by omega) u4 (by omega) hsz I C ) okX11_frosts kw_5_135 ⟨kw_5_136, kw_5_137⟩ ⟨rfl, rfl⟩ ⟨Nat.le_of_ble_eq_true rfl, Nat.le_of_ble_eq_true rfl⟩ rfl (by decide) (gsz hsz (by decide)) lay_0 rfl rfl (Nat.le_of_ble_eq_true rfl) hRm rfl rfl dL_law_1789 rfl (fun v4 M5 P6 => ?_)
  obtain ⟨rv4, IM5, CM5, FM5, xM5⟩ := P6
  refine g_pop (n := 1793) X dL_law_1792 rfl rfl ?_
  refine g_aload_n (n := 1794) X 1 dL_law_1793 rfl rfl rfl ?_
  refine g_aload_n (n := 1795) X 3 dL_law_1794 rfl rfl rfl ?_
  refine g_iload_n (n := 1796) X 0 dL_law_1795 rfl rfl rfl ?_
  refine g_iconst (n := 1797) X dL_law_1796 rfl ?_
  refine g_iadd (n := 1798) (z := i + 1) X dL_law_1797 (by omega) rfl ?_
  refine g_scrld (n := 1799) (z := u1) X hb (by omega) (by omega) (by omega) dL_law_1798 rfl eu1 ?_
  refine g_aload_n (n := 1800) X 3 dL_law_1799 rfl rfl rfl ?_
  refine g_iload_n (n := 1801) X 0 dL_law_1800 rfl rfl rfl ?_
  refine g_iconst (n := 1802) X dL_law_1801 rfl ?_
  refine g_iadd (n := 1803) (z := i + 2) X dL_law_1802 (by omega) rfl ?_
  refine g_scrld (n := 1804) (z := u2) X hb (by omega) (by omega) (by omega) dL_law_1803 rfl eu2 ?_
  refine g_i2lE (n := 1805) (z := u2) X dL_law_1804 (g_i2l (by omega)) rfl ?_
  refine g_bipush (n := 1807) X dL_law_1805 (by decide +kernel) rfl ?_
  refine g_lshlA (n := 1808) X dL_law_1807 rfl (fun v7 rv7 xv7 => ?_)
  clear xv7
  refine g_aload_n (n := 1809) X 3 dL_law_1808 rfl rfl rfl ?_
  refine g_iload_n (n := 1810) X 0 dL_law_1809 rfl rfl rfl ?_
  refine g_iconst (n := 1811) X dL_law_1810 rfl ?_
  refine g_iadd (n := 1812) (z := i + 3) X dL_law_1811 (by omega) rfl ?_
  refine g_scrld (n := 1813) (z := u3) X hb (by omega) (by omega) (by omega) dL_law_1812 rfl eu3 ?_
  refine g_i2lE (n := 1814) (z := u3) X dL_law_1813 (g_i2l (by omega)) rfl ?_
  refine g_ldc2 (n := 1817) (z := 4294967295) X dL_law_1814 kw_8_53 (by decide +kernel) rfl ?_
  refine g_landC (n := 1818) X dL_law_1817 (by decide) rfl (fun v8 rv8 xv8 => ?_)
  clear xv8
  refine g_lorA (n := 1819) X dL_law_1818 rfl (fun v9 rv9 xv9 => ?_)
  clear xv9
  refine g_aload_n (n := 1820) X 3 dL_law_1819 rfl rfl rfl ?_
  refine g_iload_n (n := 1821) X 0 dL_law_1820 rfl rfl rfl ?_
  refine g_iconst (n := 1822) X dL_law_1821 rfl ?_
  refine g_iadd (n := 1823) (z := i + 4) X dL_law_1822 (by omega) rfl ?_
  refine g_scrld (n := 1824) (z := u4) X hb (by omega) (by omega) (by omega) dL_law_1823 rfl eu4 ?_
  refine g_callVi (n := 1827) (As := [gJ u1, gV v9, gJ u4]) (rest := []) (cs1 := cs) (ss1 := ss) X (s_X12_frosts u1 (by omega) v9 (by omega) u4 (by omega) hsz IM5 CM5 ) okX12_frosts kw_7_236 ⟨kw_7_237, kw_7_238⟩ ⟨rfl, rfl⟩ ⟨Nat.le_of_ble_eq_true rfl, Nat.le_of_ble_eq_true rfl⟩ rfl (by decide) (gsz hsz (by decide)) lay_190 rfl rfl (Nat.le_of_ble_eq_true rfl) hRm rfl rfl dL_law_1824 rfl (fun v10 M11 P12 => ?_)
  obtain ⟨rv10, IM11, CM11, FM11, xM11⟩ := P12
  refine g_pop (n := 1828) X dL_law_1827 rfl rfl ?_
  refine g_goto (tgt := 1992) X dL_law_1828 (by decide) ?_
  exact kk _ _ _ _ ⟨hsz, IM11, CM11, (gW.fr (S := 72057594037936128) W ⟨sz, hsz, I⟩ (gFr.c (gFr.c gFr.rf FM5 rfl) FM11 rfl) rfl), (by rw [((gFr.at FM11 rc_1_13.2.2 rfl).trans (gFr.at FM5 rc_1_13.2.2 rfl))]; exact LA), (by rw [((gFr.at FM11 (rs_NA (k := 4) (by omega)).2.2 rfl).trans (gFr.at FM5 (rs_NA (k := 4) (by omega)).2.2 rfl))]; exact LB), (lwK.fr LK ((gFr.c (gFr.c gFr.rf FM5 rfl) FM11 rfl) : gFr 72057594037936128 M M11) rfl), ⟨(rl_now.fr (rl_now.fr LR.1 hN FM5 rfl) (gN_of hsz IM5) FM11 rfl), (rl_npers.fr (rl_npers.fr LR.2.1 hN FM5 rfl) (gN_of hsz IM5) FM11 rfl), (rl_sex.fr (rl_sex.fr LR.2.2.1 hN FM5 rfl) (gN_of hsz IM5) FM11 rfl), (rl_born.fr (rl_born.fr LR.2.2.2.1 hN FM5 rfl) (gN_of hsz IM5) FM11 rfl), (rl_nright.fr (rl_nright.fr LR.2.2.2.2.1 hN FM5 rfl) (gN_of hsz IM5) FM11 rfl), (rl_nent.fr (rl_nent.fr LR.2.2.2.2.2.1 hN FM5 rfl) (gN_of hsz IM5) FM11 rfl), (rl_rkind.fr (rl_rkind.fr LR.2.2.2.2.2.2.1 hN FM5 rfl) (gN_of hsz IM5) FM11 rfl), (rl_rwho.fr (rl_rwho.fr LR.2.2.2.2.2.2.2.1 hN FM5 rfl) (gN_of hsz IM5) FM11 rfl), (rl_rto.fr (rl_rto.fr LR.2.2.2.2.2.2.2.2.1 hN FM5 rfl) (gN_of hsz IM5) FM11 rfl), (rl_rn.fr (rl_rn.fr LR.2.2.2.2.2.2.2.2.2.1 hN FM5 rfl) (gN_of hsz IM5) FM11 rfl), (rl_rweek.fr (rl_rweek.fr LR.2.2.2.2.2.2.2.2.2.2.1 hN FM5 rfl) (gN_of hsz IM5) FM11 rfl), (rl_rsure.fr (rl_rsure.fr LR.2.2.2.2.2.2.2.2.2.2.2.1 hN FM5 rfl) (gN_of hsz IM5) FM11 rfl), (rl_proofs.fr (rl_proofs.fr LR.2.2.2.2.2.2.2.2.2.2.2.2 hN FM5 rfl) (gN_of hsz IM5) FM11 rfl)⟩⟩
theorem dL_law_1831 : decode code 1831 = .ok (.aload_n 1, 1) := dc_43 (by decide +kernel)
theorem dL_law_1832 : decode code 1832 = .ok (.aload_n 0, 1) := dc_42 (by decide +kernel)
theorem dL_law_1833 : decode code 1833 = .ok (.iload_n 3, 1) := dc_29 (by decide +kernel)
theorem dL_law_1834 : decode code 1834 = .ok (.iconst 1, 1) := dc_4 (by decide +kernel)
theorem dL_law_1835 : decode code 1835 = .ok (.iadd, 1) := dc_96 (by decide +kernel)
theorem dL_law_1836 : decode code 1836 = .ok (.iaload, 1) := dc_46 (by decide +kernel)
theorem dL_law_1837 : decode code 1837 = .ok (.invokevirtual 183, 3) := dc_182 0 183 (by decide +kernel)
theorem kw_5_145 : (Jvm.Cond.methodLink "ParishUnionLaw" (183 : Nat) ({ cls := "ParishUnion", name := "plan", desc := "(I)I" } : Jvm.MethodName)) ∈ gT := gT_of (tb_5 _ (List.mem_of_getElem? (i := 145) rfl)) rfl
theorem kw_5_148 : (Jvm.Cond.code ({ cls := "ParishUnion", name := "plan", desc := "(I)I" } : Jvm.MethodName) prog_1_method_41_code (7 : Nat) (Option.some Jvm.ClassFile.FieldType.int)) ∈ gT := gT_of (tb_5 _ (List.mem_of_getElem? (i := 148) rfl)) rfl
theorem okX11_plan : gQok yX11_plan cX11_plan 7 (Option.some Jvm.ClassFile.FieldType.int) 1 := ⟨kw_5_148, kw_1_1, by decide +kernel, by decide +kernel, by decide +kernel⟩
theorem kw_5_146 : (Jvm.Cond.instanceMethod ({ cls := "ParishUnion", name := "plan", desc := "(I)I" } : Jvm.MethodName)) ∈ gT := gT_of (tb_5 _ (List.mem_of_getElem? (i := 146) rfl)) rfl
theorem kw_5_147 : (Jvm.Cond.selects "ParishUnion" ({ cls := "ParishUnion", name := "plan", desc := "(I)I" } : Jvm.MethodName) ({ cls := "ParishUnion", name := "plan", desc := "(I)I" } : Jvm.MethodName)) ∈ gT := gT_of (tb_5 _ (List.mem_of_getElem? (i := 147) rfl)) rfl
theorem dL_law_1840 : decode code 1840 = .ok (.pop, 1) := dc_87 (by decide +kernel)
theorem dL_law_1841 : decode code 1841 = .ok (.aload_n 2, 1) := dc_44 (by decide +kernel)
theorem dL_law_1842 : decode code 1842 = .ok (.aload_n 0, 1) := dc_42 (by decide +kernel)
theorem dL_law_1843 : decode code 1843 = .ok (.iload_n 3, 1) := dc_29 (by decide +kernel)
theorem dL_law_1844 : decode code 1844 = .ok (.iconst 1, 1) := dc_4 (by decide +kernel)
theorem dL_law_1845 : decode code 1845 = .ok (.iadd, 1) := dc_96 (by decide +kernel)
theorem dL_law_1846 : decode code 1846 = .ok (.iaload, 1) := dc_46 (by decide +kernel)
theorem dL_law_1847 : decode code 1847 = .ok (.invokevirtual 186, 3) := dc_182 0 186 (by decide +kernel)
theorem kw_8_1 : (Jvm.Cond.methodLink "ParishUnionLaw" (186 : Nat) ({ cls := "ParishUnionModel", name := "plan", desc := "(I)I" } : Jvm.MethodName)) ∈ gT := gT_of (tb_8 _ (List.mem_of_getElem? (i := 1) rfl)) rfl
theorem kw_8_4 : (Jvm.Cond.code ({ cls := "ParishUnionModel", name := "plan", desc := "(I)I" } : Jvm.MethodName) prog_14_method_101_code (8 : Nat) (Option.some Jvm.ClassFile.FieldType.int)) ∈ gT := gT_of (tb_8 _ (List.mem_of_getElem? (i := 4) rfl)) rfl
theorem okX12_plan : gQok yX12_plan cX12_plan 8 (Option.some Jvm.ClassFile.FieldType.int) 1 := ⟨kw_8_4, kw_1_13, by decide +kernel, by decide +kernel, by decide +kernel⟩
theorem kw_8_2 : (Jvm.Cond.instanceMethod ({ cls := "ParishUnionModel", name := "plan", desc := "(I)I" } : Jvm.MethodName)) ∈ gT := gT_of (tb_8 _ (List.mem_of_getElem? (i := 2) rfl)) rfl
theorem kw_8_3 : (Jvm.Cond.selects "ParishUnionModel" ({ cls := "ParishUnionModel", name := "plan", desc := "(I)I" } : Jvm.MethodName) ({ cls := "ParishUnionModel", name := "plan", desc := "(I)I" } : Jvm.MethodName)) ∈ gT := gT_of (tb_8 _ (List.mem_of_getElem? (i := 3) rfl)) rfl
theorem dL_law_1850 : decode code 1850 = .ok (.pop, 1) := dc_87 (by decide +kernel)
theorem dL_law_1851 : decode code 1851 = .ok (.goto 141, 3) := dc_167 0 141 141 (by decide +kernel)
set_option maxRecDepth 100000 in
set_option maxHeartbeats 4000000 in
theorem law_case_39 {p : Program} {e : Env} {s : State} {m : MethodId} {below : List Frame} {meth : Method} {cd : Code} {l : Launch} {D : va_G} {cA : Nat → ClassId} {b Ln : Nat} {xs : Nat → Int32} (X : gCx p s m #[Value.ref b] meth cd s.heap.size D cA "ParishUnionLaw" code 4) (hr : meth.sig.returnType = ret) (hb : b < s.heap.size ∧ va_X b Ln xs s s.heap) (hLn : Ln ≤ 3584) {sz cs ss : Nat} {M : gM} (L : lwI sz cs ss M) (i : Int) (hi : 0 ≤ i ∧ i + 7 ≤ (Ln : Int)) (kk : ∀ (sz cs ss : Nat) (M1 : gM), lwI sz cs ss M1 → G p l e room_1 s m #[Value.ref b] below meth cd s.heap.size D cA 4 (lw_Z below #[Value.ref b] s) cs ss M1 sz 1992 [(3, gJ i), (2, gA s.heap.size 190), (1, gA s.heap.size 0), (0, .ref b)] []) : G p l e room_1 s m #[Value.ref b] below meth cd s.heap.size D cA 4 (lw_Z below #[Value.ref b] s) cs ss M sz 1831 [(3, gJ i), (2, gA s.heap.size 190), (1, gA s.heap.size 0), (0, .ref b)] [] := by
  obtain ⟨hsz, I, C, W, LA, LB, LK, LR⟩ := L
  have hN := gN_of hsz I
  obtain ⟨ac, hac, rac⟩ : ∃ v : Int, M 1 13 = v ∧ (0 ≤ v ∧ v ≤ 10) := by
    obtain ⟨v, hv, rv⟩ := gRd I (by decide) (gsz hsz (by decide)) rc_1_13.1
    exact ⟨v, hv, by omega⟩
  obtain ⟨ab, hab, rab⟩ : ∃ v : Int, M 191 4 = v ∧ (0 ≤ v ∧ v ≤ 10) := by
    obtain ⟨v, hv, rv⟩ := gRd I (by decide) (gsz hsz (by decide)) (rs_NA (k := 4) (by omega)).1
    exact ⟨v, hv, by omega⟩
  have hRm : cs + 0 ≤ room_1.cells ∧ ss + 0 ≤ room_1.slots := by
    show cs + 0 ≤ 349274 ∧ ss + 0 ≤ 8054428
    have := lwK.room LK
    omega
  obtain ⟨u1, eu1, ru1⟩ : ∃ z : Int, xs (i + 1).toNat = Int32.ofInt z ∧ (-2147483648 ≤ z ∧ z ≤ 2147483647) := ⟨_, gi_of _, gi_rg _⟩
  obtain ⟨u2, eu2, ru2⟩ : ∃ z : Int, xs (i + 2).toNat = Int32.ofInt z ∧ (-2147483648 ≤ z ∧ z ≤ 2147483647) := ⟨_, gi_of _, gi_rg _⟩
  obtain ⟨u3, eu3, ru3⟩ : ∃ z : Int, xs (i + 3).toNat = Int32.ofInt z ∧ (-2147483648 ≤ z ∧ z ≤ 2147483647) := ⟨_, gi_of _, gi_rg _⟩
  obtain ⟨u4, eu4, ru4⟩ : ∃ z : Int, xs (i + 4).toNat = Int32.ofInt z ∧ (-2147483648 ≤ z ∧ z ≤ 2147483647) := ⟨_, gi_of _, gi_rg _⟩
  obtain ⟨u5, eu5, ru5⟩ : ∃ z : Int, xs (i + 5).toNat = Int32.ofInt z ∧ (-2147483648 ≤ z ∧ z ≤ 2147483647) := ⟨_, gi_of _, gi_rg _⟩
  obtain ⟨u6, eu6, ru6⟩ : ∃ z : Int, xs (i + 6).toNat = Int32.ofInt z ∧ (-2147483648 ≤ z ∧ z ≤ 2147483647) := ⟨_, gi_of _, gi_rg _⟩
  refine g_aload_n (n := 1832) X 2 dL_law_1831 rfl rfl rfl ?_
  refine g_aload_n (n := 1833) X 3 dL_law_1832 rfl rfl rfl ?_
  refine g_iload_n (n := 1834) X 0 dL_law_1833 rfl rfl rfl ?_
  refine g_iconst (n := 1835) X dL_law_1834 rfl ?_
  refine g_iadd (n := 1836) (z := i + 1) X dL_law_1835 (by omega) rfl ?_
  refine g_scrld (n := 1837) (z := u1) X hb (by omega) (by omega) (by omega) dL_law_1836 rfl eu1 ?_
  refine g_callVi (n := 1840) (As := [gJ u1]) (rest := []) (cs1 := cs) (ss1 := ss) X (s_X11_plan u1 (by omega) hsz I C ) okX11_plan kw_5_145 ⟨kw_5_146, kw_5_147⟩ ⟨rfl, rfl⟩ ⟨Nat.le_of_ble_eq_true rfl, Nat.le_of_ble_eq_true rfl⟩ rfl (by decide) (gsz hsz (by decide)) lay_0 rfl rfl (Nat.le_of_ble_eq_true rfl) hRm rfl rfl dL_law_1837 rfl (fun v1 M2 P3 => ?_)
  obtain ⟨rv1, IM2, CM2, FM2, xM2⟩ := P3
  refine g_pop (n := 1841) X dL_law_1840 rfl rfl ?_
  refine g_aload_n (n := 1842) X 1 dL_law_1841 rfl rfl rfl ?_
  refine g_aload_n (n := 1843) X 3 dL_law_1842 rfl rfl rfl ?_
  refine g_iload_n (n := 1844) X 0 dL_law_1843 rfl rfl rfl ?_
  refine g_iconst (n := 1845) X dL_law_1844 rfl ?_
  refine g_iadd (n := 1846) (z := i + 1) X dL_law_1845 (by omega) rfl ?_
  refine g_scrld (n := 1847) (z := u1) X hb (by omega) (by omega) (by omega) dL_law_1846 rfl eu1 ?_
  refine g_callVi (n := 1850) (As := [gJ u1]) (rest := []) (cs1 := cs) (ss1 := ss) X (s_X12_plan u1 (by omega) hsz IM2 CM2 (gW.fr (S := 3271686264) W ⟨sz, hsz, I⟩ (gFr.c gFr.rf FM2 rfl) rfl)) okX12_plan kw_8_1 ⟨kw_8_2, kw_8_3⟩ ⟨rfl, rfl⟩ ⟨Nat.le_of_ble_eq_true rfl, Nat.le_of_ble_eq_true rfl⟩ rfl (by decide) (gsz hsz (by decide)) lay_190 rfl rfl (Nat.le_of_ble_eq_true rfl) hRm rfl rfl dL_law_1847 rfl (fun v4 M5 P6 => ?_)
  obtain ⟨rv4, IM5, CM5, FM5, xM5⟩ := P6
  refine g_pop (n := 1851) X dL_law_1850 rfl rfl ?_
  refine g_goto (tgt := 1992) X dL_law_1851 (by decide) ?_
  exact kk _ _ _ _ ⟨hsz, IM5, CM5, (gW.eq (gW.fr (S := 3271686264) W ⟨sz, hsz, I⟩ (gFr.c gFr.rf FM2 rfl) rfl) IM2 ⟨by decide, gsz hsz (by decide)⟩ (fun _ => rfl) xM5), (by rw [((gFr.at FM5 rc_1_13.2.2 rfl).trans (gFr.at FM2 rc_1_13.2.2 rfl))]; exact LA), (by rw [((xM5 4 (by omega) (by omega)).trans (gFr.at FM2 (rs_NA (k := 4) (by omega)).2.2 rfl))]; exact LB), (lwK.fr LK ((gFr.c (gFr.c gFr.rf FM2 rfl) FM5 rfl) : gFr 3559081726569396696476940408 M M5) rfl), ⟨(rl_now.mv (rl_now.mv LR.1 (xM2).2.2.2.2.2.2.2.2.2.2.2 (gFr.at FM2 (rs_NOW (k := 0) (by omega)).2.2 rfl)) (gFr.at FM5 rc_1_15.2.2 rfl) (xM5 0 (by omega) (by omega))), (rl_npers.mv (rl_npers.fr LR.2.1 hN FM2 rfl) (gFr.at FM5 rc_1_10.2.2 rfl) (xM5 1 (by omega) (by omega))), (rl_sex.mv (rl_sex.mv LR.2.2.1 (gFr.at FM2 rc_1_10.2.2 rfl) (fun p h0 h1 => (xM2).1 p 0 h0 h1 (by omega)) (fun b h0 h1 => gFr.at FM2 (rs_SEX (k := b + 80) (by omega)).2.2 rfl)) (gFr.at FM5 rc_1_10.2.2 rfl) (fun p h0 h1 => gFr.at FM5 (rP_0 (o := 31 + p) (by have := (gN_of hsz IM2); omega)).2.2 rfl) (fun b h0 h1 => xM5 (b + 80) (by omega) (by omega))), (rl_born.mv (rl_born.mv LR.2.2.2.1 (gFr.at FM2 rc_1_10.2.2 rfl) (fun p h0 h1 => (xM2).1 p 1 h0 h1 (by omega)) (fun b h0 h1 => gFr.at FM2 (rs_BORN (k := b + 96) (by omega)).2.2 rfl)) (gFr.at FM5 rc_1_10.2.2 rfl) (fun p h0 h1 => gFr.at FM5 (rP_1 (o := 31 + p) (by have := (gN_of hsz IM2); omega)).2.2 rfl) (fun b h0 h1 => xM5 (b + 96) (by omega) (by omega))), (rl_nright.mv (rl_nright.fr LR.2.2.2.2.1 hN FM2 rfl) (gFr.at FM5 rc_1_11.2.2 rfl) (xM5 2 (by omega) (by omega))), (rl_nent.mv (rl_nent.fr LR.2.2.2.2.2.1 hN FM2 rfl) (gFr.at FM5 rc_1_12.2.2 rfl) (xM5 3 (by omega) (by omega))), (rl_rkind.mv (rl_rkind.fr LR.2.2.2.2.2.2.1 hN FM2 rfl) (gFr.at FM5 rc_1_11.2.2 rfl) (fun p h0 h1 => gFr.at FM5 (rR_0 (o := 47 + p) (by have := (gN_of hsz IM2); omega)).2.2 rfl) (fun b h0 h1 => xM5 (b + 256) (by omega) (by omega))), (rl_rwho.mv (rl_rwho.fr LR.2.2.2.2.2.2.2.1 hN FM2 rfl) (gFr.at FM5 rc_1_11.2.2 rfl) (fun p h0 h1 => gFr.at FM5 (rR_1 (o := 47 + p) (by have := (gN_of hsz IM2); omega)).2.2 rfl) (fun b h0 h1 => xM5 (b + 296) (by omega) (by omega))), (rl_rto.mv (rl_rto.fr LR.2.2.2.2.2.2.2.2.1 hN FM2 rfl) (gFr.at FM5 rc_1_11.2.2 rfl) (fun p h0 h1 => gFr.at FM5 (rR_2 (o := 47 + p) (by have := (gN_of hsz IM2); omega)).2.2 rfl) (fun b h0 h1 => xM5 (b + 336) (by omega) (by omega))), (rl_rn.mv (rl_rn.fr LR.2.2.2.2.2.2.2.2.2.1 hN FM2 rfl) (gFr.at FM5 rc_1_11.2.2 rfl) (fun p h0 h1 => gFr.at FM5 (rR_3 (o := 47 + p) (by have := (gN_of hsz IM2); omega)).2.2 rfl) (fun b h0 h1 => xM5 (b + 376) (by omega) (by omega))), (rl_rweek.mv (rl_rweek.fr LR.2.2.2.2.2.2.2.2.2.2.1 hN FM2 rfl) (gFr.at FM5 rc_1_11.2.2 rfl) (fun p h0 h1 => gFr.at FM5 (rR_4 (o := 47 + p) (by have := (gN_of hsz IM2); omega)).2.2 rfl) (fun b h0 h1 => xM5 (b + 416) (by omega) (by omega))), (rl_rsure.mv (rl_rsure.fr LR.2.2.2.2.2.2.2.2.2.2.2.1 hN FM2 rfl) (gFr.at FM5 rc_1_11.2.2 rfl) (fun p h0 h1 => gFr.at FM5 (rR_5 (o := 47 + p) (by have := (gN_of hsz IM2); omega)).2.2 rfl) (fun b h0 h1 => xM5 (b + 456) (by omega) (by omega))), (rl_proofs.mv (rl_proofs.fr LR.2.2.2.2.2.2.2.2.2.2.2.2 hN FM2 rfl) (gFr.at FM5 rc_1_11.2.2 rfl) (fun p h0 h1 => gFr.at FM5 (rR_6 (o := 47 + p) (by have := (gN_of hsz IM2); omega)).2.2 rfl) (fun p h0 h1 => gFr.at FM5 (rR_7 (o := 47 + p) (by have := (gN_of hsz IM2); omega)).2.2 rfl) (fun p h0 h1 => gFr.at FM5 (rR_8 (o := 47 + p) (by have := (gN_of hsz IM2); omega)).2.2 rfl) (xM5 3 (by omega) (by omega)) (fun b h0 h1 => xM5 (b + 496) (by omega) (by omega)) (fun b h0 h1 => xM5 (b + 576) (by omega) (by omega)))⟩⟩
