theorem dL_law_1590 : decode code 1590 = .ok (.aload_n 1, 1) := by decide +kernel
theorem dL_law_1591 : decode code 1591 = .ok (.aload_n 0, 1) := by decide +kernel
theorem dL_law_1592 : decode code 1592 = .ok (.iload_n 3, 1) := by decide +kernel
theorem dL_law_1593 : decode code 1593 = .ok (.iconst 1, 1) := by decide +kernel
theorem dL_law_1594 : decode code 1594 = .ok (.iadd, 1) := by decide +kernel
theorem dL_law_1595 : decode code 1595 = .ok (.iaload, 1) := by decide +kernel
theorem dL_law_1596 : decode code 1596 = .ok (.invokevirtual 153, 3) := by decide +kernel
theorem kw_5_90 : (Jvm.Cond.methodLink "ParishUnionLaw" (153 : Nat) ({ cls := "ParishUnion", name := "one", desc := "(I)I" } : Jvm.MethodName)) ∈ gT := gT_of (tb_5 _ (List.mem_of_getElem? (i := 90) rfl)) rfl
theorem kw_5_93 : (Jvm.Cond.code ({ cls := "ParishUnion", name := "one", desc := "(I)I" } : Jvm.MethodName) prog_1_method_34_code (2 : Nat) (Option.some Jvm.ClassFile.FieldType.int)) ∈ gT := gT_of (tb_5 _ (List.mem_of_getElem? (i := 93) rfl)) rfl
theorem okX11_one : gQok yX11_one cX11_one 2 (Option.some Jvm.ClassFile.FieldType.int) 1 := ⟨kw_5_93, kw_1_1, by decide +kernel, by decide +kernel, by decide +kernel⟩
theorem kw_5_91 : (Jvm.Cond.instanceMethod ({ cls := "ParishUnion", name := "one", desc := "(I)I" } : Jvm.MethodName)) ∈ gT := gT_of (tb_5 _ (List.mem_of_getElem? (i := 91) rfl)) rfl
theorem kw_5_92 : (Jvm.Cond.selects "ParishUnion" ({ cls := "ParishUnion", name := "one", desc := "(I)I" } : Jvm.MethodName) ({ cls := "ParishUnion", name := "one", desc := "(I)I" } : Jvm.MethodName)) ∈ gT := gT_of (tb_5 _ (List.mem_of_getElem? (i := 92) rfl)) rfl
theorem dL_law_1599 : decode code 1599 = .ok (.aload_n 2, 1) := by decide +kernel
theorem dL_law_1600 : decode code 1600 = .ok (.aload_n 0, 1) := by decide +kernel
theorem dL_law_1601 : decode code 1601 = .ok (.iload_n 3, 1) := by decide +kernel
theorem dL_law_1602 : decode code 1602 = .ok (.iconst 1, 1) := by decide +kernel
theorem dL_law_1603 : decode code 1603 = .ok (.iadd, 1) := by decide +kernel
theorem dL_law_1604 : decode code 1604 = .ok (.iaload, 1) := by decide +kernel
theorem dL_law_1605 : decode code 1605 = .ok (.invokevirtual 156, 3) := by decide +kernel
theorem kw_7_204 : (Jvm.Cond.methodLink "ParishUnionLaw" (156 : Nat) ({ cls := "ParishUnionModel", name := "one", desc := "(I)I" } : Jvm.MethodName)) ∈ gT := gT_of (tb_7 _ (List.mem_of_getElem? (i := 204) rfl)) rfl
theorem kw_7_207 : (Jvm.Cond.code ({ cls := "ParishUnionModel", name := "one", desc := "(I)I" } : Jvm.MethodName) prog_14_method_89_code (2 : Nat) (Option.some Jvm.ClassFile.FieldType.int)) ∈ gT := gT_of (tb_7 _ (List.mem_of_getElem? (i := 207) rfl)) rfl
theorem okX12_one : gQok yX12_one cX12_one 2 (Option.some Jvm.ClassFile.FieldType.int) 1 := ⟨kw_7_207, kw_1_13, by decide +kernel, by decide +kernel, by decide +kernel⟩
theorem kw_7_205 : (Jvm.Cond.instanceMethod ({ cls := "ParishUnionModel", name := "one", desc := "(I)I" } : Jvm.MethodName)) ∈ gT := gT_of (tb_7 _ (List.mem_of_getElem? (i := 205) rfl)) rfl
theorem kw_7_206 : (Jvm.Cond.selects "ParishUnionModel" ({ cls := "ParishUnionModel", name := "one", desc := "(I)I" } : Jvm.MethodName) ({ cls := "ParishUnionModel", name := "one", desc := "(I)I" } : Jvm.MethodName)) ∈ gT := gT_of (tb_7 _ (List.mem_of_getElem? (i := 206) rfl)) rfl
theorem dL_law_1608 : decode code 1608 = .ok (.if_icmp .eq 384, 3) := by decide +kernel
set_option maxRecDepth 100000 in
set_option maxHeartbeats 4000000 in
theorem law_case_32 {p : Program} {e : Env} {s : State} {m : MethodId} {below : List Frame} {meth : Method} {c : Code} {l : Launch} {D : va_G} {cA : Nat → ClassId} {b : Nat} {xs : Nat → Int32} (X : gCx p s m #[Value.ref b] meth c s.heap.size D cA "ParishUnionLaw" code 4) (hr : meth.sig.returnType = ret) (hb : b < s.heap.size ∧ va_X b 7 xs s s.heap) {M : gM} (hFr : gFr M) : G p l e room_1 s m #[Value.ref b] below meth c s.heap.size D cA 4 (lw_Z below #[Value.ref b] s) 206 87467 M 206 1590 [(3, gJ 0), (2, gA s.heap.size 190), (1, gA s.heap.size 0), (0, .ref b)] [] := by
  obtain ⟨f_0_0, f_0_1, f_0_2, f_0_3, f_0_4, f_0_5, f_0_6, f_0_7, f_0_8, f_0_9, f_1_0, f_1_1, f_1_2, f_1_3, f_1_4, f_1_5, f_1_6, f_1_7, f_1_8, f_1_9, f_1_10, f_1_11, f_1_12, f_1_13, f_1_14, f_1_15, f_2_0, f_2_1, f_5_0, f_7_0, f_9_0, f_9_1, f_9_2, f_9_3, f_9_4, f_9_5, f_15_0, f_15_1, f_15_2, f_15_3, f_15_4, f_15_5, f_15_6, f_15_7, f_15_8, f_15_9, f_23_0, f_23_1, f_26_0, f_26_1, f_26_2, f_26_3, f_87_0, f_87_1, f_87_2, f_87_3, f_87_4, f_153_0, f_153_1, f_153_2, f_153_3, f_153_4, f_159_0, f_190_0, f_190_1, f_190_2, f_190_3, f_190_4, f_190_5, f_190_6, f_190_7, f_190_8, f_190_9, f_190_10, f_190_11, f_190_12, f_190_13, f_190_14, f_190_15, f_190_16, f_190_17, f_190_18, f_190_19, f_190_20, f_190_21, f_190_22, f_190_23, rents, way, beds, frost0, rows0, rooms0, tape0, car0, hS⟩ := hFr
  obtain ⟨v0, e0, r0⟩ : ∃ z : Int, xs 0 = Int32.ofInt z ∧ -2147483648 ≤ z ∧ z ≤ 2147483647 := ⟨_, gi_of _, gi_rg _⟩
  obtain ⟨v1, e1, r1⟩ : ∃ z : Int, xs 1 = Int32.ofInt z ∧ -2147483648 ≤ z ∧ z ≤ 2147483647 := ⟨_, gi_of _, gi_rg _⟩
  obtain ⟨v2, e2, r2⟩ : ∃ z : Int, xs 2 = Int32.ofInt z ∧ -2147483648 ≤ z ∧ z ≤ 2147483647 := ⟨_, gi_of _, gi_rg _⟩
  obtain ⟨v3, e3, r3⟩ : ∃ z : Int, xs 3 = Int32.ofInt z ∧ -2147483648 ≤ z ∧ z ≤ 2147483647 := ⟨_, gi_of _, gi_rg _⟩
  obtain ⟨v4, e4, r4⟩ : ∃ z : Int, xs 4 = Int32.ofInt z ∧ -2147483648 ≤ z ∧ z ≤ 2147483647 := ⟨_, gi_of _, gi_rg _⟩
  obtain ⟨v5, e5, r5⟩ : ∃ z : Int, xs 5 = Int32.ofInt z ∧ -2147483648 ≤ z ∧ z ≤ 2147483647 := ⟨_, gi_of _, gi_rg _⟩
  obtain ⟨v6, e6, r6⟩ : ∃ z : Int, xs 6 = Int32.ofInt z ∧ -2147483648 ≤ z ∧ z ≤ 2147483647 := ⟨_, gi_of _, gi_rg _⟩
  refine g_aload_n (n := 1591) X 2 dL_law_1590 rfl rfl rfl ?_
  refine g_aload_n (n := 1592) X 3 dL_law_1591 rfl rfl rfl ?_
  refine g_iload_n (n := 1593) X 0 dL_law_1592 rfl rfl rfl ?_
  refine g_iconst (n := 1594) X dL_law_1593 rfl ?_
  refine g_iadd (n := 1595) (z := 1) X dL_law_1594 rfl rfl ?_
  refine g_scrld (n := 1596) (z := v1) X hb (by omega) (by omega) (by omega) dL_law_1595 rfl e1 ?_
  refine g_callVi (n := 1599) (As := [gJ v1]) (rest := []) (cs1 := 206) (ss1 := 87467) X (c_X11_one v1 (by omega) (by omega) f_0_0 f_1_8 f_1_0 f_26_3) okX11_one kw_5_90 ⟨kw_5_91, kw_5_92⟩ ⟨rfl, rfl⟩ ⟨Nat.le_of_ble_eq_true rfl, Nat.le_of_ble_eq_true rfl⟩ rfl (by omega) (by omega) lay_0 rfl rfl (Nat.le_of_ble_eq_true rfl) ⟨Nat.le_of_ble_eq_true rfl, Nat.le_of_ble_eq_true rfl⟩ rfl rfl dL_law_1596 rfl (fun z1 M2 P3 => ?_)
  obtain ⟨P3, F4⟩ := P3
  refine g_aload_n (n := 1600) X 1 dL_law_1599 rfl rfl rfl ?_
  refine g_aload_n (n := 1601) X 3 dL_law_1600 rfl rfl rfl ?_
  refine g_iload_n (n := 1602) X 0 dL_law_1601 rfl rfl rfl ?_
  refine g_iconst (n := 1603) X dL_law_1602 rfl ?_
  refine g_iadd (n := 1604) (z := 1) X dL_law_1603 rfl rfl ?_
  refine g_scrld (n := 1605) (z := v1) X hb (by omega) (by omega) (by omega) dL_law_1604 rfl e1 ?_
  refine g_callVi (n := 1608) (As := [gJ v1]) (rest := [gJ z1]) (cs1 := 206) (ss1 := 87467) X (c_X12_one v1 (by omega) (by omega) ((congrFun (F4 190) _).trans f_190_1) ((congrFun (F4 191) _).trans ((hS 6 (by omega) (by omega)).trans (by decide)))) okX12_one kw_7_204 ⟨kw_7_205, kw_7_206⟩ ⟨rfl, rfl⟩ ⟨Nat.le_of_ble_eq_true rfl, Nat.le_of_ble_eq_true rfl⟩ rfl (by omega) (by omega) lay_190 rfl rfl (Nat.le_of_ble_eq_true rfl) ⟨Nat.le_of_ble_eq_true rfl, Nat.le_of_ble_eq_true rfl⟩ rfl rfl dL_law_1605 rfl (fun z5 M6 P7 => ?_)
  obtain ⟨P7, F8⟩ := P7
  refine g_icmp_eq (n := 1611) (tgt := 1992) X dL_law_1608 (by decide) (by omega) (by omega) rfl (fun c9 => ?_) (fun c9 => by exfalso; omega)
  exact law_tail X hr hb (by omega) (by omega)
theorem dL_law_1613 : decode code 1613 = .ok (.aload_n 1, 1) := by decide +kernel
theorem dL_law_1614 : decode code 1614 = .ok (.invokevirtual 157, 3) := by decide +kernel
theorem kw_5_99 : (Jvm.Cond.methodLink "ParishUnionLaw" (157 : Nat) ({ cls := "ParishUnion", name := "greatest", desc := "()I" } : Jvm.MethodName)) ∈ gT := gT_of (tb_5 _ (List.mem_of_getElem? (i := 99) rfl)) rfl
theorem kw_5_102 : (Jvm.Cond.code ({ cls := "ParishUnion", name := "greatest", desc := "()I" } : Jvm.MethodName) prog_1_method_35_code (1 : Nat) (Option.some Jvm.ClassFile.FieldType.int)) ∈ gT := gT_of (tb_5 _ (List.mem_of_getElem? (i := 102) rfl)) rfl
theorem okX11_greatest : gQok yX11_greatest cX11_greatest 1 (Option.some Jvm.ClassFile.FieldType.int) 0 := ⟨kw_5_102, kw_1_1, by decide +kernel, by decide +kernel, by decide +kernel⟩
theorem kw_5_100 : (Jvm.Cond.instanceMethod ({ cls := "ParishUnion", name := "greatest", desc := "()I" } : Jvm.MethodName)) ∈ gT := gT_of (tb_5 _ (List.mem_of_getElem? (i := 100) rfl)) rfl
theorem kw_5_101 : (Jvm.Cond.selects "ParishUnion" ({ cls := "ParishUnion", name := "greatest", desc := "()I" } : Jvm.MethodName) ({ cls := "ParishUnion", name := "greatest", desc := "()I" } : Jvm.MethodName)) ∈ gT := gT_of (tb_5 _ (List.mem_of_getElem? (i := 101) rfl)) rfl
theorem dL_law_1617 : decode code 1617 = .ok (.aload_n 2, 1) := by decide +kernel
theorem dL_law_1618 : decode code 1618 = .ok (.invokevirtual 161, 3) := by decide +kernel
theorem kw_7_216 : (Jvm.Cond.methodLink "ParishUnionLaw" (161 : Nat) ({ cls := "ParishUnionModel", name := "greatest", desc := "()I" } : Jvm.MethodName)) ∈ gT := gT_of (tb_7 _ (List.mem_of_getElem? (i := 216) rfl)) rfl
theorem kw_7_219 : (Jvm.Cond.code ({ cls := "ParishUnionModel", name := "greatest", desc := "()I" } : Jvm.MethodName) prog_14_method_90_code (5 : Nat) (Option.some Jvm.ClassFile.FieldType.int)) ∈ gT := gT_of (tb_7 _ (List.mem_of_getElem? (i := 219) rfl)) rfl
theorem okX12_greatest : gQok yX12_greatest cX12_greatest 5 (Option.some Jvm.ClassFile.FieldType.int) 0 := ⟨kw_7_219, kw_1_13, by decide +kernel, by decide +kernel, by decide +kernel⟩
theorem kw_7_217 : (Jvm.Cond.instanceMethod ({ cls := "ParishUnionModel", name := "greatest", desc := "()I" } : Jvm.MethodName)) ∈ gT := gT_of (tb_7 _ (List.mem_of_getElem? (i := 217) rfl)) rfl
theorem kw_7_218 : (Jvm.Cond.selects "ParishUnionModel" ({ cls := "ParishUnionModel", name := "greatest", desc := "()I" } : Jvm.MethodName) ({ cls := "ParishUnionModel", name := "greatest", desc := "()I" } : Jvm.MethodName)) ∈ gT := gT_of (tb_7 _ (List.mem_of_getElem? (i := 218) rfl)) rfl
theorem dL_law_1621 : decode code 1621 = .ok (.if_icmp .eq 371, 3) := by decide +kernel
set_option maxRecDepth 100000 in
set_option maxHeartbeats 4000000 in
theorem law_case_33 {p : Program} {e : Env} {s : State} {m : MethodId} {below : List Frame} {meth : Method} {c : Code} {l : Launch} {D : va_G} {cA : Nat → ClassId} {b : Nat} {xs : Nat → Int32} (X : gCx p s m #[Value.ref b] meth c s.heap.size D cA "ParishUnionLaw" code 4) (hr : meth.sig.returnType = ret) (hb : b < s.heap.size ∧ va_X b 7 xs s s.heap) {M : gM} (hFr : gFr M) : G p l e room_1 s m #[Value.ref b] below meth c s.heap.size D cA 4 (lw_Z below #[Value.ref b] s) 206 87467 M 206 1613 [(3, gJ 0), (2, gA s.heap.size 190), (1, gA s.heap.size 0), (0, .ref b)] [] := by
  obtain ⟨f_0_0, f_0_1, f_0_2, f_0_3, f_0_4, f_0_5, f_0_6, f_0_7, f_0_8, f_0_9, f_1_0, f_1_1, f_1_2, f_1_3, f_1_4, f_1_5, f_1_6, f_1_7, f_1_8, f_1_9, f_1_10, f_1_11, f_1_12, f_1_13, f_1_14, f_1_15, f_2_0, f_2_1, f_5_0, f_7_0, f_9_0, f_9_1, f_9_2, f_9_3, f_9_4, f_9_5, f_15_0, f_15_1, f_15_2, f_15_3, f_15_4, f_15_5, f_15_6, f_15_7, f_15_8, f_15_9, f_23_0, f_23_1, f_26_0, f_26_1, f_26_2, f_26_3, f_87_0, f_87_1, f_87_2, f_87_3, f_87_4, f_153_0, f_153_1, f_153_2, f_153_3, f_153_4, f_159_0, f_190_0, f_190_1, f_190_2, f_190_3, f_190_4, f_190_5, f_190_6, f_190_7, f_190_8, f_190_9, f_190_10, f_190_11, f_190_12, f_190_13, f_190_14, f_190_15, f_190_16, f_190_17, f_190_18, f_190_19, f_190_20, f_190_21, f_190_22, f_190_23, rents, way, beds, frost0, rows0, rooms0, tape0, car0, hS⟩ := hFr
  obtain ⟨v0, e0, r0⟩ : ∃ z : Int, xs 0 = Int32.ofInt z ∧ -2147483648 ≤ z ∧ z ≤ 2147483647 := ⟨_, gi_of _, gi_rg _⟩
  obtain ⟨v1, e1, r1⟩ : ∃ z : Int, xs 1 = Int32.ofInt z ∧ -2147483648 ≤ z ∧ z ≤ 2147483647 := ⟨_, gi_of _, gi_rg _⟩
  obtain ⟨v2, e2, r2⟩ : ∃ z : Int, xs 2 = Int32.ofInt z ∧ -2147483648 ≤ z ∧ z ≤ 2147483647 := ⟨_, gi_of _, gi_rg _⟩
  obtain ⟨v3, e3, r3⟩ : ∃ z : Int, xs 3 = Int32.ofInt z ∧ -2147483648 ≤ z ∧ z ≤ 2147483647 := ⟨_, gi_of _, gi_rg _⟩
  obtain ⟨v4, e4, r4⟩ : ∃ z : Int, xs 4 = Int32.ofInt z ∧ -2147483648 ≤ z ∧ z ≤ 2147483647 := ⟨_, gi_of _, gi_rg _⟩
  obtain ⟨v5, e5, r5⟩ : ∃ z : Int, xs 5 = Int32.ofInt z ∧ -2147483648 ≤ z ∧ z ≤ 2147483647 := ⟨_, gi_of _, gi_rg _⟩
  obtain ⟨v6, e6, r6⟩ : ∃ z : Int, xs 6 = Int32.ofInt z ∧ -2147483648 ≤ z ∧ z ≤ 2147483647 := ⟨_, gi_of _, gi_rg _⟩
  refine g_aload_n (n := 1614) X 2 dL_law_1613 rfl rfl rfl ?_
  refine g_callVi (n := 1617) (As := []) (rest := []) (cs1 := 206) (ss1 := 87467) X (c_X11_greatest (by omega) f_0_0 f_1_8 f_1_0 f_26_3) okX11_greatest kw_5_99 ⟨kw_5_100, kw_5_101⟩ ⟨rfl, rfl⟩ ⟨Nat.le_of_ble_eq_true rfl, Nat.le_of_ble_eq_true rfl⟩ rfl (by omega) (by omega) lay_0 rfl rfl (Nat.le_of_ble_eq_true rfl) ⟨Nat.le_of_ble_eq_true rfl, Nat.le_of_ble_eq_true rfl⟩ rfl rfl dL_law_1614 rfl (fun z1 M2 P3 => ?_)
  obtain ⟨P3, F4⟩ := P3
  refine g_aload_n (n := 1618) X 1 dL_law_1617 rfl rfl rfl ?_
  refine g_callVi (n := 1621) (As := []) (rest := [gJ z1]) (cs1 := 206) (ss1 := 87467) X (c_X12_greatest (by omega) ((congrFun (F4 190) _).trans f_190_1) ((congrFun (F4 191) _).trans ((hS 6 (by omega) (by omega)).trans (by decide)))) okX12_greatest kw_7_216 ⟨kw_7_217, kw_7_218⟩ ⟨rfl, rfl⟩ ⟨Nat.le_of_ble_eq_true rfl, Nat.le_of_ble_eq_true rfl⟩ rfl (by omega) (by omega) lay_190 rfl rfl (Nat.le_of_ble_eq_true rfl) ⟨Nat.le_of_ble_eq_true rfl, Nat.le_of_ble_eq_true rfl⟩ rfl rfl dL_law_1618 rfl (fun z5 M6 P7 => ?_)
  obtain ⟨P7, F8⟩ := P7
  refine g_icmp_eq (n := 1624) (tgt := 1992) X dL_law_1621 (by decide) (by omega) (by omega) rfl (fun c9 => ?_) (fun c9 => by exfalso; omega)
  exact law_tail X hr hb (by omega) (by omega)
theorem dL_law_1626 : decode code 1626 = .ok (.aload_n 1, 1) := by decide +kernel
theorem dL_law_1627 : decode code 1627 = .ok (.aload_n 0, 1) := by decide +kernel
theorem dL_law_1628 : decode code 1628 = .ok (.iload_n 3, 1) := by decide +kernel
theorem dL_law_1629 : decode code 1629 = .ok (.iconst 1, 1) := by decide +kernel
theorem dL_law_1630 : decode code 1630 = .ok (.iadd, 1) := by decide +kernel
theorem dL_law_1631 : decode code 1631 = .ok (.iaload, 1) := by decide +kernel
theorem dL_law_1632 : decode code 1632 = .ok (.aload_n 0, 1) := by decide +kernel
theorem dL_law_1633 : decode code 1633 = .ok (.iload_n 3, 1) := by decide +kernel
theorem dL_law_1634 : decode code 1634 = .ok (.iconst 2, 1) := by decide +kernel
theorem dL_law_1635 : decode code 1635 = .ok (.iadd, 1) := by decide +kernel
theorem dL_law_1636 : decode code 1636 = .ok (.iaload, 1) := by decide +kernel
theorem dL_law_1637 : decode code 1637 = .ok (.invokevirtual 162, 3) := by decide +kernel
theorem kw_5_109 : (Jvm.Cond.methodLink "ParishUnionLaw" (162 : Nat) ({ cls := "ParishUnion", name := "master", desc := "(II)I" } : Jvm.MethodName)) ∈ gT := gT_of (tb_5 _ (List.mem_of_getElem? (i := 109) rfl)) rfl
theorem kw_5_112 : (Jvm.Cond.code ({ cls := "ParishUnion", name := "master", desc := "(II)I" } : Jvm.MethodName) prog_1_method_36_code (4 : Nat) (Option.some Jvm.ClassFile.FieldType.int)) ∈ gT := gT_of (tb_5 _ (List.mem_of_getElem? (i := 112) rfl)) rfl
theorem okX11_master : gQok yX11_master cX11_master 4 (Option.some Jvm.ClassFile.FieldType.int) 2 := ⟨kw_5_112, kw_1_1, by decide +kernel, by decide +kernel, by decide +kernel⟩
theorem kw_5_110 : (Jvm.Cond.instanceMethod ({ cls := "ParishUnion", name := "master", desc := "(II)I" } : Jvm.MethodName)) ∈ gT := gT_of (tb_5 _ (List.mem_of_getElem? (i := 110) rfl)) rfl
theorem kw_5_111 : (Jvm.Cond.selects "ParishUnion" ({ cls := "ParishUnion", name := "master", desc := "(II)I" } : Jvm.MethodName) ({ cls := "ParishUnion", name := "master", desc := "(II)I" } : Jvm.MethodName)) ∈ gT := gT_of (tb_5 _ (List.mem_of_getElem? (i := 111) rfl)) rfl
theorem dL_law_1640 : decode code 1640 = .ok (.aload_n 2, 1) := by decide +kernel
theorem dL_law_1641 : decode code 1641 = .ok (.aload_n 0, 1) := by decide +kernel
theorem dL_law_1642 : decode code 1642 = .ok (.iload_n 3, 1) := by decide +kernel
theorem dL_law_1643 : decode code 1643 = .ok (.iconst 1, 1) := by decide +kernel
theorem dL_law_1644 : decode code 1644 = .ok (.iadd, 1) := by decide +kernel
theorem dL_law_1645 : decode code 1645 = .ok (.iaload, 1) := by decide +kernel
theorem dL_law_1646 : decode code 1646 = .ok (.aload_n 0, 1) := by decide +kernel
theorem dL_law_1647 : decode code 1647 = .ok (.iload_n 3, 1) := by decide +kernel
theorem dL_law_1648 : decode code 1648 = .ok (.iconst 2, 1) := by decide +kernel
theorem dL_law_1649 : decode code 1649 = .ok (.iadd, 1) := by decide +kernel
theorem dL_law_1650 : decode code 1650 = .ok (.iaload, 1) := by decide +kernel
theorem dL_law_1651 : decode code 1651 = .ok (.invokevirtual 165, 3) := by decide +kernel
theorem kw_7_220 : (Jvm.Cond.methodLink "ParishUnionLaw" (165 : Nat) ({ cls := "ParishUnionModel", name := "master", desc := "(II)I" } : Jvm.MethodName)) ∈ gT := gT_of (tb_7 _ (List.mem_of_getElem? (i := 220) rfl)) rfl
theorem kw_7_223 : (Jvm.Cond.code ({ cls := "ParishUnionModel", name := "master", desc := "(II)I" } : Jvm.MethodName) prog_14_method_91_code (4 : Nat) (Option.some Jvm.ClassFile.FieldType.int)) ∈ gT := gT_of (tb_7 _ (List.mem_of_getElem? (i := 223) rfl)) rfl
theorem okX12_master : gQok yX12_master cX12_master 4 (Option.some Jvm.ClassFile.FieldType.int) 2 := ⟨kw_7_223, kw_1_13, by decide +kernel, by decide +kernel, by decide +kernel⟩
theorem kw_7_221 : (Jvm.Cond.instanceMethod ({ cls := "ParishUnionModel", name := "master", desc := "(II)I" } : Jvm.MethodName)) ∈ gT := gT_of (tb_7 _ (List.mem_of_getElem? (i := 221) rfl)) rfl
theorem kw_7_222 : (Jvm.Cond.selects "ParishUnionModel" ({ cls := "ParishUnionModel", name := "master", desc := "(II)I" } : Jvm.MethodName) ({ cls := "ParishUnionModel", name := "master", desc := "(II)I" } : Jvm.MethodName)) ∈ gT := gT_of (tb_7 _ (List.mem_of_getElem? (i := 222) rfl)) rfl
theorem dL_law_1654 : decode code 1654 = .ok (.if_icmp .eq 338, 3) := by decide +kernel
set_option maxRecDepth 100000 in
set_option maxHeartbeats 4000000 in
theorem law_case_34 {p : Program} {e : Env} {s : State} {m : MethodId} {below : List Frame} {meth : Method} {c : Code} {l : Launch} {D : va_G} {cA : Nat → ClassId} {b : Nat} {xs : Nat → Int32} (X : gCx p s m #[Value.ref b] meth c s.heap.size D cA "ParishUnionLaw" code 4) (hr : meth.sig.returnType = ret) (hb : b < s.heap.size ∧ va_X b 7 xs s s.heap) {M : gM} (hFr : gFr M) : G p l e room_1 s m #[Value.ref b] below meth c s.heap.size D cA 4 (lw_Z below #[Value.ref b] s) 206 87467 M 206 1626 [(3, gJ 0), (2, gA s.heap.size 190), (1, gA s.heap.size 0), (0, .ref b)] [] := by
  obtain ⟨f_0_0, f_0_1, f_0_2, f_0_3, f_0_4, f_0_5, f_0_6, f_0_7, f_0_8, f_0_9, f_1_0, f_1_1, f_1_2, f_1_3, f_1_4, f_1_5, f_1_6, f_1_7, f_1_8, f_1_9, f_1_10, f_1_11, f_1_12, f_1_13, f_1_14, f_1_15, f_2_0, f_2_1, f_5_0, f_7_0, f_9_0, f_9_1, f_9_2, f_9_3, f_9_4, f_9_5, f_15_0, f_15_1, f_15_2, f_15_3, f_15_4, f_15_5, f_15_6, f_15_7, f_15_8, f_15_9, f_23_0, f_23_1, f_26_0, f_26_1, f_26_2, f_26_3, f_87_0, f_87_1, f_87_2, f_87_3, f_87_4, f_153_0, f_153_1, f_153_2, f_153_3, f_153_4, f_159_0, f_190_0, f_190_1, f_190_2, f_190_3, f_190_4, f_190_5, f_190_6, f_190_7, f_190_8, f_190_9, f_190_10, f_190_11, f_190_12, f_190_13, f_190_14, f_190_15, f_190_16, f_190_17, f_190_18, f_190_19, f_190_20, f_190_21, f_190_22, f_190_23, rents, way, beds, frost0, rows0, rooms0, tape0, car0, hS⟩ := hFr
  obtain ⟨v0, e0, r0⟩ : ∃ z : Int, xs 0 = Int32.ofInt z ∧ -2147483648 ≤ z ∧ z ≤ 2147483647 := ⟨_, gi_of _, gi_rg _⟩
  obtain ⟨v1, e1, r1⟩ : ∃ z : Int, xs 1 = Int32.ofInt z ∧ -2147483648 ≤ z ∧ z ≤ 2147483647 := ⟨_, gi_of _, gi_rg _⟩
  obtain ⟨v2, e2, r2⟩ : ∃ z : Int, xs 2 = Int32.ofInt z ∧ -2147483648 ≤ z ∧ z ≤ 2147483647 := ⟨_, gi_of _, gi_rg _⟩
  obtain ⟨v3, e3, r3⟩ : ∃ z : Int, xs 3 = Int32.ofInt z ∧ -2147483648 ≤ z ∧ z ≤ 2147483647 := ⟨_, gi_of _, gi_rg _⟩
  obtain ⟨v4, e4, r4⟩ : ∃ z : Int, xs 4 = Int32.ofInt z ∧ -2147483648 ≤ z ∧ z ≤ 2147483647 := ⟨_, gi_of _, gi_rg _⟩
  obtain ⟨v5, e5, r5⟩ : ∃ z : Int, xs 5 = Int32.ofInt z ∧ -2147483648 ≤ z ∧ z ≤ 2147483647 := ⟨_, gi_of _, gi_rg _⟩
  obtain ⟨v6, e6, r6⟩ : ∃ z : Int, xs 6 = Int32.ofInt z ∧ -2147483648 ≤ z ∧ z ≤ 2147483647 := ⟨_, gi_of _, gi_rg _⟩
  refine g_aload_n (n := 1627) X 2 dL_law_1626 rfl rfl rfl ?_
  refine g_aload_n (n := 1628) X 3 dL_law_1627 rfl rfl rfl ?_
  refine g_iload_n (n := 1629) X 0 dL_law_1628 rfl rfl rfl ?_
  refine g_iconst (n := 1630) X dL_law_1629 rfl ?_
  refine g_iadd (n := 1631) (z := 1) X dL_law_1630 rfl rfl ?_
  refine g_scrld (n := 1632) (z := v1) X hb (by omega) (by omega) (by omega) dL_law_1631 rfl e1 ?_
  refine g_aload_n (n := 1633) X 3 dL_law_1632 rfl rfl rfl ?_
  refine g_iload_n (n := 1634) X 0 dL_law_1633 rfl rfl rfl ?_
  refine g_iconst (n := 1635) X dL_law_1634 rfl ?_
  refine g_iadd (n := 1636) (z := 2) X dL_law_1635 rfl rfl ?_
  refine g_scrld (n := 1637) (z := v2) X hb (by omega) (by omega) (by omega) dL_law_1636 rfl e2 ?_
  refine g_callVi (n := 1640) (As := [gJ v1, gJ v2]) (rest := []) (cs1 := 206) (ss1 := 87467) X (c_X11_master v1 v2 (by omega) (by omega) (by omega) f_0_0 f_1_10 f_1_9 rooms0) okX11_master kw_5_109 ⟨kw_5_110, kw_5_111⟩ ⟨rfl, rfl⟩ ⟨Nat.le_of_ble_eq_true rfl, Nat.le_of_ble_eq_true rfl⟩ rfl (by omega) (by omega) lay_0 rfl rfl (Nat.le_of_ble_eq_true rfl) ⟨Nat.le_of_ble_eq_true rfl, Nat.le_of_ble_eq_true rfl⟩ rfl rfl dL_law_1637 rfl (fun z1 M2 P3 => ?_)
  obtain ⟨P3, F4⟩ := P3
  refine g_aload_n (n := 1641) X 1 dL_law_1640 rfl rfl rfl ?_
  refine g_aload_n (n := 1642) X 3 dL_law_1641 rfl rfl rfl ?_
  refine g_iload_n (n := 1643) X 0 dL_law_1642 rfl rfl rfl ?_
  refine g_iconst (n := 1644) X dL_law_1643 rfl ?_
  refine g_iadd (n := 1645) (z := 1) X dL_law_1644 rfl rfl ?_
  refine g_scrld (n := 1646) (z := v1) X hb (by omega) (by omega) (by omega) dL_law_1645 rfl e1 ?_
  refine g_aload_n (n := 1647) X 3 dL_law_1646 rfl rfl rfl ?_
  refine g_iload_n (n := 1648) X 0 dL_law_1647 rfl rfl rfl ?_
  refine g_iconst (n := 1649) X dL_law_1648 rfl ?_
  refine g_iadd (n := 1650) (z := 2) X dL_law_1649 rfl rfl ?_
  refine g_scrld (n := 1651) (z := v2) X hb (by omega) (by omega) (by omega) dL_law_1650 rfl e2 ?_
  refine g_callVi (n := 1654) (As := [gJ v1, gJ v2]) (rest := [gJ z1]) (cs1 := 206) (ss1 := 87467) X (c_X12_master v1 v2 (by omega) (by omega) (by omega) ((congrFun (F4 190 (by omega)) _).trans f_190_1) (fun i h0 h1 => (congrFun ((F4 191 (by omega)).trans rfl) i).trans (hS i h0 h1))) okX12_master kw_7_220 ⟨kw_7_221, kw_7_222⟩ ⟨rfl, rfl⟩ ⟨Nat.le_of_ble_eq_true rfl, Nat.le_of_ble_eq_true rfl⟩ rfl (by omega) (by omega) lay_190 rfl rfl (Nat.le_of_ble_eq_true rfl) ⟨Nat.le_of_ble_eq_true rfl, Nat.le_of_ble_eq_true rfl⟩ rfl rfl dL_law_1651 rfl (fun z5 M6 P7 => ?_)
  obtain ⟨P7, F8⟩ := P7
  refine g_icmp_eq (n := 1657) (tgt := 1992) X dL_law_1654 (by decide) (by omega) (by omega) rfl (fun c9 => ?_) (fun c9 => by exfalso; omega)
  exact law_tail X hr hb (by omega) (by omega)
theorem dL_law_1659 : decode code 1659 = .ok (.aload_n 1, 1) := by decide +kernel
theorem dL_law_1660 : decode code 1660 = .ok (.aload_n 0, 1) := by decide +kernel
theorem dL_law_1661 : decode code 1661 = .ok (.iload_n 3, 1) := by decide +kernel
theorem dL_law_1662 : decode code 1662 = .ok (.iconst 1, 1) := by decide +kernel
theorem dL_law_1663 : decode code 1663 = .ok (.iadd, 1) := by decide +kernel
theorem dL_law_1664 : decode code 1664 = .ok (.iaload, 1) := by decide +kernel
theorem dL_law_1665 : decode code 1665 = .ok (.aload_n 0, 1) := by decide +kernel
theorem dL_law_1666 : decode code 1666 = .ok (.iload_n 3, 1) := by decide +kernel
theorem dL_law_1667 : decode code 1667 = .ok (.iconst 2, 1) := by decide +kernel
theorem dL_law_1668 : decode code 1668 = .ok (.iadd, 1) := by decide +kernel
theorem dL_law_1669 : decode code 1669 = .ok (.iaload, 1) := by decide +kernel
theorem dL_law_1670 : decode code 1670 = .ok (.invokevirtual 166, 3) := by decide +kernel
theorem kw_5_117 : (Jvm.Cond.methodLink "ParishUnionLaw" (166 : Nat) ({ cls := "ParishUnion", name := "bind", desc := "(II)I" } : Jvm.MethodName)) ∈ gT := gT_of (tb_5 _ (List.mem_of_getElem? (i := 117) rfl)) rfl
theorem kw_5_120 : (Jvm.Cond.code ({ cls := "ParishUnion", name := "bind", desc := "(II)I" } : Jvm.MethodName) prog_1_method_37_code (7 : Nat) (Option.some Jvm.ClassFile.FieldType.int)) ∈ gT := gT_of (tb_5 _ (List.mem_of_getElem? (i := 120) rfl)) rfl
theorem okX11_bind : gQok yX11_bind cX11_bind 7 (Option.some Jvm.ClassFile.FieldType.int) 2 := ⟨kw_5_120, kw_1_1, by decide +kernel, by decide +kernel, by decide +kernel⟩
theorem kw_5_118 : (Jvm.Cond.instanceMethod ({ cls := "ParishUnion", name := "bind", desc := "(II)I" } : Jvm.MethodName)) ∈ gT := gT_of (tb_5 _ (List.mem_of_getElem? (i := 118) rfl)) rfl
theorem kw_5_119 : (Jvm.Cond.selects "ParishUnion" ({ cls := "ParishUnion", name := "bind", desc := "(II)I" } : Jvm.MethodName) ({ cls := "ParishUnion", name := "bind", desc := "(II)I" } : Jvm.MethodName)) ∈ gT := gT_of (tb_5 _ (List.mem_of_getElem? (i := 119) rfl)) rfl
theorem dL_law_1673 : decode code 1673 = .ok (.aload_n 2, 1) := by decide +kernel
theorem dL_law_1674 : decode code 1674 = .ok (.aload_n 0, 1) := by decide +kernel
theorem dL_law_1675 : decode code 1675 = .ok (.iload_n 3, 1) := by decide +kernel
theorem dL_law_1676 : decode code 1676 = .ok (.iconst 1, 1) := by decide +kernel
theorem dL_law_1677 : decode code 1677 = .ok (.iadd, 1) := by decide +kernel
theorem dL_law_1678 : decode code 1678 = .ok (.iaload, 1) := by decide +kernel
theorem dL_law_1679 : decode code 1679 = .ok (.aload_n 0, 1) := by decide +kernel
theorem dL_law_1680 : decode code 1680 = .ok (.iload_n 3, 1) := by decide +kernel
theorem dL_law_1681 : decode code 1681 = .ok (.iconst 2, 1) := by decide +kernel
theorem dL_law_1682 : decode code 1682 = .ok (.iadd, 1) := by decide +kernel
theorem dL_law_1683 : decode code 1683 = .ok (.iaload, 1) := by decide +kernel
theorem dL_law_1684 : decode code 1684 = .ok (.invokevirtual 169, 3) := by decide +kernel
theorem kw_7_224 : (Jvm.Cond.methodLink "ParishUnionLaw" (169 : Nat) ({ cls := "ParishUnionModel", name := "bind", desc := "(II)I" } : Jvm.MethodName)) ∈ gT := gT_of (tb_7 _ (List.mem_of_getElem? (i := 224) rfl)) rfl
theorem kw_7_227 : (Jvm.Cond.code ({ cls := "ParishUnionModel", name := "bind", desc := "(II)I" } : Jvm.MethodName) prog_14_method_92_code (3 : Nat) (Option.some Jvm.ClassFile.FieldType.int)) ∈ gT := gT_of (tb_7 _ (List.mem_of_getElem? (i := 227) rfl)) rfl
theorem okX12_bind : gQok yX12_bind cX12_bind 3 (Option.some Jvm.ClassFile.FieldType.int) 2 := ⟨kw_7_227, kw_1_13, by decide +kernel, by decide +kernel, by decide +kernel⟩
theorem kw_7_225 : (Jvm.Cond.instanceMethod ({ cls := "ParishUnionModel", name := "bind", desc := "(II)I" } : Jvm.MethodName)) ∈ gT := gT_of (tb_7 _ (List.mem_of_getElem? (i := 225) rfl)) rfl
theorem kw_7_226 : (Jvm.Cond.selects "ParishUnionModel" ({ cls := "ParishUnionModel", name := "bind", desc := "(II)I" } : Jvm.MethodName) ({ cls := "ParishUnionModel", name := "bind", desc := "(II)I" } : Jvm.MethodName)) ∈ gT := gT_of (tb_7 _ (List.mem_of_getElem? (i := 226) rfl)) rfl
theorem dL_law_1687 : decode code 1687 = .ok (.if_icmp .eq 305, 3) := by decide +kernel
set_option maxRecDepth 100000 in
set_option maxHeartbeats 4000000 in
theorem law_case_35 {p : Program} {e : Env} {s : State} {m : MethodId} {below : List Frame} {meth : Method} {c : Code} {l : Launch} {D : va_G} {cA : Nat → ClassId} {b : Nat} {xs : Nat → Int32} (X : gCx p s m #[Value.ref b] meth c s.heap.size D cA "ParishUnionLaw" code 4) (hr : meth.sig.returnType = ret) (hb : b < s.heap.size ∧ va_X b 7 xs s s.heap) {M : gM} (hFr : gFr M) : G p l e room_1 s m #[Value.ref b] below meth c s.heap.size D cA 4 (lw_Z below #[Value.ref b] s) 206 87467 M 206 1659 [(3, gJ 0), (2, gA s.heap.size 190), (1, gA s.heap.size 0), (0, .ref b)] [] := by
  obtain ⟨f_0_0, f_0_1, f_0_2, f_0_3, f_0_4, f_0_5, f_0_6, f_0_7, f_0_8, f_0_9, f_1_0, f_1_1, f_1_2, f_1_3, f_1_4, f_1_5, f_1_6, f_1_7, f_1_8, f_1_9, f_1_10, f_1_11, f_1_12, f_1_13, f_1_14, f_1_15, f_2_0, f_2_1, f_5_0, f_7_0, f_9_0, f_9_1, f_9_2, f_9_3, f_9_4, f_9_5, f_15_0, f_15_1, f_15_2, f_15_3, f_15_4, f_15_5, f_15_6, f_15_7, f_15_8, f_15_9, f_23_0, f_23_1, f_26_0, f_26_1, f_26_2, f_26_3, f_87_0, f_87_1, f_87_2, f_87_3, f_87_4, f_153_0, f_153_1, f_153_2, f_153_3, f_153_4, f_159_0, f_190_0, f_190_1, f_190_2, f_190_3, f_190_4, f_190_5, f_190_6, f_190_7, f_190_8, f_190_9, f_190_10, f_190_11, f_190_12, f_190_13, f_190_14, f_190_15, f_190_16, f_190_17, f_190_18, f_190_19, f_190_20, f_190_21, f_190_22, f_190_23, rents, way, beds, frost0, rows0, rooms0, tape0, car0, hS⟩ := hFr
  obtain ⟨v0, e0, r0⟩ : ∃ z : Int, xs 0 = Int32.ofInt z ∧ -2147483648 ≤ z ∧ z ≤ 2147483647 := ⟨_, gi_of _, gi_rg _⟩
  obtain ⟨v1, e1, r1⟩ : ∃ z : Int, xs 1 = Int32.ofInt z ∧ -2147483648 ≤ z ∧ z ≤ 2147483647 := ⟨_, gi_of _, gi_rg _⟩
  obtain ⟨v2, e2, r2⟩ : ∃ z : Int, xs 2 = Int32.ofInt z ∧ -2147483648 ≤ z ∧ z ≤ 2147483647 := ⟨_, gi_of _, gi_rg _⟩
  obtain ⟨v3, e3, r3⟩ : ∃ z : Int, xs 3 = Int32.ofInt z ∧ -2147483648 ≤ z ∧ z ≤ 2147483647 := ⟨_, gi_of _, gi_rg _⟩
  obtain ⟨v4, e4, r4⟩ : ∃ z : Int, xs 4 = Int32.ofInt z ∧ -2147483648 ≤ z ∧ z ≤ 2147483647 := ⟨_, gi_of _, gi_rg _⟩
  obtain ⟨v5, e5, r5⟩ : ∃ z : Int, xs 5 = Int32.ofInt z ∧ -2147483648 ≤ z ∧ z ≤ 2147483647 := ⟨_, gi_of _, gi_rg _⟩
  obtain ⟨v6, e6, r6⟩ : ∃ z : Int, xs 6 = Int32.ofInt z ∧ -2147483648 ≤ z ∧ z ≤ 2147483647 := ⟨_, gi_of _, gi_rg _⟩
  refine g_aload_n (n := 1660) X 2 dL_law_1659 rfl rfl rfl ?_
  refine g_aload_n (n := 1661) X 3 dL_law_1660 rfl rfl rfl ?_
  refine g_iload_n (n := 1662) X 0 dL_law_1661 rfl rfl rfl ?_
  refine g_iconst (n := 1663) X dL_law_1662 rfl ?_
  refine g_iadd (n := 1664) (z := 1) X dL_law_1663 rfl rfl ?_
  refine g_scrld (n := 1665) (z := v1) X hb (by omega) (by omega) (by omega) dL_law_1664 rfl e1 ?_
  refine g_aload_n (n := 1666) X 3 dL_law_1665 rfl rfl rfl ?_
  refine g_iload_n (n := 1667) X 0 dL_law_1666 rfl rfl rfl ?_
  refine g_iconst (n := 1668) X dL_law_1667 rfl ?_
  refine g_iadd (n := 1669) (z := 2) X dL_law_1668 rfl rfl ?_
  refine g_scrld (n := 1670) (z := v2) X hb (by omega) (by omega) (by omega) dL_law_1669 rfl e2 ?_
  refine g_callVi (n := 1673) (As := [gJ v1, gJ v2]) (rest := []) (cs1 := 206) (ss1 := 87467) X (c_X11_bind v1 v2 (by omega) (by omega) (by omega) f_0_0 f_1_10) okX11_bind kw_5_117 ⟨kw_5_118, kw_5_119⟩ ⟨rfl, rfl⟩ ⟨Nat.le_of_ble_eq_true rfl, Nat.le_of_ble_eq_true rfl⟩ rfl (by omega) (by omega) lay_0 rfl rfl (Nat.le_of_ble_eq_true rfl) ⟨Nat.le_of_ble_eq_true rfl, Nat.le_of_ble_eq_true rfl⟩ rfl rfl dL_law_1670 rfl (fun z1 M2 P3 => ?_)
  obtain ⟨P3, F4⟩ := P3
  refine g_aload_n (n := 1674) X 1 dL_law_1673 rfl rfl rfl ?_
  refine g_aload_n (n := 1675) X 3 dL_law_1674 rfl rfl rfl ?_
  refine g_iload_n (n := 1676) X 0 dL_law_1675 rfl rfl rfl ?_
  refine g_iconst (n := 1677) X dL_law_1676 rfl ?_
  refine g_iadd (n := 1678) (z := 1) X dL_law_1677 rfl rfl ?_
  refine g_scrld (n := 1679) (z := v1) X hb (by omega) (by omega) (by omega) dL_law_1678 rfl e1 ?_
  refine g_aload_n (n := 1680) X 3 dL_law_1679 rfl rfl rfl ?_
  refine g_iload_n (n := 1681) X 0 dL_law_1680 rfl rfl rfl ?_
  refine g_iconst (n := 1682) X dL_law_1681 rfl ?_
  refine g_iadd (n := 1683) (z := 2) X dL_law_1682 rfl rfl ?_
  refine g_scrld (n := 1684) (z := v2) X hb (by omega) (by omega) (by omega) dL_law_1683 rfl e2 ?_
  refine g_callVi (n := 1687) (As := [gJ v1, gJ v2]) (rest := [gJ z1]) (cs1 := 206) (ss1 := 87467) X (c_X12_bind v1 v2 (by omega) (by omega) (by omega) ((congrFun (F4 190) _).trans f_190_1) ((congrFun (F4 191) _).trans ((hS 1 (by omega) (by omega)).trans (by decide)))) okX12_bind kw_7_224 ⟨kw_7_225, kw_7_226⟩ ⟨rfl, rfl⟩ ⟨Nat.le_of_ble_eq_true rfl, Nat.le_of_ble_eq_true rfl⟩ rfl (by omega) (by omega) lay_190 rfl rfl (Nat.le_of_ble_eq_true rfl) ⟨Nat.le_of_ble_eq_true rfl, Nat.le_of_ble_eq_true rfl⟩ rfl rfl dL_law_1684 rfl (fun z5 M6 P7 => ?_)
  obtain ⟨P7, F8⟩ := P7
  refine g_icmp_eq (n := 1690) (tgt := 1992) X dL_law_1687 (by decide) (by omega) (by omega) rfl (fun c9 => ?_) (fun c9 => by exfalso; omega)
  exact law_tail X hr hb (by omega) (by omega)
theorem dL_law_1692 : decode code 1692 = .ok (.aload_n 1, 1) := by decide +kernel
theorem dL_law_1693 : decode code 1693 = .ok (.aload_n 0, 1) := by decide +kernel
theorem dL_law_1694 : decode code 1694 = .ok (.iload_n 3, 1) := by decide +kernel
theorem dL_law_1695 : decode code 1695 = .ok (.iconst 1, 1) := by decide +kernel
theorem dL_law_1696 : decode code 1696 = .ok (.iadd, 1) := by decide +kernel
theorem dL_law_1697 : decode code 1697 = .ok (.iaload, 1) := by decide +kernel
theorem dL_law_1698 : decode code 1698 = .ok (.invokevirtual 170, 3) := by decide +kernel
theorem kw_5_123 : (Jvm.Cond.methodLink "ParishUnionLaw" (170 : Nat) ({ cls := "ParishUnion", name := "run", desc := "(I)I" } : Jvm.MethodName)) ∈ gT := gT_of (tb_5 _ (List.mem_of_getElem? (i := 123) rfl)) rfl
theorem kw_5_126 : (Jvm.Cond.code ({ cls := "ParishUnion", name := "run", desc := "(I)I" } : Jvm.MethodName) prog_1_method_38_code (3 : Nat) (Option.some Jvm.ClassFile.FieldType.int)) ∈ gT := gT_of (tb_5 _ (List.mem_of_getElem? (i := 126) rfl)) rfl
theorem okX11_run : gQok yX11_run cX11_run 3 (Option.some Jvm.ClassFile.FieldType.int) 1 := ⟨kw_5_126, kw_1_1, by decide +kernel, by decide +kernel, by decide +kernel⟩
theorem kw_5_124 : (Jvm.Cond.instanceMethod ({ cls := "ParishUnion", name := "run", desc := "(I)I" } : Jvm.MethodName)) ∈ gT := gT_of (tb_5 _ (List.mem_of_getElem? (i := 124) rfl)) rfl
theorem kw_5_125 : (Jvm.Cond.selects "ParishUnion" ({ cls := "ParishUnion", name := "run", desc := "(I)I" } : Jvm.MethodName) ({ cls := "ParishUnion", name := "run", desc := "(I)I" } : Jvm.MethodName)) ∈ gT := gT_of (tb_5 _ (List.mem_of_getElem? (i := 125) rfl)) rfl
theorem dL_law_1701 : decode code 1701 = .ok (.aload_n 2, 1) := by decide +kernel
theorem dL_law_1702 : decode code 1702 = .ok (.aload_n 0, 1) := by decide +kernel
theorem dL_law_1703 : decode code 1703 = .ok (.iload_n 3, 1) := by decide +kernel
theorem dL_law_1704 : decode code 1704 = .ok (.iconst 1, 1) := by decide +kernel
theorem dL_law_1705 : decode code 1705 = .ok (.iadd, 1) := by decide +kernel
theorem dL_law_1706 : decode code 1706 = .ok (.iaload, 1) := by decide +kernel
theorem dL_law_1707 : decode code 1707 = .ok (.invokevirtual 173, 3) := by decide +kernel
theorem kw_7_228 : (Jvm.Cond.methodLink "ParishUnionLaw" (173 : Nat) ({ cls := "ParishUnionModel", name := "run", desc := "(I)I" } : Jvm.MethodName)) ∈ gT := gT_of (tb_7 _ (List.mem_of_getElem? (i := 228) rfl)) rfl
theorem kw_7_231 : (Jvm.Cond.code ({ cls := "ParishUnionModel", name := "run", desc := "(I)I" } : Jvm.MethodName) prog_14_method_93_code (2 : Nat) (Option.some Jvm.ClassFile.FieldType.int)) ∈ gT := gT_of (tb_7 _ (List.mem_of_getElem? (i := 231) rfl)) rfl
theorem okX12_run : gQok yX12_run cX12_run 2 (Option.some Jvm.ClassFile.FieldType.int) 1 := ⟨kw_7_231, kw_1_13, by decide +kernel, by decide +kernel, by decide +kernel⟩
theorem kw_7_229 : (Jvm.Cond.instanceMethod ({ cls := "ParishUnionModel", name := "run", desc := "(I)I" } : Jvm.MethodName)) ∈ gT := gT_of (tb_7 _ (List.mem_of_getElem? (i := 229) rfl)) rfl
theorem kw_7_230 : (Jvm.Cond.selects "ParishUnionModel" ({ cls := "ParishUnionModel", name := "run", desc := "(I)I" } : Jvm.MethodName) ({ cls := "ParishUnionModel", name := "run", desc := "(I)I" } : Jvm.MethodName)) ∈ gT := gT_of (tb_7 _ (List.mem_of_getElem? (i := 230) rfl)) rfl
theorem dL_law_1710 : decode code 1710 = .ok (.if_icmp .eq 282, 3) := by decide +kernel
set_option maxRecDepth 100000 in
set_option maxHeartbeats 4000000 in
theorem law_case_36 {p : Program} {e : Env} {s : State} {m : MethodId} {below : List Frame} {meth : Method} {c : Code} {l : Launch} {D : va_G} {cA : Nat → ClassId} {b : Nat} {xs : Nat → Int32} (X : gCx p s m #[Value.ref b] meth c s.heap.size D cA "ParishUnionLaw" code 4) (hr : meth.sig.returnType = ret) (hb : b < s.heap.size ∧ va_X b 7 xs s s.heap) {M : gM} (hFr : gFr M) : G p l e room_1 s m #[Value.ref b] below meth c s.heap.size D cA 4 (lw_Z below #[Value.ref b] s) 206 87467 M 206 1692 [(3, gJ 0), (2, gA s.heap.size 190), (1, gA s.heap.size 0), (0, .ref b)] [] := by
  obtain ⟨f_0_0, f_0_1, f_0_2, f_0_3, f_0_4, f_0_5, f_0_6, f_0_7, f_0_8, f_0_9, f_1_0, f_1_1, f_1_2, f_1_3, f_1_4, f_1_5, f_1_6, f_1_7, f_1_8, f_1_9, f_1_10, f_1_11, f_1_12, f_1_13, f_1_14, f_1_15, f_2_0, f_2_1, f_5_0, f_7_0, f_9_0, f_9_1, f_9_2, f_9_3, f_9_4, f_9_5, f_15_0, f_15_1, f_15_2, f_15_3, f_15_4, f_15_5, f_15_6, f_15_7, f_15_8, f_15_9, f_23_0, f_23_1, f_26_0, f_26_1, f_26_2, f_26_3, f_87_0, f_87_1, f_87_2, f_87_3, f_87_4, f_153_0, f_153_1, f_153_2, f_153_3, f_153_4, f_159_0, f_190_0, f_190_1, f_190_2, f_190_3, f_190_4, f_190_5, f_190_6, f_190_7, f_190_8, f_190_9, f_190_10, f_190_11, f_190_12, f_190_13, f_190_14, f_190_15, f_190_16, f_190_17, f_190_18, f_190_19, f_190_20, f_190_21, f_190_22, f_190_23, rents, way, beds, frost0, rows0, rooms0, tape0, car0, hS⟩ := hFr
  obtain ⟨v0, e0, r0⟩ : ∃ z : Int, xs 0 = Int32.ofInt z ∧ -2147483648 ≤ z ∧ z ≤ 2147483647 := ⟨_, gi_of _, gi_rg _⟩
  obtain ⟨v1, e1, r1⟩ : ∃ z : Int, xs 1 = Int32.ofInt z ∧ -2147483648 ≤ z ∧ z ≤ 2147483647 := ⟨_, gi_of _, gi_rg _⟩
  obtain ⟨v2, e2, r2⟩ : ∃ z : Int, xs 2 = Int32.ofInt z ∧ -2147483648 ≤ z ∧ z ≤ 2147483647 := ⟨_, gi_of _, gi_rg _⟩
  obtain ⟨v3, e3, r3⟩ : ∃ z : Int, xs 3 = Int32.ofInt z ∧ -2147483648 ≤ z ∧ z ≤ 2147483647 := ⟨_, gi_of _, gi_rg _⟩
  obtain ⟨v4, e4, r4⟩ : ∃ z : Int, xs 4 = Int32.ofInt z ∧ -2147483648 ≤ z ∧ z ≤ 2147483647 := ⟨_, gi_of _, gi_rg _⟩
  obtain ⟨v5, e5, r5⟩ : ∃ z : Int, xs 5 = Int32.ofInt z ∧ -2147483648 ≤ z ∧ z ≤ 2147483647 := ⟨_, gi_of _, gi_rg _⟩
  obtain ⟨v6, e6, r6⟩ : ∃ z : Int, xs 6 = Int32.ofInt z ∧ -2147483648 ≤ z ∧ z ≤ 2147483647 := ⟨_, gi_of _, gi_rg _⟩
  refine g_aload_n (n := 1693) X 2 dL_law_1692 rfl rfl rfl ?_
  refine g_aload_n (n := 1694) X 3 dL_law_1693 rfl rfl rfl ?_
  refine g_iload_n (n := 1695) X 0 dL_law_1694 rfl rfl rfl ?_
  refine g_iconst (n := 1696) X dL_law_1695 rfl ?_
  refine g_iadd (n := 1697) (z := 1) X dL_law_1696 rfl rfl ?_
  refine g_scrld (n := 1698) (z := v1) X hb (by omega) (by omega) (by omega) dL_law_1697 rfl e1 ?_
  refine g_callVi (n := 1701) (As := [gJ v1]) (rest := []) (cs1 := 206) (ss1 := 87467) X (c_X11_run v1 (by omega) (by omega) f_0_0 f_1_10) okX11_run kw_5_123 ⟨kw_5_124, kw_5_125⟩ ⟨rfl, rfl⟩ ⟨Nat.le_of_ble_eq_true rfl, Nat.le_of_ble_eq_true rfl⟩ rfl (by omega) (by omega) lay_0 rfl rfl (Nat.le_of_ble_eq_true rfl) ⟨Nat.le_of_ble_eq_true rfl, Nat.le_of_ble_eq_true rfl⟩ rfl rfl dL_law_1698 rfl (fun z1 M2 P3 => ?_)
  obtain ⟨P3, F4⟩ := P3
  refine g_aload_n (n := 1702) X 1 dL_law_1701 rfl rfl rfl ?_
  refine g_aload_n (n := 1703) X 3 dL_law_1702 rfl rfl rfl ?_
  refine g_iload_n (n := 1704) X 0 dL_law_1703 rfl rfl rfl ?_
  refine g_iconst (n := 1705) X dL_law_1704 rfl ?_
  refine g_iadd (n := 1706) (z := 1) X dL_law_1705 rfl rfl ?_
  refine g_scrld (n := 1707) (z := v1) X hb (by omega) (by omega) (by omega) dL_law_1706 rfl e1 ?_
  refine g_callVi (n := 1710) (As := [gJ v1]) (rest := [gJ z1]) (cs1 := 206) (ss1 := 87467) X (c_X12_run v1 (by omega) (by omega) ((congrFun (F4 190) _).trans f_190_1) ((congrFun (F4 191) _).trans ((hS 1 (by omega) (by omega)).trans (by decide)))) okX12_run kw_7_228 ⟨kw_7_229, kw_7_230⟩ ⟨rfl, rfl⟩ ⟨Nat.le_of_ble_eq_true rfl, Nat.le_of_ble_eq_true rfl⟩ rfl (by omega) (by omega) lay_190 rfl rfl (Nat.le_of_ble_eq_true rfl) ⟨Nat.le_of_ble_eq_true rfl, Nat.le_of_ble_eq_true rfl⟩ rfl rfl dL_law_1707 rfl (fun z5 M6 P7 => ?_)
  obtain ⟨P7, F8⟩ := P7
  refine g_icmp_eq (n := 1713) (tgt := 1992) X dL_law_1710 (by decide) (by omega) (by omega) rfl (fun c9 => ?_) (fun c9 => by exfalso; omega)
  exact law_tail X hr hb (by omega) (by omega)
theorem dL_law_1715 : decode code 1715 = .ok (.aload_n 1, 1) := by decide +kernel
theorem dL_law_1716 : decode code 1716 = .ok (.aload_n 0, 1) := by decide +kernel
theorem dL_law_1717 : decode code 1717 = .ok (.iload_n 3, 1) := by decide +kernel
theorem dL_law_1718 : decode code 1718 = .ok (.iconst 1, 1) := by decide +kernel
theorem dL_law_1719 : decode code 1719 = .ok (.iadd, 1) := by decide +kernel
theorem dL_law_1720 : decode code 1720 = .ok (.iaload, 1) := by decide +kernel
theorem dL_law_1721 : decode code 1721 = .ok (.aload_n 0, 1) := by decide +kernel
theorem dL_law_1722 : decode code 1722 = .ok (.iload_n 3, 1) := by decide +kernel
theorem dL_law_1723 : decode code 1723 = .ok (.iconst 2, 1) := by decide +kernel
theorem dL_law_1724 : decode code 1724 = .ok (.iadd, 1) := by decide +kernel
theorem dL_law_1725 : decode code 1725 = .ok (.iaload, 1) := by decide +kernel
theorem dL_law_1726 : decode code 1726 = .ok (.aload_n 0, 1) := by decide +kernel
theorem dL_law_1727 : decode code 1727 = .ok (.iload_n 3, 1) := by decide +kernel
theorem dL_law_1728 : decode code 1728 = .ok (.iconst 3, 1) := by decide +kernel
theorem dL_law_1729 : decode code 1729 = .ok (.iadd, 1) := by decide +kernel
theorem dL_law_1730 : decode code 1730 = .ok (.iaload, 1) := by decide +kernel
theorem dL_law_1731 : decode code 1731 = .ok (.invokevirtual 174, 3) := by decide +kernel
theorem kw_5_127 : (Jvm.Cond.methodLink "ParishUnionLaw" (174 : Nat) ({ cls := "ParishUnion", name := "choice", desc := "(III)I" } : Jvm.MethodName)) ∈ gT := gT_of (tb_5 _ (List.mem_of_getElem? (i := 127) rfl)) rfl
theorem kw_5_130 : (Jvm.Cond.code ({ cls := "ParishUnion", name := "choice", desc := "(III)I" } : Jvm.MethodName) prog_1_method_39_code (4 : Nat) (Option.some Jvm.ClassFile.FieldType.int)) ∈ gT := gT_of (tb_5 _ (List.mem_of_getElem? (i := 130) rfl)) rfl
theorem okX11_choice : gQok yX11_choice cX11_choice 4 (Option.some Jvm.ClassFile.FieldType.int) 3 := ⟨kw_5_130, kw_1_1, by decide +kernel, by decide +kernel, by decide +kernel⟩
theorem kw_5_128 : (Jvm.Cond.instanceMethod ({ cls := "ParishUnion", name := "choice", desc := "(III)I" } : Jvm.MethodName)) ∈ gT := gT_of (tb_5 _ (List.mem_of_getElem? (i := 128) rfl)) rfl
theorem kw_5_129 : (Jvm.Cond.selects "ParishUnion" ({ cls := "ParishUnion", name := "choice", desc := "(III)I" } : Jvm.MethodName) ({ cls := "ParishUnion", name := "choice", desc := "(III)I" } : Jvm.MethodName)) ∈ gT := gT_of (tb_5 _ (List.mem_of_getElem? (i := 129) rfl)) rfl
theorem dL_law_1734 : decode code 1734 = .ok (.aload_n 2, 1) := by decide +kernel
theorem dL_law_1735 : decode code 1735 = .ok (.aload_n 0, 1) := by decide +kernel
theorem dL_law_1736 : decode code 1736 = .ok (.iload_n 3, 1) := by decide +kernel
theorem dL_law_1737 : decode code 1737 = .ok (.iconst 1, 1) := by decide +kernel
theorem dL_law_1738 : decode code 1738 = .ok (.iadd, 1) := by decide +kernel
theorem dL_law_1739 : decode code 1739 = .ok (.iaload, 1) := by decide +kernel
theorem dL_law_1740 : decode code 1740 = .ok (.aload_n 0, 1) := by decide +kernel
theorem dL_law_1741 : decode code 1741 = .ok (.iload_n 3, 1) := by decide +kernel
theorem dL_law_1742 : decode code 1742 = .ok (.iconst 2, 1) := by decide +kernel
theorem dL_law_1743 : decode code 1743 = .ok (.iadd, 1) := by decide +kernel
theorem dL_law_1744 : decode code 1744 = .ok (.iaload, 1) := by decide +kernel
theorem dL_law_1745 : decode code 1745 = .ok (.aload_n 0, 1) := by decide +kernel
theorem dL_law_1746 : decode code 1746 = .ok (.iload_n 3, 1) := by decide +kernel
theorem dL_law_1747 : decode code 1747 = .ok (.iconst 3, 1) := by decide +kernel
theorem dL_law_1748 : decode code 1748 = .ok (.iadd, 1) := by decide +kernel
theorem dL_law_1749 : decode code 1749 = .ok (.iaload, 1) := by decide +kernel
theorem dL_law_1750 : decode code 1750 = .ok (.invokevirtual 177, 3) := by decide +kernel
theorem kw_7_232 : (Jvm.Cond.methodLink "ParishUnionLaw" (177 : Nat) ({ cls := "ParishUnionModel", name := "choice", desc := "(III)I" } : Jvm.MethodName)) ∈ gT := gT_of (tb_7 _ (List.mem_of_getElem? (i := 232) rfl)) rfl
theorem kw_7_235 : (Jvm.Cond.code ({ cls := "ParishUnionModel", name := "choice", desc := "(III)I" } : Jvm.MethodName) prog_14_method_94_code (4 : Nat) (Option.some Jvm.ClassFile.FieldType.int)) ∈ gT := gT_of (tb_7 _ (List.mem_of_getElem? (i := 235) rfl)) rfl
theorem okX12_choice : gQok yX12_choice cX12_choice 4 (Option.some Jvm.ClassFile.FieldType.int) 3 := ⟨kw_7_235, kw_1_13, by decide +kernel, by decide +kernel, by decide +kernel⟩
theorem kw_7_233 : (Jvm.Cond.instanceMethod ({ cls := "ParishUnionModel", name := "choice", desc := "(III)I" } : Jvm.MethodName)) ∈ gT := gT_of (tb_7 _ (List.mem_of_getElem? (i := 233) rfl)) rfl
theorem kw_7_234 : (Jvm.Cond.selects "ParishUnionModel" ({ cls := "ParishUnionModel", name := "choice", desc := "(III)I" } : Jvm.MethodName) ({ cls := "ParishUnionModel", name := "choice", desc := "(III)I" } : Jvm.MethodName)) ∈ gT := gT_of (tb_7 _ (List.mem_of_getElem? (i := 234) rfl)) rfl
theorem dL_law_1753 : decode code 1753 = .ok (.if_icmp .eq 239, 3) := by decide +kernel
set_option maxRecDepth 100000 in
set_option maxHeartbeats 4000000 in
theorem law_case_37 {p : Program} {e : Env} {s : State} {m : MethodId} {below : List Frame} {meth : Method} {c : Code} {l : Launch} {D : va_G} {cA : Nat → ClassId} {b : Nat} {xs : Nat → Int32} (X : gCx p s m #[Value.ref b] meth c s.heap.size D cA "ParishUnionLaw" code 4) (hr : meth.sig.returnType = ret) (hb : b < s.heap.size ∧ va_X b 7 xs s s.heap) {M : gM} (hFr : gFr M) : G p l e room_1 s m #[Value.ref b] below meth c s.heap.size D cA 4 (lw_Z below #[Value.ref b] s) 206 87467 M 206 1715 [(3, gJ 0), (2, gA s.heap.size 190), (1, gA s.heap.size 0), (0, .ref b)] [] := by
  obtain ⟨f_0_0, f_0_1, f_0_2, f_0_3, f_0_4, f_0_5, f_0_6, f_0_7, f_0_8, f_0_9, f_1_0, f_1_1, f_1_2, f_1_3, f_1_4, f_1_5, f_1_6, f_1_7, f_1_8, f_1_9, f_1_10, f_1_11, f_1_12, f_1_13, f_1_14, f_1_15, f_2_0, f_2_1, f_5_0, f_7_0, f_9_0, f_9_1, f_9_2, f_9_3, f_9_4, f_9_5, f_15_0, f_15_1, f_15_2, f_15_3, f_15_4, f_15_5, f_15_6, f_15_7, f_15_8, f_15_9, f_23_0, f_23_1, f_26_0, f_26_1, f_26_2, f_26_3, f_87_0, f_87_1, f_87_2, f_87_3, f_87_4, f_153_0, f_153_1, f_153_2, f_153_3, f_153_4, f_159_0, f_190_0, f_190_1, f_190_2, f_190_3, f_190_4, f_190_5, f_190_6, f_190_7, f_190_8, f_190_9, f_190_10, f_190_11, f_190_12, f_190_13, f_190_14, f_190_15, f_190_16, f_190_17, f_190_18, f_190_19, f_190_20, f_190_21, f_190_22, f_190_23, rents, way, beds, frost0, rows0, rooms0, tape0, car0, hS⟩ := hFr
  obtain ⟨v0, e0, r0⟩ : ∃ z : Int, xs 0 = Int32.ofInt z ∧ -2147483648 ≤ z ∧ z ≤ 2147483647 := ⟨_, gi_of _, gi_rg _⟩
  obtain ⟨v1, e1, r1⟩ : ∃ z : Int, xs 1 = Int32.ofInt z ∧ -2147483648 ≤ z ∧ z ≤ 2147483647 := ⟨_, gi_of _, gi_rg _⟩
  obtain ⟨v2, e2, r2⟩ : ∃ z : Int, xs 2 = Int32.ofInt z ∧ -2147483648 ≤ z ∧ z ≤ 2147483647 := ⟨_, gi_of _, gi_rg _⟩
  obtain ⟨v3, e3, r3⟩ : ∃ z : Int, xs 3 = Int32.ofInt z ∧ -2147483648 ≤ z ∧ z ≤ 2147483647 := ⟨_, gi_of _, gi_rg _⟩
  obtain ⟨v4, e4, r4⟩ : ∃ z : Int, xs 4 = Int32.ofInt z ∧ -2147483648 ≤ z ∧ z ≤ 2147483647 := ⟨_, gi_of _, gi_rg _⟩
  obtain ⟨v5, e5, r5⟩ : ∃ z : Int, xs 5 = Int32.ofInt z ∧ -2147483648 ≤ z ∧ z ≤ 2147483647 := ⟨_, gi_of _, gi_rg _⟩
  obtain ⟨v6, e6, r6⟩ : ∃ z : Int, xs 6 = Int32.ofInt z ∧ -2147483648 ≤ z ∧ z ≤ 2147483647 := ⟨_, gi_of _, gi_rg _⟩
  refine g_aload_n (n := 1716) X 2 dL_law_1715 rfl rfl rfl ?_
  refine g_aload_n (n := 1717) X 3 dL_law_1716 rfl rfl rfl ?_
  refine g_iload_n (n := 1718) X 0 dL_law_1717 rfl rfl rfl ?_
  refine g_iconst (n := 1719) X dL_law_1718 rfl ?_
  refine g_iadd (n := 1720) (z := 1) X dL_law_1719 rfl rfl ?_
  refine g_scrld (n := 1721) (z := v1) X hb (by omega) (by omega) (by omega) dL_law_1720 rfl e1 ?_
  refine g_aload_n (n := 1722) X 3 dL_law_1721 rfl rfl rfl ?_
  refine g_iload_n (n := 1723) X 0 dL_law_1722 rfl rfl rfl ?_
  refine g_iconst (n := 1724) X dL_law_1723 rfl ?_
  refine g_iadd (n := 1725) (z := 2) X dL_law_1724 rfl rfl ?_
  refine g_scrld (n := 1726) (z := v2) X hb (by omega) (by omega) (by omega) dL_law_1725 rfl e2 ?_
  refine g_aload_n (n := 1727) X 3 dL_law_1726 rfl rfl rfl ?_
  refine g_iload_n (n := 1728) X 0 dL_law_1727 rfl rfl rfl ?_
  refine g_iconst (n := 1729) X dL_law_1728 rfl ?_
  refine g_iadd (n := 1730) (z := 3) X dL_law_1729 rfl rfl ?_
  refine g_scrld (n := 1731) (z := v3) X hb (by omega) (by omega) (by omega) dL_law_1730 rfl e3 ?_
  refine g_callVi (n := 1734) (As := [gJ v1, gJ v2, gJ v3]) (rest := []) (cs1 := 206) (ss1 := 87467) X (c_X11_choice v1 v2 v3 (by omega) (by omega) (by omega) (by omega) f_0_0 f_1_6 f_15_7 f_15_4 f_15_5 f_15_6) okX11_choice kw_5_127 ⟨kw_5_128, kw_5_129⟩ ⟨rfl, rfl⟩ ⟨Nat.le_of_ble_eq_true rfl, Nat.le_of_ble_eq_true rfl⟩ rfl (by omega) (by omega) lay_0 rfl rfl (Nat.le_of_ble_eq_true rfl) ⟨Nat.le_of_ble_eq_true rfl, Nat.le_of_ble_eq_true rfl⟩ rfl rfl dL_law_1731 rfl (fun z1 M2 P3 => ?_)
  obtain ⟨P3, F4⟩ := P3
  refine g_aload_n (n := 1735) X 1 dL_law_1734 rfl rfl rfl ?_
  refine g_aload_n (n := 1736) X 3 dL_law_1735 rfl rfl rfl ?_
  refine g_iload_n (n := 1737) X 0 dL_law_1736 rfl rfl rfl ?_
  refine g_iconst (n := 1738) X dL_law_1737 rfl ?_
  refine g_iadd (n := 1739) (z := 1) X dL_law_1738 rfl rfl ?_
  refine g_scrld (n := 1740) (z := v1) X hb (by omega) (by omega) (by omega) dL_law_1739 rfl e1 ?_
  refine g_aload_n (n := 1741) X 3 dL_law_1740 rfl rfl rfl ?_
  refine g_iload_n (n := 1742) X 0 dL_law_1741 rfl rfl rfl ?_
  refine g_iconst (n := 1743) X dL_law_1742 rfl ?_
  refine g_iadd (n := 1744) (z := 2) X dL_law_1743 rfl rfl ?_
  refine g_scrld (n := 1745) (z := v2) X hb (by omega) (by omega) (by omega) dL_law_1744 rfl e2 ?_
  refine g_aload_n (n := 1746) X 3 dL_law_1745 rfl rfl rfl ?_
  refine g_iload_n (n := 1747) X 0 dL_law_1746 rfl rfl rfl ?_
  refine g_iconst (n := 1748) X dL_law_1747 rfl ?_
  refine g_iadd (n := 1749) (z := 3) X dL_law_1748 rfl rfl ?_
  refine g_scrld (n := 1750) (z := v3) X hb (by omega) (by omega) (by omega) dL_law_1749 rfl e3 ?_
  refine g_callVi (n := 1753) (As := [gJ v1, gJ v2, gJ v3]) (rest := [gJ z1]) (cs1 := 206) (ss1 := 87467) X (c_X12_choice v1 v2 v3 (by omega) (by omega) (by omega) (by omega) ((congrFun (F4 190 (by omega) (by omega) (by omega) (by omega)) _).trans f_190_1) ((congrFun (F4 191 (by omega) (by omega) (by omega) (by omega)) _).trans ((hS 7 (by omega) (by omega)).trans (by decide)))) okX12_choice kw_7_232 ⟨kw_7_233, kw_7_234⟩ ⟨rfl, rfl⟩ ⟨Nat.le_of_ble_eq_true rfl, Nat.le_of_ble_eq_true rfl⟩ rfl (by omega) (by omega) lay_190 rfl rfl (Nat.le_of_ble_eq_true rfl) ⟨Nat.le_of_ble_eq_true rfl, Nat.le_of_ble_eq_true rfl⟩ rfl rfl dL_law_1750 rfl (fun z5 M6 P7 => ?_)
  obtain ⟨P7, F8⟩ := P7
  refine g_icmp_eq (n := 1756) (tgt := 1992) X dL_law_1753 (by decide) (by omega) (by omega) rfl (fun c9 => ?_) (fun c9 => by exfalso; omega)
  exact law_tail X hr hb (by omega) (by omega)
theorem dL_law_1758 : decode code 1758 = .ok (.aload_n 1, 1) := by decide +kernel
theorem dL_law_1759 : decode code 1759 = .ok (.aload_n 0, 1) := by decide +kernel
theorem dL_law_1760 : decode code 1760 = .ok (.iload_n 3, 1) := by decide +kernel
theorem dL_law_1761 : decode code 1761 = .ok (.iconst 1, 1) := by decide +kernel
theorem dL_law_1762 : decode code 1762 = .ok (.iadd, 1) := by decide +kernel
theorem dL_law_1763 : decode code 1763 = .ok (.iaload, 1) := by decide +kernel
theorem dL_law_1764 : decode code 1764 = .ok (.aload_n 0, 1) := by decide +kernel
theorem dL_law_1765 : decode code 1765 = .ok (.iload_n 3, 1) := by decide +kernel
theorem dL_law_1766 : decode code 1766 = .ok (.iconst 2, 1) := by decide +kernel
theorem dL_law_1767 : decode code 1767 = .ok (.iadd, 1) := by decide +kernel
theorem dL_law_1768 : decode code 1768 = .ok (.iaload, 1) := by decide +kernel
theorem dL_law_1769 : decode code 1769 = .ok (.i2l, 1) := by decide +kernel
theorem dL_law_1770 : decode code 1770 = .ok (.bipush 32, 2) := by decide +kernel
theorem dL_law_1772 : decode code 1772 = .ok (.lshl, 1) := by decide +kernel
theorem dL_law_1773 : decode code 1773 = .ok (.aload_n 0, 1) := by decide +kernel
theorem dL_law_1774 : decode code 1774 = .ok (.iload_n 3, 1) := by decide +kernel
theorem dL_law_1775 : decode code 1775 = .ok (.iconst 3, 1) := by decide +kernel
theorem dL_law_1776 : decode code 1776 = .ok (.iadd, 1) := by decide +kernel
theorem dL_law_1777 : decode code 1777 = .ok (.iaload, 1) := by decide +kernel
theorem dL_law_1778 : decode code 1778 = .ok (.i2l, 1) := by decide +kernel
theorem dL_law_1779 : decode code 1779 = .ok (.ldc2_w 73, 3) := by decide +kernel
theorem dL_law_1782 : decode code 1782 = .ok (.land, 1) := by decide +kernel
theorem dL_law_1783 : decode code 1783 = .ok (.lor, 1) := by decide +kernel
theorem dL_law_1784 : decode code 1784 = .ok (.aload_n 0, 1) := by decide +kernel
theorem dL_law_1785 : decode code 1785 = .ok (.iload_n 3, 1) := by decide +kernel
theorem dL_law_1786 : decode code 1786 = .ok (.iconst 4, 1) := by decide +kernel
theorem dL_law_1787 : decode code 1787 = .ok (.iadd, 1) := by decide +kernel
theorem dL_law_1788 : decode code 1788 = .ok (.iaload, 1) := by decide +kernel
theorem dL_law_1789 : decode code 1789 = .ok (.invokevirtual 178, 3) := by decide +kernel
theorem kw_5_135 : (Jvm.Cond.methodLink "ParishUnionLaw" (178 : Nat) ({ cls := "ParishUnion", name := "frosts", desc := "(IJI)I" } : Jvm.MethodName)) ∈ gT := gT_of (tb_5 _ (List.mem_of_getElem? (i := 135) rfl)) rfl
theorem kw_5_138 : (Jvm.Cond.code ({ cls := "ParishUnion", name := "frosts", desc := "(IJI)I" } : Jvm.MethodName) prog_1_method_40_code (8 : Nat) (Option.some Jvm.ClassFile.FieldType.int)) ∈ gT := gT_of (tb_5 _ (List.mem_of_getElem? (i := 138) rfl)) rfl
theorem okX11_frosts : gQok yX11_frosts cX11_frosts 8 (Option.some Jvm.ClassFile.FieldType.int) 3 := ⟨kw_5_138, kw_1_1, by decide +kernel, by decide +kernel, by decide +kernel⟩
theorem kw_5_136 : (Jvm.Cond.instanceMethod ({ cls := "ParishUnion", name := "frosts", desc := "(IJI)I" } : Jvm.MethodName)) ∈ gT := gT_of (tb_5 _ (List.mem_of_getElem? (i := 136) rfl)) rfl
theorem kw_5_137 : (Jvm.Cond.selects "ParishUnion" ({ cls := "ParishUnion", name := "frosts", desc := "(IJI)I" } : Jvm.MethodName) ({ cls := "ParishUnion", name := "frosts", desc := "(IJI)I" } : Jvm.MethodName)) ∈ gT := gT_of (tb_5 _ (List.mem_of_getElem? (i := 137) rfl)) rfl
theorem dL_law_1792 : decode code 1792 = .ok (.aload_n 2, 1) := by decide +kernel
theorem dL_law_1793 : decode code 1793 = .ok (.aload_n 0, 1) := by decide +kernel
theorem dL_law_1794 : decode code 1794 = .ok (.iload_n 3, 1) := by decide +kernel
theorem dL_law_1795 : decode code 1795 = .ok (.iconst 1, 1) := by decide +kernel
theorem dL_law_1796 : decode code 1796 = .ok (.iadd, 1) := by decide +kernel
theorem dL_law_1797 : decode code 1797 = .ok (.iaload, 1) := by decide +kernel
theorem dL_law_1798 : decode code 1798 = .ok (.aload_n 0, 1) := by decide +kernel
theorem dL_law_1799 : decode code 1799 = .ok (.iload_n 3, 1) := by decide +kernel
theorem dL_law_1800 : decode code 1800 = .ok (.iconst 2, 1) := by decide +kernel
theorem dL_law_1801 : decode code 1801 = .ok (.iadd, 1) := by decide +kernel
theorem dL_law_1802 : decode code 1802 = .ok (.iaload, 1) := by decide +kernel
theorem dL_law_1803 : decode code 1803 = .ok (.i2l, 1) := by decide +kernel
theorem dL_law_1804 : decode code 1804 = .ok (.bipush 32, 2) := by decide +kernel
theorem dL_law_1806 : decode code 1806 = .ok (.lshl, 1) := by decide +kernel
theorem dL_law_1807 : decode code 1807 = .ok (.aload_n 0, 1) := by decide +kernel
theorem dL_law_1808 : decode code 1808 = .ok (.iload_n 3, 1) := by decide +kernel
theorem dL_law_1809 : decode code 1809 = .ok (.iconst 3, 1) := by decide +kernel
theorem dL_law_1810 : decode code 1810 = .ok (.iadd, 1) := by decide +kernel
theorem dL_law_1811 : decode code 1811 = .ok (.iaload, 1) := by decide +kernel
theorem dL_law_1812 : decode code 1812 = .ok (.i2l, 1) := by decide +kernel
theorem dL_law_1813 : decode code 1813 = .ok (.ldc2_w 73, 3) := by decide +kernel
theorem dL_law_1816 : decode code 1816 = .ok (.land, 1) := by decide +kernel
theorem dL_law_1817 : decode code 1817 = .ok (.lor, 1) := by decide +kernel
theorem dL_law_1818 : decode code 1818 = .ok (.aload_n 0, 1) := by decide +kernel
theorem dL_law_1819 : decode code 1819 = .ok (.iload_n 3, 1) := by decide +kernel
theorem dL_law_1820 : decode code 1820 = .ok (.iconst 4, 1) := by decide +kernel
theorem dL_law_1821 : decode code 1821 = .ok (.iadd, 1) := by decide +kernel
theorem dL_law_1822 : decode code 1822 = .ok (.iaload, 1) := by decide +kernel
theorem dL_law_1823 : decode code 1823 = .ok (.invokevirtual 182, 3) := by decide +kernel
theorem kw_7_236 : (Jvm.Cond.methodLink "ParishUnionLaw" (182 : Nat) ({ cls := "ParishUnionModel", name := "frosts", desc := "(IJI)I" } : Jvm.MethodName)) ∈ gT := gT_of (tb_7 _ (List.mem_of_getElem? (i := 236) rfl)) rfl
theorem kw_7_239 : (Jvm.Cond.code ({ cls := "ParishUnionModel", name := "frosts", desc := "(IJI)I" } : Jvm.MethodName) prog_14_method_95_code (10 : Nat) (Option.some Jvm.ClassFile.FieldType.int)) ∈ gT := gT_of (tb_7 _ (List.mem_of_getElem? (i := 239) rfl)) rfl
theorem okX12_frosts : gQok yX12_frosts cX12_frosts 10 (Option.some Jvm.ClassFile.FieldType.int) 3 := ⟨kw_7_239, kw_1_13, by decide +kernel, by decide +kernel, by decide +kernel⟩
theorem kw_7_237 : (Jvm.Cond.instanceMethod ({ cls := "ParishUnionModel", name := "frosts", desc := "(IJI)I" } : Jvm.MethodName)) ∈ gT := gT_of (tb_7 _ (List.mem_of_getElem? (i := 237) rfl)) rfl
theorem kw_7_238 : (Jvm.Cond.selects "ParishUnionModel" ({ cls := "ParishUnionModel", name := "frosts", desc := "(IJI)I" } : Jvm.MethodName) ({ cls := "ParishUnionModel", name := "frosts", desc := "(IJI)I" } : Jvm.MethodName)) ∈ gT := gT_of (tb_7 _ (List.mem_of_getElem? (i := 238) rfl)) rfl
theorem dL_law_1826 : decode code 1826 = .ok (.if_icmp .eq 166, 3) := by decide +kernel
set_option maxRecDepth 100000 in
set_option maxHeartbeats 4000000 in
theorem law_case_38 {p : Program} {e : Env} {s : State} {m : MethodId} {below : List Frame} {meth : Method} {c : Code} {l : Launch} {D : va_G} {cA : Nat → ClassId} {b : Nat} {xs : Nat → Int32} (X : gCx p s m #[Value.ref b] meth c s.heap.size D cA "ParishUnionLaw" code 4) (hr : meth.sig.returnType = ret) (hb : b < s.heap.size ∧ va_X b 7 xs s s.heap) {M : gM} (hFr : gFr M) : G p l e room_1 s m #[Value.ref b] below meth c s.heap.size D cA 4 (lw_Z below #[Value.ref b] s) 206 87467 M 206 1758 [(3, gJ 0), (2, gA s.heap.size 190), (1, gA s.heap.size 0), (0, .ref b)] [] := by
  obtain ⟨f_0_0, f_0_1, f_0_2, f_0_3, f_0_4, f_0_5, f_0_6, f_0_7, f_0_8, f_0_9, f_1_0, f_1_1, f_1_2, f_1_3, f_1_4, f_1_5, f_1_6, f_1_7, f_1_8, f_1_9, f_1_10, f_1_11, f_1_12, f_1_13, f_1_14, f_1_15, f_2_0, f_2_1, f_5_0, f_7_0, f_9_0, f_9_1, f_9_2, f_9_3, f_9_4, f_9_5, f_15_0, f_15_1, f_15_2, f_15_3, f_15_4, f_15_5, f_15_6, f_15_7, f_15_8, f_15_9, f_23_0, f_23_1, f_26_0, f_26_1, f_26_2, f_26_3, f_87_0, f_87_1, f_87_2, f_87_3, f_87_4, f_153_0, f_153_1, f_153_2, f_153_3, f_153_4, f_159_0, f_190_0, f_190_1, f_190_2, f_190_3, f_190_4, f_190_5, f_190_6, f_190_7, f_190_8, f_190_9, f_190_10, f_190_11, f_190_12, f_190_13, f_190_14, f_190_15, f_190_16, f_190_17, f_190_18, f_190_19, f_190_20, f_190_21, f_190_22, f_190_23, rents, way, beds, frost0, rows0, rooms0, tape0, car0, hS⟩ := hFr
  obtain ⟨v0, e0, r0⟩ : ∃ z : Int, xs 0 = Int32.ofInt z ∧ -2147483648 ≤ z ∧ z ≤ 2147483647 := ⟨_, gi_of _, gi_rg _⟩
  obtain ⟨v1, e1, r1⟩ : ∃ z : Int, xs 1 = Int32.ofInt z ∧ -2147483648 ≤ z ∧ z ≤ 2147483647 := ⟨_, gi_of _, gi_rg _⟩
  obtain ⟨v2, e2, r2⟩ : ∃ z : Int, xs 2 = Int32.ofInt z ∧ -2147483648 ≤ z ∧ z ≤ 2147483647 := ⟨_, gi_of _, gi_rg _⟩
  obtain ⟨v3, e3, r3⟩ : ∃ z : Int, xs 3 = Int32.ofInt z ∧ -2147483648 ≤ z ∧ z ≤ 2147483647 := ⟨_, gi_of _, gi_rg _⟩
  obtain ⟨v4, e4, r4⟩ : ∃ z : Int, xs 4 = Int32.ofInt z ∧ -2147483648 ≤ z ∧ z ≤ 2147483647 := ⟨_, gi_of _, gi_rg _⟩
  obtain ⟨v5, e5, r5⟩ : ∃ z : Int, xs 5 = Int32.ofInt z ∧ -2147483648 ≤ z ∧ z ≤ 2147483647 := ⟨_, gi_of _, gi_rg _⟩
  obtain ⟨v6, e6, r6⟩ : ∃ z : Int, xs 6 = Int32.ofInt z ∧ -2147483648 ≤ z ∧ z ≤ 2147483647 := ⟨_, gi_of _, gi_rg _⟩
  refine g_aload_n (n := 1759) X 2 dL_law_1758 rfl rfl rfl ?_
  refine g_aload_n (n := 1760) X 3 dL_law_1759 rfl rfl rfl ?_
  refine g_iload_n (n := 1761) X 0 dL_law_1760 rfl rfl rfl ?_
  refine g_iconst (n := 1762) X dL_law_1761 rfl ?_
  refine g_iadd (n := 1763) (z := 1) X dL_law_1762 rfl rfl ?_
  refine g_scrld (n := 1764) (z := v1) X hb (by omega) (by omega) (by omega) dL_law_1763 rfl e1 ?_
  refine g_aload_n (n := 1765) X 3 dL_law_1764 rfl rfl rfl ?_
  refine g_iload_n (n := 1766) X 0 dL_law_1765 rfl rfl rfl ?_
  refine g_iconst (n := 1767) X dL_law_1766 rfl ?_
  refine g_iadd (n := 1768) (z := 2) X dL_law_1767 rfl rfl ?_
  refine g_scrld (n := 1769) (z := v2) X hb (by omega) (by omega) (by omega) dL_law_1768 rfl e2 ?_
  refine g_i2lE (n := 1770) (z := ((Int32.ofInt v2).toInt64).toInt) X dL_law_1769 (gl_of _) rfl ?_
  refine g_bipush (n := 1772) X dL_law_1770 (by decide +kernel) rfl ?_
  refine g_lshlE (n := 1773) (z := (Int64.ofInt (((Int32.ofInt v2).toInt64).toInt) <<< ((Int32.ofInt 32).toInt64 &&& 63)).toInt) X dL_law_1772 (gl_of _) rfl ?_
  refine g_aload_n (n := 1774) X 3 dL_law_1773 rfl rfl rfl ?_
  refine g_iload_n (n := 1775) X 0 dL_law_1774 rfl rfl rfl ?_
  refine g_iconst (n := 1776) X dL_law_1775 rfl ?_
  refine g_iadd (n := 1777) (z := 3) X dL_law_1776 rfl rfl ?_
  refine g_scrld (n := 1778) (z := v3) X hb (by omega) (by omega) (by omega) dL_law_1777 rfl e3 ?_
  refine g_i2lE (n := 1779) (z := ((Int32.ofInt v3).toInt64).toInt) X dL_law_1778 (gl_of _) rfl ?_
  refine g_ldc2 (n := 1782) (z := 4294967295) X dL_law_1779 kw_8_53 (by decide +kernel) rfl ?_
  refine g_landE (n := 1783) (z := (Int64.ofInt (((Int32.ofInt v3).toInt64).toInt) &&& Int64.ofInt 4294967295).toInt) X dL_law_1782 (gl_of _) rfl ?_
  refine g_lorE (n := 1784) (z := (Int64.ofInt ((Int64.ofInt (((Int32.ofInt v2).toInt64).toInt) <<< ((Int32.ofInt 32).toInt64 &&& 63)).toInt) ||| Int64.ofInt ((Int64.ofInt (((Int32.ofInt v3).toInt64).toInt) &&& Int64.ofInt 4294967295).toInt)).toInt) X dL_law_1783 (gl_of _) rfl ?_
  refine g_aload_n (n := 1785) X 3 dL_law_1784 rfl rfl rfl ?_
  refine g_iload_n (n := 1786) X 0 dL_law_1785 rfl rfl rfl ?_
  refine g_iconst (n := 1787) X dL_law_1786 rfl ?_
  refine g_iadd (n := 1788) (z := 4) X dL_law_1787 rfl rfl ?_
  refine g_scrld (n := 1789) (z := v4) X hb (by omega) (by omega) (by omega) dL_law_1788 rfl e4 ?_
  refine g_callVi (n := 1792) (As := [gJ v1, gV ((Int64.ofInt ((Int64.ofInt (((Int32.ofInt v2).toInt64).toInt) <<< ((Int32.ofInt 32).toInt64 &&& 63)).toInt) ||| Int64.ofInt ((Int64.ofInt (((Int32.ofInt v3).toInt64).toInt) &&& Int64.ofInt 4294967295).toInt)).toInt), gJ v4]) (rest := []) (cs1 := 206) (ss1 := 87467) X (c_X11_frosts v1 ((Int64.ofInt ((Int64.ofInt (((Int32.ofInt v2).toInt64).toInt) <<< ((Int32.ofInt 32).toInt64 &&& 63)).toInt) ||| Int64.ofInt ((Int64.ofInt (((Int32.ofInt v3).toInt64).toInt) &&& Int64.ofInt 4294967295).toInt)).toInt) v4 (by omega) (by omega) (by omega) (by omega) f_0_0 f_1_6 f_15_3 f_15_2) okX11_frosts kw_5_135 ⟨kw_5_136, kw_5_137⟩ ⟨rfl, rfl⟩ ⟨Nat.le_of_ble_eq_true rfl, Nat.le_of_ble_eq_true rfl⟩ rfl (by omega) (by omega) lay_0 rfl rfl (Nat.le_of_ble_eq_true rfl) ⟨Nat.le_of_ble_eq_true rfl, Nat.le_of_ble_eq_true rfl⟩ rfl rfl dL_law_1789 rfl (fun z1 M2 P3 => ?_)
  obtain ⟨P3, F4⟩ := P3
  refine g_aload_n (n := 1793) X 1 dL_law_1792 rfl rfl rfl ?_
  refine g_aload_n (n := 1794) X 3 dL_law_1793 rfl rfl rfl ?_
  refine g_iload_n (n := 1795) X 0 dL_law_1794 rfl rfl rfl ?_
  refine g_iconst (n := 1796) X dL_law_1795 rfl ?_
  refine g_iadd (n := 1797) (z := 1) X dL_law_1796 rfl rfl ?_
  refine g_scrld (n := 1798) (z := v1) X hb (by omega) (by omega) (by omega) dL_law_1797 rfl e1 ?_
  refine g_aload_n (n := 1799) X 3 dL_law_1798 rfl rfl rfl ?_
  refine g_iload_n (n := 1800) X 0 dL_law_1799 rfl rfl rfl ?_
  refine g_iconst (n := 1801) X dL_law_1800 rfl ?_
  refine g_iadd (n := 1802) (z := 2) X dL_law_1801 rfl rfl ?_
  refine g_scrld (n := 1803) (z := v2) X hb (by omega) (by omega) (by omega) dL_law_1802 rfl e2 ?_
  refine g_i2lE (n := 1804) (z := ((Int32.ofInt v2).toInt64).toInt) X dL_law_1803 (gl_of _) rfl ?_
  refine g_bipush (n := 1806) X dL_law_1804 (by decide +kernel) rfl ?_
  refine g_lshlE (n := 1807) (z := (Int64.ofInt (((Int32.ofInt v2).toInt64).toInt) <<< ((Int32.ofInt 32).toInt64 &&& 63)).toInt) X dL_law_1806 (gl_of _) rfl ?_
  refine g_aload_n (n := 1808) X 3 dL_law_1807 rfl rfl rfl ?_
  refine g_iload_n (n := 1809) X 0 dL_law_1808 rfl rfl rfl ?_
  refine g_iconst (n := 1810) X dL_law_1809 rfl ?_
  refine g_iadd (n := 1811) (z := 3) X dL_law_1810 rfl rfl ?_
  refine g_scrld (n := 1812) (z := v3) X hb (by omega) (by omega) (by omega) dL_law_1811 rfl e3 ?_
  refine g_i2lE (n := 1813) (z := ((Int32.ofInt v3).toInt64).toInt) X dL_law_1812 (gl_of _) rfl ?_
  refine g_ldc2 (n := 1816) (z := 4294967295) X dL_law_1813 kw_8_53 (by decide +kernel) rfl ?_
  refine g_landE (n := 1817) (z := (Int64.ofInt (((Int32.ofInt v3).toInt64).toInt) &&& Int64.ofInt 4294967295).toInt) X dL_law_1816 (gl_of _) rfl ?_
  refine g_lorE (n := 1818) (z := (Int64.ofInt ((Int64.ofInt (((Int32.ofInt v2).toInt64).toInt) <<< ((Int32.ofInt 32).toInt64 &&& 63)).toInt) ||| Int64.ofInt ((Int64.ofInt (((Int32.ofInt v3).toInt64).toInt) &&& Int64.ofInt 4294967295).toInt)).toInt) X dL_law_1817 (gl_of _) rfl ?_
  refine g_aload_n (n := 1819) X 3 dL_law_1818 rfl rfl rfl ?_
  refine g_iload_n (n := 1820) X 0 dL_law_1819 rfl rfl rfl ?_
  refine g_iconst (n := 1821) X dL_law_1820 rfl ?_
  refine g_iadd (n := 1822) (z := 4) X dL_law_1821 rfl rfl ?_
  refine g_scrld (n := 1823) (z := v4) X hb (by omega) (by omega) (by omega) dL_law_1822 rfl e4 ?_
  refine g_callVi (n := 1826) (As := [gJ v1, gV ((Int64.ofInt ((Int64.ofInt (((Int32.ofInt v2).toInt64).toInt) <<< ((Int32.ofInt 32).toInt64 &&& 63)).toInt) ||| Int64.ofInt ((Int64.ofInt (((Int32.ofInt v3).toInt64).toInt) &&& Int64.ofInt 4294967295).toInt)).toInt), gJ v4]) (rest := [gJ z1]) (cs1 := 206) (ss1 := 87467) X (c_X12_frosts v1 ((Int64.ofInt ((Int64.ofInt (((Int32.ofInt v2).toInt64).toInt) <<< ((Int32.ofInt 32).toInt64 &&& 63)).toInt) ||| Int64.ofInt ((Int64.ofInt (((Int32.ofInt v3).toInt64).toInt) &&& Int64.ofInt 4294967295).toInt)).toInt) v4 (by omega) (by omega) (by omega) (by omega) ((congrFun (F4 190 (by omega) (by omega)) _).trans f_190_1)) okX12_frosts kw_7_236 ⟨kw_7_237, kw_7_238⟩ ⟨rfl, rfl⟩ ⟨Nat.le_of_ble_eq_true rfl, Nat.le_of_ble_eq_true rfl⟩ rfl (by omega) (by omega) lay_190 rfl rfl (Nat.le_of_ble_eq_true rfl) ⟨Nat.le_of_ble_eq_true rfl, Nat.le_of_ble_eq_true rfl⟩ rfl rfl dL_law_1823 rfl (fun z5 M6 P7 => ?_)
  obtain ⟨P7, F8⟩ := P7
  refine g_icmp_eq (n := 1829) (tgt := 1992) X dL_law_1826 (by decide) (by omega) (by omega) rfl (fun c9 => ?_) (fun c9 => by exfalso; omega)
  exact law_tail X hr hb (by omega) (by omega)
theorem dL_law_1831 : decode code 1831 = .ok (.aload_n 1, 1) := by decide +kernel
theorem dL_law_1832 : decode code 1832 = .ok (.aload_n 0, 1) := by decide +kernel
theorem dL_law_1833 : decode code 1833 = .ok (.iload_n 3, 1) := by decide +kernel
theorem dL_law_1834 : decode code 1834 = .ok (.iconst 1, 1) := by decide +kernel
theorem dL_law_1835 : decode code 1835 = .ok (.iadd, 1) := by decide +kernel
theorem dL_law_1836 : decode code 1836 = .ok (.iaload, 1) := by decide +kernel
theorem dL_law_1837 : decode code 1837 = .ok (.invokevirtual 183, 3) := by decide +kernel
theorem kw_5_145 : (Jvm.Cond.methodLink "ParishUnionLaw" (183 : Nat) ({ cls := "ParishUnion", name := "plan", desc := "(I)I" } : Jvm.MethodName)) ∈ gT := gT_of (tb_5 _ (List.mem_of_getElem? (i := 145) rfl)) rfl
theorem kw_5_148 : (Jvm.Cond.code ({ cls := "ParishUnion", name := "plan", desc := "(I)I" } : Jvm.MethodName) prog_1_method_41_code (7 : Nat) (Option.some Jvm.ClassFile.FieldType.int)) ∈ gT := gT_of (tb_5 _ (List.mem_of_getElem? (i := 148) rfl)) rfl
theorem okX11_plan : gQok yX11_plan cX11_plan 7 (Option.some Jvm.ClassFile.FieldType.int) 1 := ⟨kw_5_148, kw_1_1, by decide +kernel, by decide +kernel, by decide +kernel⟩
theorem kw_5_146 : (Jvm.Cond.instanceMethod ({ cls := "ParishUnion", name := "plan", desc := "(I)I" } : Jvm.MethodName)) ∈ gT := gT_of (tb_5 _ (List.mem_of_getElem? (i := 146) rfl)) rfl
theorem kw_5_147 : (Jvm.Cond.selects "ParishUnion" ({ cls := "ParishUnion", name := "plan", desc := "(I)I" } : Jvm.MethodName) ({ cls := "ParishUnion", name := "plan", desc := "(I)I" } : Jvm.MethodName)) ∈ gT := gT_of (tb_5 _ (List.mem_of_getElem? (i := 147) rfl)) rfl
theorem dL_law_1840 : decode code 1840 = .ok (.aload_n 2, 1) := by decide +kernel
theorem dL_law_1841 : decode code 1841 = .ok (.aload_n 0, 1) := by decide +kernel
theorem dL_law_1842 : decode code 1842 = .ok (.iload_n 3, 1) := by decide +kernel
theorem dL_law_1843 : decode code 1843 = .ok (.iconst 1, 1) := by decide +kernel
theorem dL_law_1844 : decode code 1844 = .ok (.iadd, 1) := by decide +kernel
theorem dL_law_1845 : decode code 1845 = .ok (.iaload, 1) := by decide +kernel
theorem dL_law_1846 : decode code 1846 = .ok (.invokevirtual 186, 3) := by decide +kernel
theorem kw_8_1 : (Jvm.Cond.methodLink "ParishUnionLaw" (186 : Nat) ({ cls := "ParishUnionModel", name := "plan", desc := "(I)I" } : Jvm.MethodName)) ∈ gT := gT_of (tb_8 _ (List.mem_of_getElem? (i := 1) rfl)) rfl
theorem kw_8_4 : (Jvm.Cond.code ({ cls := "ParishUnionModel", name := "plan", desc := "(I)I" } : Jvm.MethodName) prog_14_method_101_code (8 : Nat) (Option.some Jvm.ClassFile.FieldType.int)) ∈ gT := gT_of (tb_8 _ (List.mem_of_getElem? (i := 4) rfl)) rfl
theorem okX12_plan : gQok yX12_plan cX12_plan 8 (Option.some Jvm.ClassFile.FieldType.int) 1 := ⟨kw_8_4, kw_1_13, by decide +kernel, by decide +kernel, by decide +kernel⟩
theorem kw_8_2 : (Jvm.Cond.instanceMethod ({ cls := "ParishUnionModel", name := "plan", desc := "(I)I" } : Jvm.MethodName)) ∈ gT := gT_of (tb_8 _ (List.mem_of_getElem? (i := 2) rfl)) rfl
theorem kw_8_3 : (Jvm.Cond.selects "ParishUnionModel" ({ cls := "ParishUnionModel", name := "plan", desc := "(I)I" } : Jvm.MethodName) ({ cls := "ParishUnionModel", name := "plan", desc := "(I)I" } : Jvm.MethodName)) ∈ gT := gT_of (tb_8 _ (List.mem_of_getElem? (i := 3) rfl)) rfl
theorem dL_law_1849 : decode code 1849 = .ok (.if_icmp .eq 143, 3) := by decide +kernel
set_option maxRecDepth 100000 in
set_option maxHeartbeats 4000000 in
theorem law_case_39 {p : Program} {e : Env} {s : State} {m : MethodId} {below : List Frame} {meth : Method} {c : Code} {l : Launch} {D : va_G} {cA : Nat → ClassId} {b : Nat} {xs : Nat → Int32} (X : gCx p s m #[Value.ref b] meth c s.heap.size D cA "ParishUnionLaw" code 4) (hr : meth.sig.returnType = ret) (hb : b < s.heap.size ∧ va_X b 7 xs s s.heap) {M : gM} (hFr : gFr M) : G p l e room_1 s m #[Value.ref b] below meth c s.heap.size D cA 4 (lw_Z below #[Value.ref b] s) 206 87467 M 206 1831 [(3, gJ 0), (2, gA s.heap.size 190), (1, gA s.heap.size 0), (0, .ref b)] [] := by
  obtain ⟨f_0_0, f_0_1, f_0_2, f_0_3, f_0_4, f_0_5, f_0_6, f_0_7, f_0_8, f_0_9, f_1_0, f_1_1, f_1_2, f_1_3, f_1_4, f_1_5, f_1_6, f_1_7, f_1_8, f_1_9, f_1_10, f_1_11, f_1_12, f_1_13, f_1_14, f_1_15, f_2_0, f_2_1, f_5_0, f_7_0, f_9_0, f_9_1, f_9_2, f_9_3, f_9_4, f_9_5, f_15_0, f_15_1, f_15_2, f_15_3, f_15_4, f_15_5, f_15_6, f_15_7, f_15_8, f_15_9, f_23_0, f_23_1, f_26_0, f_26_1, f_26_2, f_26_3, f_87_0, f_87_1, f_87_2, f_87_3, f_87_4, f_153_0, f_153_1, f_153_2, f_153_3, f_153_4, f_159_0, f_190_0, f_190_1, f_190_2, f_190_3, f_190_4, f_190_5, f_190_6, f_190_7, f_190_8, f_190_9, f_190_10, f_190_11, f_190_12, f_190_13, f_190_14, f_190_15, f_190_16, f_190_17, f_190_18, f_190_19, f_190_20, f_190_21, f_190_22, f_190_23, rents, way, beds, frost0, rows0, rooms0, tape0, car0, hS⟩ := hFr
  obtain ⟨v0, e0, r0⟩ : ∃ z : Int, xs 0 = Int32.ofInt z ∧ -2147483648 ≤ z ∧ z ≤ 2147483647 := ⟨_, gi_of _, gi_rg _⟩
  obtain ⟨v1, e1, r1⟩ : ∃ z : Int, xs 1 = Int32.ofInt z ∧ -2147483648 ≤ z ∧ z ≤ 2147483647 := ⟨_, gi_of _, gi_rg _⟩
  obtain ⟨v2, e2, r2⟩ : ∃ z : Int, xs 2 = Int32.ofInt z ∧ -2147483648 ≤ z ∧ z ≤ 2147483647 := ⟨_, gi_of _, gi_rg _⟩
  obtain ⟨v3, e3, r3⟩ : ∃ z : Int, xs 3 = Int32.ofInt z ∧ -2147483648 ≤ z ∧ z ≤ 2147483647 := ⟨_, gi_of _, gi_rg _⟩
  obtain ⟨v4, e4, r4⟩ : ∃ z : Int, xs 4 = Int32.ofInt z ∧ -2147483648 ≤ z ∧ z ≤ 2147483647 := ⟨_, gi_of _, gi_rg _⟩
  obtain ⟨v5, e5, r5⟩ : ∃ z : Int, xs 5 = Int32.ofInt z ∧ -2147483648 ≤ z ∧ z ≤ 2147483647 := ⟨_, gi_of _, gi_rg _⟩
  obtain ⟨v6, e6, r6⟩ : ∃ z : Int, xs 6 = Int32.ofInt z ∧ -2147483648 ≤ z ∧ z ≤ 2147483647 := ⟨_, gi_of _, gi_rg _⟩
  refine g_aload_n (n := 1832) X 2 dL_law_1831 rfl rfl rfl ?_
  refine g_aload_n (n := 1833) X 3 dL_law_1832 rfl rfl rfl ?_
  refine g_iload_n (n := 1834) X 0 dL_law_1833 rfl rfl rfl ?_
  refine g_iconst (n := 1835) X dL_law_1834 rfl ?_
  refine g_iadd (n := 1836) (z := 1) X dL_law_1835 rfl rfl ?_
  refine g_scrld (n := 1837) (z := v1) X hb (by omega) (by omega) (by omega) dL_law_1836 rfl e1 ?_
  refine g_callVi (n := 1840) (As := [gJ v1]) (rest := []) (cs1 := 206) (ss1 := 87467) X (c_X11_plan v1 (by omega) (by omega) f_0_0 f_1_15 f_1_6 f_15_2 rows0) okX11_plan kw_5_145 ⟨kw_5_146, kw_5_147⟩ ⟨rfl, rfl⟩ ⟨Nat.le_of_ble_eq_true rfl, Nat.le_of_ble_eq_true rfl⟩ rfl (by omega) (by omega) lay_0 rfl rfl (Nat.le_of_ble_eq_true rfl) ⟨Nat.le_of_ble_eq_true rfl, Nat.le_of_ble_eq_true rfl⟩ rfl rfl dL_law_1837 rfl (fun z1 M2 P3 => ?_)
  obtain ⟨P3, F4⟩ := P3
  refine g_aload_n (n := 1841) X 1 dL_law_1840 rfl rfl rfl ?_
  refine g_aload_n (n := 1842) X 3 dL_law_1841 rfl rfl rfl ?_
  refine g_iload_n (n := 1843) X 0 dL_law_1842 rfl rfl rfl ?_
  refine g_iconst (n := 1844) X dL_law_1843 rfl ?_
  refine g_iadd (n := 1845) (z := 1) X dL_law_1844 rfl rfl ?_
  refine g_scrld (n := 1846) (z := v1) X hb (by omega) (by omega) (by omega) dL_law_1845 rfl e1 ?_
  refine g_callVi (n := 1849) (As := [gJ v1]) (rest := [gJ z1]) (cs1 := 206) (ss1 := 87467) X (c_X12_plan v1 (by omega) (by omega) ((congrFun (F4 190) _).trans f_190_1) (fun i h0 h1 => (congrFun ((F4 191).trans rfl) i).trans (hS i h0 h1))) okX12_plan kw_8_1 ⟨kw_8_2, kw_8_3⟩ ⟨rfl, rfl⟩ ⟨Nat.le_of_ble_eq_true rfl, Nat.le_of_ble_eq_true rfl⟩ rfl (by omega) (by omega) lay_190 rfl rfl (Nat.le_of_ble_eq_true rfl) ⟨Nat.le_of_ble_eq_true rfl, Nat.le_of_ble_eq_true rfl⟩ rfl rfl dL_law_1846 rfl (fun z5 M6 P7 => ?_)
  obtain ⟨P7, F8⟩ := P7
  refine g_icmp_eq (n := 1852) (tgt := 1992) X dL_law_1849 (by decide) (by omega) (by omega) rfl (fun c9 => ?_) (fun c9 => by exfalso; omega)
  exact law_tail X hr hb (by omega) (by omega)
theorem dL_law_1854 : decode code 1854 = .ok (.aload_n 1, 1) := by decide +kernel
theorem dL_law_1855 : decode code 1855 = .ok (.aload_n 0, 1) := by decide +kernel
theorem dL_law_1856 : decode code 1856 = .ok (.iload_n 3, 1) := by decide +kernel
theorem dL_law_1857 : decode code 1857 = .ok (.iconst 1, 1) := by decide +kernel
theorem dL_law_1858 : decode code 1858 = .ok (.iadd, 1) := by decide +kernel
theorem dL_law_1859 : decode code 1859 = .ok (.iaload, 1) := by decide +kernel
theorem dL_law_1860 : decode code 1860 = .ok (.aload_n 0, 1) := by decide +kernel
theorem dL_law_1861 : decode code 1861 = .ok (.iload_n 3, 1) := by decide +kernel
theorem dL_law_1862 : decode code 1862 = .ok (.iconst 2, 1) := by decide +kernel
theorem dL_law_1863 : decode code 1863 = .ok (.iadd, 1) := by decide +kernel
theorem dL_law_1864 : decode code 1864 = .ok (.iaload, 1) := by decide +kernel
theorem dL_law_1865 : decode code 1865 = .ok (.invokevirtual 187, 3) := by decide +kernel
theorem kw_5_192 : (Jvm.Cond.methodLink "ParishUnionLaw" (187 : Nat) ({ cls := "ParishUnion", name := "tried", desc := "(II)I" } : Jvm.MethodName)) ∈ gT := gT_of (tb_5 _ (List.mem_of_getElem? (i := 192) rfl)) rfl
theorem kw_5_195 : (Jvm.Cond.code ({ cls := "ParishUnion", name := "tried", desc := "(II)I" } : Jvm.MethodName) prog_1_method_42_code (6 : Nat) (Option.some Jvm.ClassFile.FieldType.int)) ∈ gT := gT_of (tb_5 _ (List.mem_of_getElem? (i := 195) rfl)) rfl
theorem okX11_tried : gQok yX11_tried cX11_tried 6 (Option.some Jvm.ClassFile.FieldType.int) 2 := ⟨kw_5_195, kw_1_1, by decide +kernel, by decide +kernel, by decide +kernel⟩
theorem kw_5_193 : (Jvm.Cond.instanceMethod ({ cls := "ParishUnion", name := "tried", desc := "(II)I" } : Jvm.MethodName)) ∈ gT := gT_of (tb_5 _ (List.mem_of_getElem? (i := 193) rfl)) rfl
theorem kw_5_194 : (Jvm.Cond.selects "ParishUnion" ({ cls := "ParishUnion", name := "tried", desc := "(II)I" } : Jvm.MethodName) ({ cls := "ParishUnion", name := "tried", desc := "(II)I" } : Jvm.MethodName)) ∈ gT := gT_of (tb_5 _ (List.mem_of_getElem? (i := 194) rfl)) rfl
theorem dL_law_1868 : decode code 1868 = .ok (.aload_n 2, 1) := by decide +kernel
theorem dL_law_1869 : decode code 1869 = .ok (.aload_n 0, 1) := by decide +kernel
theorem dL_law_1870 : decode code 1870 = .ok (.iload_n 3, 1) := by decide +kernel
theorem dL_law_1871 : decode code 1871 = .ok (.iconst 1, 1) := by decide +kernel
theorem dL_law_1872 : decode code 1872 = .ok (.iadd, 1) := by decide +kernel
theorem dL_law_1873 : decode code 1873 = .ok (.iaload, 1) := by decide +kernel
theorem dL_law_1874 : decode code 1874 = .ok (.aload_n 0, 1) := by decide +kernel
theorem dL_law_1875 : decode code 1875 = .ok (.iload_n 3, 1) := by decide +kernel
theorem dL_law_1876 : decode code 1876 = .ok (.iconst 2, 1) := by decide +kernel
theorem dL_law_1877 : decode code 1877 = .ok (.iadd, 1) := by decide +kernel
theorem dL_law_1878 : decode code 1878 = .ok (.iaload, 1) := by decide +kernel
theorem dL_law_1879 : decode code 1879 = .ok (.invokevirtual 190, 3) := by decide +kernel
theorem kw_8_25 : (Jvm.Cond.methodLink "ParishUnionLaw" (190 : Nat) ({ cls := "ParishUnionModel", name := "tried", desc := "(II)I" } : Jvm.MethodName)) ∈ gT := gT_of (tb_8 _ (List.mem_of_getElem? (i := 25) rfl)) rfl
theorem kw_8_28 : (Jvm.Cond.code ({ cls := "ParishUnionModel", name := "tried", desc := "(II)I" } : Jvm.MethodName) prog_14_method_102_code (9 : Nat) (Option.some Jvm.ClassFile.FieldType.int)) ∈ gT := gT_of (tb_8 _ (List.mem_of_getElem? (i := 28) rfl)) rfl
theorem okX12_tried : gQok yX12_tried cX12_tried 9 (Option.some Jvm.ClassFile.FieldType.int) 2 := ⟨kw_8_28, kw_1_13, by decide +kernel, by decide +kernel, by decide +kernel⟩
theorem kw_8_26 : (Jvm.Cond.instanceMethod ({ cls := "ParishUnionModel", name := "tried", desc := "(II)I" } : Jvm.MethodName)) ∈ gT := gT_of (tb_8 _ (List.mem_of_getElem? (i := 26) rfl)) rfl
theorem kw_8_27 : (Jvm.Cond.selects "ParishUnionModel" ({ cls := "ParishUnionModel", name := "tried", desc := "(II)I" } : Jvm.MethodName) ({ cls := "ParishUnionModel", name := "tried", desc := "(II)I" } : Jvm.MethodName)) ∈ gT := gT_of (tb_8 _ (List.mem_of_getElem? (i := 27) rfl)) rfl
theorem dL_law_1882 : decode code 1882 = .ok (.if_icmp .eq 110, 3) := by decide +kernel
set_option maxRecDepth 100000 in
set_option maxHeartbeats 4000000 in
theorem law_case_40 {p : Program} {e : Env} {s : State} {m : MethodId} {below : List Frame} {meth : Method} {c : Code} {l : Launch} {D : va_G} {cA : Nat → ClassId} {b : Nat} {xs : Nat → Int32} (X : gCx p s m #[Value.ref b] meth c s.heap.size D cA "ParishUnionLaw" code 4) (hr : meth.sig.returnType = ret) (hb : b < s.heap.size ∧ va_X b 7 xs s s.heap) {M : gM} (hFr : gFr M) : G p l e room_1 s m #[Value.ref b] below meth c s.heap.size D cA 4 (lw_Z below #[Value.ref b] s) 206 87467 M 206 1854 [(3, gJ 0), (2, gA s.heap.size 190), (1, gA s.heap.size 0), (0, .ref b)] [] := by
  obtain ⟨f_0_0, f_0_1, f_0_2, f_0_3, f_0_4, f_0_5, f_0_6, f_0_7, f_0_8, f_0_9, f_1_0, f_1_1, f_1_2, f_1_3, f_1_4, f_1_5, f_1_6, f_1_7, f_1_8, f_1_9, f_1_10, f_1_11, f_1_12, f_1_13, f_1_14, f_1_15, f_2_0, f_2_1, f_5_0, f_7_0, f_9_0, f_9_1, f_9_2, f_9_3, f_9_4, f_9_5, f_15_0, f_15_1, f_15_2, f_15_3, f_15_4, f_15_5, f_15_6, f_15_7, f_15_8, f_15_9, f_23_0, f_23_1, f_26_0, f_26_1, f_26_2, f_26_3, f_87_0, f_87_1, f_87_2, f_87_3, f_87_4, f_153_0, f_153_1, f_153_2, f_153_3, f_153_4, f_159_0, f_190_0, f_190_1, f_190_2, f_190_3, f_190_4, f_190_5, f_190_6, f_190_7, f_190_8, f_190_9, f_190_10, f_190_11, f_190_12, f_190_13, f_190_14, f_190_15, f_190_16, f_190_17, f_190_18, f_190_19, f_190_20, f_190_21, f_190_22, f_190_23, rents, way, beds, frost0, rows0, rooms0, tape0, car0, hS⟩ := hFr
  obtain ⟨v0, e0, r0⟩ : ∃ z : Int, xs 0 = Int32.ofInt z ∧ -2147483648 ≤ z ∧ z ≤ 2147483647 := ⟨_, gi_of _, gi_rg _⟩
  obtain ⟨v1, e1, r1⟩ : ∃ z : Int, xs 1 = Int32.ofInt z ∧ -2147483648 ≤ z ∧ z ≤ 2147483647 := ⟨_, gi_of _, gi_rg _⟩
  obtain ⟨v2, e2, r2⟩ : ∃ z : Int, xs 2 = Int32.ofInt z ∧ -2147483648 ≤ z ∧ z ≤ 2147483647 := ⟨_, gi_of _, gi_rg _⟩
  obtain ⟨v3, e3, r3⟩ : ∃ z : Int, xs 3 = Int32.ofInt z ∧ -2147483648 ≤ z ∧ z ≤ 2147483647 := ⟨_, gi_of _, gi_rg _⟩
  obtain ⟨v4, e4, r4⟩ : ∃ z : Int, xs 4 = Int32.ofInt z ∧ -2147483648 ≤ z ∧ z ≤ 2147483647 := ⟨_, gi_of _, gi_rg _⟩
  obtain ⟨v5, e5, r5⟩ : ∃ z : Int, xs 5 = Int32.ofInt z ∧ -2147483648 ≤ z ∧ z ≤ 2147483647 := ⟨_, gi_of _, gi_rg _⟩
  obtain ⟨v6, e6, r6⟩ : ∃ z : Int, xs 6 = Int32.ofInt z ∧ -2147483648 ≤ z ∧ z ≤ 2147483647 := ⟨_, gi_of _, gi_rg _⟩
  refine g_aload_n (n := 1855) X 2 dL_law_1854 rfl rfl rfl ?_
  refine g_aload_n (n := 1856) X 3 dL_law_1855 rfl rfl rfl ?_
  refine g_iload_n (n := 1857) X 0 dL_law_1856 rfl rfl rfl ?_
  refine g_iconst (n := 1858) X dL_law_1857 rfl ?_
  refine g_iadd (n := 1859) (z := 1) X dL_law_1858 rfl rfl ?_
  refine g_scrld (n := 1860) (z := v1) X hb (by omega) (by omega) (by omega) dL_law_1859 rfl e1 ?_
  refine g_aload_n (n := 1861) X 3 dL_law_1860 rfl rfl rfl ?_
  refine g_iload_n (n := 1862) X 0 dL_law_1861 rfl rfl rfl ?_
  refine g_iconst (n := 1863) X dL_law_1862 rfl ?_
  refine g_iadd (n := 1864) (z := 2) X dL_law_1863 rfl rfl ?_
  refine g_scrld (n := 1865) (z := v2) X hb (by omega) (by omega) (by omega) dL_law_1864 rfl e2 ?_
  refine g_callVi (n := 1868) (As := [gJ v1, gJ v2]) (rest := []) (cs1 := 206) (ss1 := 87467) X (c_X11_tried v1 v2 (by omega) (by omega) (by omega) f_0_0 f_1_6 f_15_2 rows0) okX11_tried kw_5_192 ⟨kw_5_193, kw_5_194⟩ ⟨rfl, rfl⟩ ⟨Nat.le_of_ble_eq_true rfl, Nat.le_of_ble_eq_true rfl⟩ rfl (by omega) (by omega) lay_0 rfl rfl (Nat.le_of_ble_eq_true rfl) ⟨Nat.le_of_ble_eq_true rfl, Nat.le_of_ble_eq_true rfl⟩ rfl rfl dL_law_1865 rfl (fun z1 M2 P3 => ?_)
  obtain ⟨P3, F4⟩ := P3
  refine g_aload_n (n := 1869) X 1 dL_law_1868 rfl rfl rfl ?_
  refine g_aload_n (n := 1870) X 3 dL_law_1869 rfl rfl rfl ?_
  refine g_iload_n (n := 1871) X 0 dL_law_1870 rfl rfl rfl ?_
  refine g_iconst (n := 1872) X dL_law_1871 rfl ?_
  refine g_iadd (n := 1873) (z := 1) X dL_law_1872 rfl rfl ?_
  refine g_scrld (n := 1874) (z := v1) X hb (by omega) (by omega) (by omega) dL_law_1873 rfl e1 ?_
  refine g_aload_n (n := 1875) X 3 dL_law_1874 rfl rfl rfl ?_
  refine g_iload_n (n := 1876) X 0 dL_law_1875 rfl rfl rfl ?_
  refine g_iconst (n := 1877) X dL_law_1876 rfl ?_
  refine g_iadd (n := 1878) (z := 2) X dL_law_1877 rfl rfl ?_
  refine g_scrld (n := 1879) (z := v2) X hb (by omega) (by omega) (by omega) dL_law_1878 rfl e2 ?_
  refine g_callVi (n := 1882) (As := [gJ v1, gJ v2]) (rest := [gJ z1]) (cs1 := 206) (ss1 := 87467) X (c_X12_tried v1 v2 (by omega) (by omega) (by omega) ((congrFun (F4 190) _).trans f_190_1) (fun i h0 h1 => (congrFun ((F4 191).trans rfl) i).trans (hS i h0 h1))) okX12_tried kw_8_25 ⟨kw_8_26, kw_8_27⟩ ⟨rfl, rfl⟩ ⟨Nat.le_of_ble_eq_true rfl, Nat.le_of_ble_eq_true rfl⟩ rfl (by omega) (by omega) lay_190 rfl rfl (Nat.le_of_ble_eq_true rfl) ⟨Nat.le_of_ble_eq_true rfl, Nat.le_of_ble_eq_true rfl⟩ rfl rfl dL_law_1879 rfl (fun z5 M6 P7 => ?_)
  obtain ⟨P7, F8⟩ := P7
  refine g_icmp_eq (n := 1885) (tgt := 1992) X dL_law_1882 (by decide) (by omega) (by omega) rfl (fun c9 => ?_) (fun c9 => by exfalso; omega)
  exact law_tail X hr hb (by omega) (by omega)
theorem dL_law_1887 : decode code 1887 = .ok (.aload_n 1, 1) := by decide +kernel
theorem dL_law_1888 : decode code 1888 = .ok (.aload_n 0, 1) := by decide +kernel
theorem dL_law_1889 : decode code 1889 = .ok (.iload_n 3, 1) := by decide +kernel
theorem dL_law_1890 : decode code 1890 = .ok (.iconst 1, 1) := by decide +kernel
theorem dL_law_1891 : decode code 1891 = .ok (.iadd, 1) := by decide +kernel
theorem dL_law_1892 : decode code 1892 = .ok (.iaload, 1) := by decide +kernel
theorem dL_law_1893 : decode code 1893 = .ok (.aload_n 0, 1) := by decide +kernel
theorem dL_law_1894 : decode code 1894 = .ok (.iload_n 3, 1) := by decide +kernel
theorem dL_law_1895 : decode code 1895 = .ok (.iconst 2, 1) := by decide +kernel
theorem dL_law_1896 : decode code 1896 = .ok (.iadd, 1) := by decide +kernel
theorem dL_law_1897 : decode code 1897 = .ok (.iaload, 1) := by decide +kernel
theorem dL_law_1898 : decode code 1898 = .ok (.invokevirtual 191, 3) := by decide +kernel
theorem kw_5_200 : (Jvm.Cond.methodLink "ParishUnionLaw" (191 : Nat) ({ cls := "ParishUnion", name := "told", desc := "(II)I" } : Jvm.MethodName)) ∈ gT := gT_of (tb_5 _ (List.mem_of_getElem? (i := 200) rfl)) rfl
theorem kw_5_203 : (Jvm.Cond.code ({ cls := "ParishUnion", name := "told", desc := "(II)I" } : Jvm.MethodName) prog_1_method_43_code (4 : Nat) (Option.some Jvm.ClassFile.FieldType.int)) ∈ gT := gT_of (tb_5 _ (List.mem_of_getElem? (i := 203) rfl)) rfl
theorem okX11_told : gQok yX11_told cX11_told 4 (Option.some Jvm.ClassFile.FieldType.int) 2 := ⟨kw_5_203, kw_1_1, by decide +kernel, by decide +kernel, by decide +kernel⟩
theorem kw_5_201 : (Jvm.Cond.instanceMethod ({ cls := "ParishUnion", name := "told", desc := "(II)I" } : Jvm.MethodName)) ∈ gT := gT_of (tb_5 _ (List.mem_of_getElem? (i := 201) rfl)) rfl
theorem kw_5_202 : (Jvm.Cond.selects "ParishUnion" ({ cls := "ParishUnion", name := "told", desc := "(II)I" } : Jvm.MethodName) ({ cls := "ParishUnion", name := "told", desc := "(II)I" } : Jvm.MethodName)) ∈ gT := gT_of (tb_5 _ (List.mem_of_getElem? (i := 202) rfl)) rfl
theorem dL_law_1901 : decode code 1901 = .ok (.aload_n 2, 1) := by decide +kernel
theorem dL_law_1902 : decode code 1902 = .ok (.aload_n 0, 1) := by decide +kernel
theorem dL_law_1903 : decode code 1903 = .ok (.iload_n 3, 1) := by decide +kernel
theorem dL_law_1904 : decode code 1904 = .ok (.iconst 1, 1) := by decide +kernel
theorem dL_law_1905 : decode code 1905 = .ok (.iadd, 1) := by decide +kernel
theorem dL_law_1906 : decode code 1906 = .ok (.iaload, 1) := by decide +kernel
theorem dL_law_1907 : decode code 1907 = .ok (.aload_n 0, 1) := by decide +kernel
theorem dL_law_1908 : decode code 1908 = .ok (.iload_n 3, 1) := by decide +kernel
theorem dL_law_1909 : decode code 1909 = .ok (.iconst 2, 1) := by decide +kernel
theorem dL_law_1910 : decode code 1910 = .ok (.iadd, 1) := by decide +kernel
theorem dL_law_1911 : decode code 1911 = .ok (.iaload, 1) := by decide +kernel
theorem dL_law_1912 : decode code 1912 = .ok (.invokevirtual 194, 3) := by decide +kernel
theorem kw_8_29 : (Jvm.Cond.methodLink "ParishUnionLaw" (194 : Nat) ({ cls := "ParishUnionModel", name := "told", desc := "(II)I" } : Jvm.MethodName)) ∈ gT := gT_of (tb_8 _ (List.mem_of_getElem? (i := 29) rfl)) rfl
theorem kw_8_32 : (Jvm.Cond.code ({ cls := "ParishUnionModel", name := "told", desc := "(II)I" } : Jvm.MethodName) prog_14_method_103_code (4 : Nat) (Option.some Jvm.ClassFile.FieldType.int)) ∈ gT := gT_of (tb_8 _ (List.mem_of_getElem? (i := 32) rfl)) rfl
theorem okX12_told : gQok yX12_told cX12_told 4 (Option.some Jvm.ClassFile.FieldType.int) 2 := ⟨kw_8_32, kw_1_13, by decide +kernel, by decide +kernel, by decide +kernel⟩
theorem kw_8_30 : (Jvm.Cond.instanceMethod ({ cls := "ParishUnionModel", name := "told", desc := "(II)I" } : Jvm.MethodName)) ∈ gT := gT_of (tb_8 _ (List.mem_of_getElem? (i := 30) rfl)) rfl
theorem kw_8_31 : (Jvm.Cond.selects "ParishUnionModel" ({ cls := "ParishUnionModel", name := "told", desc := "(II)I" } : Jvm.MethodName) ({ cls := "ParishUnionModel", name := "told", desc := "(II)I" } : Jvm.MethodName)) ∈ gT := gT_of (tb_8 _ (List.mem_of_getElem? (i := 31) rfl)) rfl
theorem dL_law_1915 : decode code 1915 = .ok (.if_icmp .eq 77, 3) := by decide +kernel
set_option maxRecDepth 100000 in
set_option maxHeartbeats 4000000 in
theorem law_case_41 {p : Program} {e : Env} {s : State} {m : MethodId} {below : List Frame} {meth : Method} {c : Code} {l : Launch} {D : va_G} {cA : Nat → ClassId} {b : Nat} {xs : Nat → Int32} (X : gCx p s m #[Value.ref b] meth c s.heap.size D cA "ParishUnionLaw" code 4) (hr : meth.sig.returnType = ret) (hb : b < s.heap.size ∧ va_X b 7 xs s s.heap) {M : gM} (hFr : gFr M) : G p l e room_1 s m #[Value.ref b] below meth c s.heap.size D cA 4 (lw_Z below #[Value.ref b] s) 206 87467 M 206 1887 [(3, gJ 0), (2, gA s.heap.size 190), (1, gA s.heap.size 0), (0, .ref b)] [] := by
  obtain ⟨f_0_0, f_0_1, f_0_2, f_0_3, f_0_4, f_0_5, f_0_6, f_0_7, f_0_8, f_0_9, f_1_0, f_1_1, f_1_2, f_1_3, f_1_4, f_1_5, f_1_6, f_1_7, f_1_8, f_1_9, f_1_10, f_1_11, f_1_12, f_1_13, f_1_14, f_1_15, f_2_0, f_2_1, f_5_0, f_7_0, f_9_0, f_9_1, f_9_2, f_9_3, f_9_4, f_9_5, f_15_0, f_15_1, f_15_2, f_15_3, f_15_4, f_15_5, f_15_6, f_15_7, f_15_8, f_15_9, f_23_0, f_23_1, f_26_0, f_26_1, f_26_2, f_26_3, f_87_0, f_87_1, f_87_2, f_87_3, f_87_4, f_153_0, f_153_1, f_153_2, f_153_3, f_153_4, f_159_0, f_190_0, f_190_1, f_190_2, f_190_3, f_190_4, f_190_5, f_190_6, f_190_7, f_190_8, f_190_9, f_190_10, f_190_11, f_190_12, f_190_13, f_190_14, f_190_15, f_190_16, f_190_17, f_190_18, f_190_19, f_190_20, f_190_21, f_190_22, f_190_23, rents, way, beds, frost0, rows0, rooms0, tape0, car0, hS⟩ := hFr
  obtain ⟨v0, e0, r0⟩ : ∃ z : Int, xs 0 = Int32.ofInt z ∧ -2147483648 ≤ z ∧ z ≤ 2147483647 := ⟨_, gi_of _, gi_rg _⟩
  obtain ⟨v1, e1, r1⟩ : ∃ z : Int, xs 1 = Int32.ofInt z ∧ -2147483648 ≤ z ∧ z ≤ 2147483647 := ⟨_, gi_of _, gi_rg _⟩
  obtain ⟨v2, e2, r2⟩ : ∃ z : Int, xs 2 = Int32.ofInt z ∧ -2147483648 ≤ z ∧ z ≤ 2147483647 := ⟨_, gi_of _, gi_rg _⟩
  obtain ⟨v3, e3, r3⟩ : ∃ z : Int, xs 3 = Int32.ofInt z ∧ -2147483648 ≤ z ∧ z ≤ 2147483647 := ⟨_, gi_of _, gi_rg _⟩
  obtain ⟨v4, e4, r4⟩ : ∃ z : Int, xs 4 = Int32.ofInt z ∧ -2147483648 ≤ z ∧ z ≤ 2147483647 := ⟨_, gi_of _, gi_rg _⟩
  obtain ⟨v5, e5, r5⟩ : ∃ z : Int, xs 5 = Int32.ofInt z ∧ -2147483648 ≤ z ∧ z ≤ 2147483647 := ⟨_, gi_of _, gi_rg _⟩
  obtain ⟨v6, e6, r6⟩ : ∃ z : Int, xs 6 = Int32.ofInt z ∧ -2147483648 ≤ z ∧ z ≤ 2147483647 := ⟨_, gi_of _, gi_rg _⟩
  refine g_aload_n (n := 1888) X 2 dL_law_1887 rfl rfl rfl ?_
  refine g_aload_n (n := 1889) X 3 dL_law_1888 rfl rfl rfl ?_
  refine g_iload_n (n := 1890) X 0 dL_law_1889 rfl rfl rfl ?_
  refine g_iconst (n := 1891) X dL_law_1890 rfl ?_
  refine g_iadd (n := 1892) (z := 1) X dL_law_1891 rfl rfl ?_
  refine g_scrld (n := 1893) (z := v1) X hb (by omega) (by omega) (by omega) dL_law_1892 rfl e1 ?_
  refine g_aload_n (n := 1894) X 3 dL_law_1893 rfl rfl rfl ?_
  refine g_iload_n (n := 1895) X 0 dL_law_1894 rfl rfl rfl ?_
  refine g_iconst (n := 1896) X dL_law_1895 rfl ?_
  refine g_iadd (n := 1897) (z := 2) X dL_law_1896 rfl rfl ?_
  refine g_scrld (n := 1898) (z := v2) X hb (by omega) (by omega) (by omega) dL_law_1897 rfl e2 ?_
  refine g_callVi (n := 1901) (As := [gJ v1, gJ v2]) (rest := []) (cs1 := 206) (ss1 := 87467) X (c_X11_told v1 v2 (by omega) (by omega) (by omega) f_0_0 f_1_10) okX11_told kw_5_200 ⟨kw_5_201, kw_5_202⟩ ⟨rfl, rfl⟩ ⟨Nat.le_of_ble_eq_true rfl, Nat.le_of_ble_eq_true rfl⟩ rfl (by omega) (by omega) lay_0 rfl rfl (Nat.le_of_ble_eq_true rfl) ⟨Nat.le_of_ble_eq_true rfl, Nat.le_of_ble_eq_true rfl⟩ rfl rfl dL_law_1898 rfl (fun z1 M2 P3 => ?_)
  obtain ⟨P3, F4⟩ := P3
  refine g_aload_n (n := 1902) X 1 dL_law_1901 rfl rfl rfl ?_
  refine g_aload_n (n := 1903) X 3 dL_law_1902 rfl rfl rfl ?_
  refine g_iload_n (n := 1904) X 0 dL_law_1903 rfl rfl rfl ?_
  refine g_iconst (n := 1905) X dL_law_1904 rfl ?_
  refine g_iadd (n := 1906) (z := 1) X dL_law_1905 rfl rfl ?_
  refine g_scrld (n := 1907) (z := v1) X hb (by omega) (by omega) (by omega) dL_law_1906 rfl e1 ?_
  refine g_aload_n (n := 1908) X 3 dL_law_1907 rfl rfl rfl ?_
  refine g_iload_n (n := 1909) X 0 dL_law_1908 rfl rfl rfl ?_
  refine g_iconst (n := 1910) X dL_law_1909 rfl ?_
  refine g_iadd (n := 1911) (z := 2) X dL_law_1910 rfl rfl ?_
  refine g_scrld (n := 1912) (z := v2) X hb (by omega) (by omega) (by omega) dL_law_1911 rfl e2 ?_
  refine g_callVi (n := 1915) (As := [gJ v1, gJ v2]) (rest := [gJ z1]) (cs1 := 206) (ss1 := 87467) X (c_X12_told v1 v2 (by omega) (by omega) (by omega) ((congrFun (F4 190) _).trans f_190_1) ((congrFun (F4 191) _).trans ((hS 1 (by omega) (by omega)).trans (by decide)))) okX12_told kw_8_29 ⟨kw_8_30, kw_8_31⟩ ⟨rfl, rfl⟩ ⟨Nat.le_of_ble_eq_true rfl, Nat.le_of_ble_eq_true rfl⟩ rfl (by omega) (by omega) lay_190 rfl rfl (Nat.le_of_ble_eq_true rfl) ⟨Nat.le_of_ble_eq_true rfl, Nat.le_of_ble_eq_true rfl⟩ rfl rfl dL_law_1912 rfl (fun z5 M6 P7 => ?_)
  obtain ⟨P7, F8⟩ := P7
  refine g_icmp_eq (n := 1918) (tgt := 1992) X dL_law_1915 (by decide) (by omega) (by omega) rfl (fun c9 => ?_) (fun c9 => by exfalso; omega)
  exact law_tail X hr hb (by omega) (by omega)
theorem dL_law_1920 : decode code 1920 = .ok (.aload_n 1, 1) := by decide +kernel
theorem dL_law_1921 : decode code 1921 = .ok (.aload_n 0, 1) := by decide +kernel
theorem dL_law_1922 : decode code 1922 = .ok (.iload_n 3, 1) := by decide +kernel
theorem dL_law_1923 : decode code 1923 = .ok (.iconst 1, 1) := by decide +kernel
theorem dL_law_1924 : decode code 1924 = .ok (.iadd, 1) := by decide +kernel
theorem dL_law_1925 : decode code 1925 = .ok (.iaload, 1) := by decide +kernel
theorem dL_law_1926 : decode code 1926 = .ok (.invokevirtual 195, 3) := by decide +kernel
theorem kw_5_204 : (Jvm.Cond.methodLink "ParishUnionLaw" (195 : Nat) ({ cls := "ParishUnion", name := "check", desc := "(I)I" } : Jvm.MethodName)) ∈ gT := gT_of (tb_5 _ (List.mem_of_getElem? (i := 204) rfl)) rfl
theorem kw_5_207 : (Jvm.Cond.code ({ cls := "ParishUnion", name := "check", desc := "(I)I" } : Jvm.MethodName) prog_1_method_44_code (3 : Nat) (Option.some Jvm.ClassFile.FieldType.int)) ∈ gT := gT_of (tb_5 _ (List.mem_of_getElem? (i := 207) rfl)) rfl
theorem okX11_check : gQok yX11_check cX11_check 3 (Option.some Jvm.ClassFile.FieldType.int) 1 := ⟨kw_5_207, kw_1_1, by decide +kernel, by decide +kernel, by decide +kernel⟩
theorem kw_5_205 : (Jvm.Cond.instanceMethod ({ cls := "ParishUnion", name := "check", desc := "(I)I" } : Jvm.MethodName)) ∈ gT := gT_of (tb_5 _ (List.mem_of_getElem? (i := 205) rfl)) rfl
theorem kw_5_206 : (Jvm.Cond.selects "ParishUnion" ({ cls := "ParishUnion", name := "check", desc := "(I)I" } : Jvm.MethodName) ({ cls := "ParishUnion", name := "check", desc := "(I)I" } : Jvm.MethodName)) ∈ gT := gT_of (tb_5 _ (List.mem_of_getElem? (i := 206) rfl)) rfl
theorem dL_law_1929 : decode code 1929 = .ok (.aload_n 2, 1) := by decide +kernel
theorem dL_law_1930 : decode code 1930 = .ok (.aload_n 0, 1) := by decide +kernel
theorem dL_law_1931 : decode code 1931 = .ok (.iload_n 3, 1) := by decide +kernel
theorem dL_law_1932 : decode code 1932 = .ok (.iconst 1, 1) := by decide +kernel
theorem dL_law_1933 : decode code 1933 = .ok (.iadd, 1) := by decide +kernel
theorem dL_law_1934 : decode code 1934 = .ok (.iaload, 1) := by decide +kernel
theorem dL_law_1935 : decode code 1935 = .ok (.invokevirtual 198, 3) := by decide +kernel
theorem kw_8_33 : (Jvm.Cond.methodLink "ParishUnionLaw" (198 : Nat) ({ cls := "ParishUnionModel", name := "check", desc := "(I)I" } : Jvm.MethodName)) ∈ gT := gT_of (tb_8 _ (List.mem_of_getElem? (i := 33) rfl)) rfl
theorem kw_8_36 : (Jvm.Cond.code ({ cls := "ParishUnionModel", name := "check", desc := "(I)I" } : Jvm.MethodName) prog_14_method_104_code (3 : Nat) (Option.some Jvm.ClassFile.FieldType.int)) ∈ gT := gT_of (tb_8 _ (List.mem_of_getElem? (i := 36) rfl)) rfl
theorem okX12_check : gQok yX12_check cX12_check 3 (Option.some Jvm.ClassFile.FieldType.int) 1 := ⟨kw_8_36, kw_1_13, by decide +kernel, by decide +kernel, by decide +kernel⟩
theorem kw_8_34 : (Jvm.Cond.instanceMethod ({ cls := "ParishUnionModel", name := "check", desc := "(I)I" } : Jvm.MethodName)) ∈ gT := gT_of (tb_8 _ (List.mem_of_getElem? (i := 34) rfl)) rfl
theorem kw_8_35 : (Jvm.Cond.selects "ParishUnionModel" ({ cls := "ParishUnionModel", name := "check", desc := "(I)I" } : Jvm.MethodName) ({ cls := "ParishUnionModel", name := "check", desc := "(I)I" } : Jvm.MethodName)) ∈ gT := gT_of (tb_8 _ (List.mem_of_getElem? (i := 35) rfl)) rfl
theorem dL_law_1938 : decode code 1938 = .ok (.if_icmp .eq 54, 3) := by decide +kernel
set_option maxRecDepth 100000 in
set_option maxHeartbeats 4000000 in
theorem law_case_42 {p : Program} {e : Env} {s : State} {m : MethodId} {below : List Frame} {meth : Method} {c : Code} {l : Launch} {D : va_G} {cA : Nat → ClassId} {b : Nat} {xs : Nat → Int32} (X : gCx p s m #[Value.ref b] meth c s.heap.size D cA "ParishUnionLaw" code 4) (hr : meth.sig.returnType = ret) (hb : b < s.heap.size ∧ va_X b 7 xs s s.heap) {M : gM} (hFr : gFr M) : G p l e room_1 s m #[Value.ref b] below meth c s.heap.size D cA 4 (lw_Z below #[Value.ref b] s) 206 87467 M 206 1920 [(3, gJ 0), (2, gA s.heap.size 190), (1, gA s.heap.size 0), (0, .ref b)] [] := by
  obtain ⟨f_0_0, f_0_1, f_0_2, f_0_3, f_0_4, f_0_5, f_0_6, f_0_7, f_0_8, f_0_9, f_1_0, f_1_1, f_1_2, f_1_3, f_1_4, f_1_5, f_1_6, f_1_7, f_1_8, f_1_9, f_1_10, f_1_11, f_1_12, f_1_13, f_1_14, f_1_15, f_2_0, f_2_1, f_5_0, f_7_0, f_9_0, f_9_1, f_9_2, f_9_3, f_9_4, f_9_5, f_15_0, f_15_1, f_15_2, f_15_3, f_15_4, f_15_5, f_15_6, f_15_7, f_15_8, f_15_9, f_23_0, f_23_1, f_26_0, f_26_1, f_26_2, f_26_3, f_87_0, f_87_1, f_87_2, f_87_3, f_87_4, f_153_0, f_153_1, f_153_2, f_153_3, f_153_4, f_159_0, f_190_0, f_190_1, f_190_2, f_190_3, f_190_4, f_190_5, f_190_6, f_190_7, f_190_8, f_190_9, f_190_10, f_190_11, f_190_12, f_190_13, f_190_14, f_190_15, f_190_16, f_190_17, f_190_18, f_190_19, f_190_20, f_190_21, f_190_22, f_190_23, rents, way, beds, frost0, rows0, rooms0, tape0, car0, hS⟩ := hFr
  obtain ⟨v0, e0, r0⟩ : ∃ z : Int, xs 0 = Int32.ofInt z ∧ -2147483648 ≤ z ∧ z ≤ 2147483647 := ⟨_, gi_of _, gi_rg _⟩
  obtain ⟨v1, e1, r1⟩ : ∃ z : Int, xs 1 = Int32.ofInt z ∧ -2147483648 ≤ z ∧ z ≤ 2147483647 := ⟨_, gi_of _, gi_rg _⟩
  obtain ⟨v2, e2, r2⟩ : ∃ z : Int, xs 2 = Int32.ofInt z ∧ -2147483648 ≤ z ∧ z ≤ 2147483647 := ⟨_, gi_of _, gi_rg _⟩
  obtain ⟨v3, e3, r3⟩ : ∃ z : Int, xs 3 = Int32.ofInt z ∧ -2147483648 ≤ z ∧ z ≤ 2147483647 := ⟨_, gi_of _, gi_rg _⟩
  obtain ⟨v4, e4, r4⟩ : ∃ z : Int, xs 4 = Int32.ofInt z ∧ -2147483648 ≤ z ∧ z ≤ 2147483647 := ⟨_, gi_of _, gi_rg _⟩
  obtain ⟨v5, e5, r5⟩ : ∃ z : Int, xs 5 = Int32.ofInt z ∧ -2147483648 ≤ z ∧ z ≤ 2147483647 := ⟨_, gi_of _, gi_rg _⟩
  obtain ⟨v6, e6, r6⟩ : ∃ z : Int, xs 6 = Int32.ofInt z ∧ -2147483648 ≤ z ∧ z ≤ 2147483647 := ⟨_, gi_of _, gi_rg _⟩
  refine g_aload_n (n := 1921) X 2 dL_law_1920 rfl rfl rfl ?_
  refine g_aload_n (n := 1922) X 3 dL_law_1921 rfl rfl rfl ?_
  refine g_iload_n (n := 1923) X 0 dL_law_1922 rfl rfl rfl ?_
  refine g_iconst (n := 1924) X dL_law_1923 rfl ?_
  refine g_iadd (n := 1925) (z := 1) X dL_law_1924 rfl rfl ?_
  refine g_scrld (n := 1926) (z := v1) X hb (by omega) (by omega) (by omega) dL_law_1925 rfl e1 ?_
  refine g_callVi (n := 1929) (As := [gJ v1]) (rest := []) (cs1 := 206) (ss1 := 87467) X (c_X11_check v1 (by omega) (by omega) f_0_0 f_1_15) okX11_check kw_5_204 ⟨kw_5_205, kw_5_206⟩ ⟨rfl, rfl⟩ ⟨Nat.le_of_ble_eq_true rfl, Nat.le_of_ble_eq_true rfl⟩ rfl (by omega) (by omega) lay_0 rfl rfl (Nat.le_of_ble_eq_true rfl) ⟨Nat.le_of_ble_eq_true rfl, Nat.le_of_ble_eq_true rfl⟩ rfl rfl dL_law_1926 rfl (fun z1 M2 P3 => ?_)
  obtain ⟨P3, F4⟩ := P3
  refine g_aload_n (n := 1930) X 1 dL_law_1929 rfl rfl rfl ?_
  refine g_aload_n (n := 1931) X 3 dL_law_1930 rfl rfl rfl ?_
  refine g_iload_n (n := 1932) X 0 dL_law_1931 rfl rfl rfl ?_
  refine g_iconst (n := 1933) X dL_law_1932 rfl ?_
  refine g_iadd (n := 1934) (z := 1) X dL_law_1933 rfl rfl ?_
  refine g_scrld (n := 1935) (z := v1) X hb (by omega) (by omega) (by omega) dL_law_1934 rfl e1 ?_
  refine g_callVi (n := 1938) (As := [gJ v1]) (rest := [gJ z1]) (cs1 := 206) (ss1 := 87467) X (c_X12_check v1 (by omega) (by omega) ((congrFun (F4 190) _).trans f_190_1) ((congrFun (F4 191) _).trans ((hS 0 (by omega) (by omega)).trans (by decide)))) okX12_check kw_8_33 ⟨kw_8_34, kw_8_35⟩ ⟨rfl, rfl⟩ ⟨Nat.le_of_ble_eq_true rfl, Nat.le_of_ble_eq_true rfl⟩ rfl (by omega) (by omega) lay_190 rfl rfl (Nat.le_of_ble_eq_true rfl) ⟨Nat.le_of_ble_eq_true rfl, Nat.le_of_ble_eq_true rfl⟩ rfl rfl dL_law_1935 rfl (fun z5 M6 P7 => ?_)
  obtain ⟨P7, F8⟩ := P7
  refine g_icmp_eq (n := 1941) (tgt := 1992) X dL_law_1938 (by decide) (by omega) (by omega) rfl (fun c9 => ?_) (fun c9 => by exfalso; omega)
  exact law_tail X hr hb (by omega) (by omega)
theorem dL_law_1943 : decode code 1943 = .ok (.aload_n 1, 1) := by decide +kernel
theorem dL_law_1944 : decode code 1944 = .ok (.invokevirtual 199, 3) := by decide +kernel
theorem kw_5_208 : (Jvm.Cond.methodLink "ParishUnionLaw" (199 : Nat) ({ cls := "ParishUnion", name := "image", desc := "()I" } : Jvm.MethodName)) ∈ gT := gT_of (tb_5 _ (List.mem_of_getElem? (i := 208) rfl)) rfl
theorem kw_5_211 : (Jvm.Cond.code ({ cls := "ParishUnion", name := "image", desc := "()I" } : Jvm.MethodName) prog_1_method_45_code (1 : Nat) (Option.some Jvm.ClassFile.FieldType.int)) ∈ gT := gT_of (tb_5 _ (List.mem_of_getElem? (i := 211) rfl)) rfl
theorem okX11_image : gQok yX11_image cX11_image 1 (Option.some Jvm.ClassFile.FieldType.int) 0 := ⟨kw_5_211, kw_1_1, by decide +kernel, by decide +kernel, by decide +kernel⟩
theorem kw_5_209 : (Jvm.Cond.instanceMethod ({ cls := "ParishUnion", name := "image", desc := "()I" } : Jvm.MethodName)) ∈ gT := gT_of (tb_5 _ (List.mem_of_getElem? (i := 209) rfl)) rfl
theorem kw_5_210 : (Jvm.Cond.selects "ParishUnion" ({ cls := "ParishUnion", name := "image", desc := "()I" } : Jvm.MethodName) ({ cls := "ParishUnion", name := "image", desc := "()I" } : Jvm.MethodName)) ∈ gT := gT_of (tb_5 _ (List.mem_of_getElem? (i := 210) rfl)) rfl
theorem dL_law_1947 : decode code 1947 = .ok (.aload_n 2, 1) := by decide +kernel
theorem dL_law_1948 : decode code 1948 = .ok (.invokevirtual 202, 3) := by decide +kernel
theorem kw_8_37 : (Jvm.Cond.methodLink "ParishUnionLaw" (202 : Nat) ({ cls := "ParishUnionModel", name := "image", desc := "()I" } : Jvm.MethodName)) ∈ gT := gT_of (tb_8 _ (List.mem_of_getElem? (i := 37) rfl)) rfl
theorem kw_8_40 : (Jvm.Cond.code ({ cls := "ParishUnionModel", name := "image", desc := "()I" } : Jvm.MethodName) prog_14_method_105_code (1 : Nat) (Option.some Jvm.ClassFile.FieldType.int)) ∈ gT := gT_of (tb_8 _ (List.mem_of_getElem? (i := 40) rfl)) rfl
theorem okX12_image : gQok yX12_image cX12_image 1 (Option.some Jvm.ClassFile.FieldType.int) 0 := ⟨kw_8_40, kw_1_13, by decide +kernel, by decide +kernel, by decide +kernel⟩
theorem kw_8_38 : (Jvm.Cond.instanceMethod ({ cls := "ParishUnionModel", name := "image", desc := "()I" } : Jvm.MethodName)) ∈ gT := gT_of (tb_8 _ (List.mem_of_getElem? (i := 38) rfl)) rfl
theorem kw_8_39 : (Jvm.Cond.selects "ParishUnionModel" ({ cls := "ParishUnionModel", name := "image", desc := "()I" } : Jvm.MethodName) ({ cls := "ParishUnionModel", name := "image", desc := "()I" } : Jvm.MethodName)) ∈ gT := gT_of (tb_8 _ (List.mem_of_getElem? (i := 39) rfl)) rfl
theorem dL_law_1951 : decode code 1951 = .ok (.if_icmp .eq 41, 3) := by decide +kernel
set_option maxRecDepth 100000 in
set_option maxHeartbeats 4000000 in
theorem law_case_43 {p : Program} {e : Env} {s : State} {m : MethodId} {below : List Frame} {meth : Method} {c : Code} {l : Launch} {D : va_G} {cA : Nat → ClassId} {b : Nat} {xs : Nat → Int32} (X : gCx p s m #[Value.ref b] meth c s.heap.size D cA "ParishUnionLaw" code 4) (hr : meth.sig.returnType = ret) (hb : b < s.heap.size ∧ va_X b 7 xs s s.heap) {M : gM} (hFr : gFr M) : G p l e room_1 s m #[Value.ref b] below meth c s.heap.size D cA 4 (lw_Z below #[Value.ref b] s) 206 87467 M 206 1943 [(3, gJ 0), (2, gA s.heap.size 190), (1, gA s.heap.size 0), (0, .ref b)] [] := by
  obtain ⟨f_0_0, f_0_1, f_0_2, f_0_3, f_0_4, f_0_5, f_0_6, f_0_7, f_0_8, f_0_9, f_1_0, f_1_1, f_1_2, f_1_3, f_1_4, f_1_5, f_1_6, f_1_7, f_1_8, f_1_9, f_1_10, f_1_11, f_1_12, f_1_13, f_1_14, f_1_15, f_2_0, f_2_1, f_5_0, f_7_0, f_9_0, f_9_1, f_9_2, f_9_3, f_9_4, f_9_5, f_15_0, f_15_1, f_15_2, f_15_3, f_15_4, f_15_5, f_15_6, f_15_7, f_15_8, f_15_9, f_23_0, f_23_1, f_26_0, f_26_1, f_26_2, f_26_3, f_87_0, f_87_1, f_87_2, f_87_3, f_87_4, f_153_0, f_153_1, f_153_2, f_153_3, f_153_4, f_159_0, f_190_0, f_190_1, f_190_2, f_190_3, f_190_4, f_190_5, f_190_6, f_190_7, f_190_8, f_190_9, f_190_10, f_190_11, f_190_12, f_190_13, f_190_14, f_190_15, f_190_16, f_190_17, f_190_18, f_190_19, f_190_20, f_190_21, f_190_22, f_190_23, rents, way, beds, frost0, rows0, rooms0, tape0, car0, hS⟩ := hFr
  obtain ⟨v0, e0, r0⟩ : ∃ z : Int, xs 0 = Int32.ofInt z ∧ -2147483648 ≤ z ∧ z ≤ 2147483647 := ⟨_, gi_of _, gi_rg _⟩
  obtain ⟨v1, e1, r1⟩ : ∃ z : Int, xs 1 = Int32.ofInt z ∧ -2147483648 ≤ z ∧ z ≤ 2147483647 := ⟨_, gi_of _, gi_rg _⟩
  obtain ⟨v2, e2, r2⟩ : ∃ z : Int, xs 2 = Int32.ofInt z ∧ -2147483648 ≤ z ∧ z ≤ 2147483647 := ⟨_, gi_of _, gi_rg _⟩
  obtain ⟨v3, e3, r3⟩ : ∃ z : Int, xs 3 = Int32.ofInt z ∧ -2147483648 ≤ z ∧ z ≤ 2147483647 := ⟨_, gi_of _, gi_rg _⟩
  obtain ⟨v4, e4, r4⟩ : ∃ z : Int, xs 4 = Int32.ofInt z ∧ -2147483648 ≤ z ∧ z ≤ 2147483647 := ⟨_, gi_of _, gi_rg _⟩
  obtain ⟨v5, e5, r5⟩ : ∃ z : Int, xs 5 = Int32.ofInt z ∧ -2147483648 ≤ z ∧ z ≤ 2147483647 := ⟨_, gi_of _, gi_rg _⟩
  obtain ⟨v6, e6, r6⟩ : ∃ z : Int, xs 6 = Int32.ofInt z ∧ -2147483648 ≤ z ∧ z ≤ 2147483647 := ⟨_, gi_of _, gi_rg _⟩
  refine g_aload_n (n := 1944) X 2 dL_law_1943 rfl rfl rfl ?_
  refine g_callVi (n := 1947) (As := []) (rest := []) (cs1 := 358) (ss1 := 97974) X (c_X11_image f_0_0 f_0_9 f_1_0 f_1_1 f_1_2 f_1_3 f_1_4 f_1_5 f_1_6 f_1_7 f_1_8 f_1_9 f_1_10 f_1_11 f_1_12 f_1_13 f_1_14 f_1_15 f_2_0 f_2_1 f_15_0 f_15_1 f_15_2 f_15_3 f_15_4 f_15_5 f_15_6 f_9_0 f_9_1 f_9_2 f_9_3 f_9_4 f_23_0 f_23_1 f_26_0 f_26_1 f_26_2 car0 tape0) okX11_image kw_5_208 ⟨kw_5_209, kw_5_210⟩ ⟨rfl, rfl⟩ ⟨Nat.le_of_ble_eq_true rfl, Nat.le_of_ble_eq_true rfl⟩ rfl (by omega) (by omega) lay_0 rfl rfl (Nat.le_of_ble_eq_true rfl) ⟨Nat.le_of_ble_eq_true rfl, Nat.le_of_ble_eq_true rfl⟩ rfl rfl dL_law_1944 rfl (fun z1 M2 P3 => ?_)
  obtain ⟨P3, F4⟩ := P3
  refine g_aload_n (n := 1948) X 1 dL_law_1947 rfl rfl rfl ?_
  refine g_callVi (n := 1951) (As := []) (rest := [gJ z1]) (cs1 := 358) (ss1 := 97974) X (c_X12_image (by omega) ((congrFun (F4 190 (by omega) (by omega)) _).trans f_190_1) ((congrFun (F4 191 (by omega) (by omega)) _).trans ((hS 0 (by omega) (by omega)).trans (by decide))) ((congrFun (F4 190 (by omega) (by omega)) _).trans f_190_3)) okX12_image kw_8_37 ⟨kw_8_38, kw_8_39⟩ ⟨rfl, rfl⟩ ⟨Nat.le_of_ble_eq_true rfl, Nat.le_of_ble_eq_true rfl⟩ rfl (by omega) (by omega) lay_190 rfl rfl (Nat.le_of_ble_eq_true rfl) ⟨Nat.le_of_ble_eq_true rfl, Nat.le_of_ble_eq_true rfl⟩ rfl rfl dL_law_1948 rfl (fun z5 M6 P7 => ?_)
  obtain ⟨P7, F8⟩ := P7
  refine g_icmp_eq (n := 1954) (tgt := 1992) X dL_law_1951 (by decide) (by omega) (by omega) rfl (fun c9 => ?_) (fun c9 => by exfalso; omega)
  exact law_tail X hr hb (by omega) (by omega)
theorem dL_law_1956 : decode code 1956 = .ok (.aload_n 1, 1) := by decide +kernel
theorem dL_law_1957 : decode code 1957 = .ok (.invokevirtual 203, 3) := by decide +kernel
theorem kw_6_9 : (Jvm.Cond.methodLink "ParishUnionLaw" (203 : Nat) ({ cls := "ParishUnion", name := "undo", desc := "()I" } : Jvm.MethodName)) ∈ gT := gT_of (tb_6 _ (List.mem_of_getElem? (i := 9) rfl)) rfl
theorem kw_6_12 : (Jvm.Cond.code ({ cls := "ParishUnion", name := "undo", desc := "()I" } : Jvm.MethodName) prog_1_method_46_code (1 : Nat) (Option.some Jvm.ClassFile.FieldType.int)) ∈ gT := gT_of (tb_6 _ (List.mem_of_getElem? (i := 12) rfl)) rfl
theorem okX11_undo : gQok yX11_undo cX11_undo 1 (Option.some Jvm.ClassFile.FieldType.int) 0 := ⟨kw_6_12, kw_1_1, by decide +kernel, by decide +kernel, by decide +kernel⟩
theorem kw_6_10 : (Jvm.Cond.instanceMethod ({ cls := "ParishUnion", name := "undo", desc := "()I" } : Jvm.MethodName)) ∈ gT := gT_of (tb_6 _ (List.mem_of_getElem? (i := 10) rfl)) rfl
theorem kw_6_11 : (Jvm.Cond.selects "ParishUnion" ({ cls := "ParishUnion", name := "undo", desc := "()I" } : Jvm.MethodName) ({ cls := "ParishUnion", name := "undo", desc := "()I" } : Jvm.MethodName)) ∈ gT := gT_of (tb_6 _ (List.mem_of_getElem? (i := 11) rfl)) rfl
theorem dL_law_1960 : decode code 1960 = .ok (.aload_n 2, 1) := by decide +kernel
theorem dL_law_1961 : decode code 1961 = .ok (.invokevirtual 206, 3) := by decide +kernel
theorem kw_8_41 : (Jvm.Cond.methodLink "ParishUnionLaw" (206 : Nat) ({ cls := "ParishUnionModel", name := "undo", desc := "()I" } : Jvm.MethodName)) ∈ gT := gT_of (tb_8 _ (List.mem_of_getElem? (i := 41) rfl)) rfl
theorem kw_8_44 : (Jvm.Cond.code ({ cls := "ParishUnionModel", name := "undo", desc := "()I" } : Jvm.MethodName) prog_14_method_106_code (1 : Nat) (Option.some Jvm.ClassFile.FieldType.int)) ∈ gT := gT_of (tb_8 _ (List.mem_of_getElem? (i := 44) rfl)) rfl
theorem okX12_undo : gQok yX12_undo cX12_undo 1 (Option.some Jvm.ClassFile.FieldType.int) 0 := ⟨kw_8_44, kw_1_13, by decide +kernel, by decide +kernel, by decide +kernel⟩
theorem kw_8_42 : (Jvm.Cond.instanceMethod ({ cls := "ParishUnionModel", name := "undo", desc := "()I" } : Jvm.MethodName)) ∈ gT := gT_of (tb_8 _ (List.mem_of_getElem? (i := 42) rfl)) rfl
theorem kw_8_43 : (Jvm.Cond.selects "ParishUnionModel" ({ cls := "ParishUnionModel", name := "undo", desc := "()I" } : Jvm.MethodName) ({ cls := "ParishUnionModel", name := "undo", desc := "()I" } : Jvm.MethodName)) ∈ gT := gT_of (tb_8 _ (List.mem_of_getElem? (i := 43) rfl)) rfl
theorem dL_law_1964 : decode code 1964 = .ok (.if_icmp .eq 28, 3) := by decide +kernel
set_option maxRecDepth 100000 in
set_option maxHeartbeats 4000000 in
theorem law_case_44 {p : Program} {e : Env} {s : State} {m : MethodId} {below : List Frame} {meth : Method} {c : Code} {l : Launch} {D : va_G} {cA : Nat → ClassId} {b : Nat} {xs : Nat → Int32} (X : gCx p s m #[Value.ref b] meth c s.heap.size D cA "ParishUnionLaw" code 4) (hr : meth.sig.returnType = ret) (hb : b < s.heap.size ∧ va_X b 7 xs s s.heap) {M : gM} (hFr : gFr M) : G p l e room_1 s m #[Value.ref b] below meth c s.heap.size D cA 4 (lw_Z below #[Value.ref b] s) 206 87467 M 206 1956 [(3, gJ 0), (2, gA s.heap.size 190), (1, gA s.heap.size 0), (0, .ref b)] [] := by
  obtain ⟨f_0_0, f_0_1, f_0_2, f_0_3, f_0_4, f_0_5, f_0_6, f_0_7, f_0_8, f_0_9, f_1_0, f_1_1, f_1_2, f_1_3, f_1_4, f_1_5, f_1_6, f_1_7, f_1_8, f_1_9, f_1_10, f_1_11, f_1_12, f_1_13, f_1_14, f_1_15, f_2_0, f_2_1, f_5_0, f_7_0, f_9_0, f_9_1, f_9_2, f_9_3, f_9_4, f_9_5, f_15_0, f_15_1, f_15_2, f_15_3, f_15_4, f_15_5, f_15_6, f_15_7, f_15_8, f_15_9, f_23_0, f_23_1, f_26_0, f_26_1, f_26_2, f_26_3, f_87_0, f_87_1, f_87_2, f_87_3, f_87_4, f_153_0, f_153_1, f_153_2, f_153_3, f_153_4, f_159_0, f_190_0, f_190_1, f_190_2, f_190_3, f_190_4, f_190_5, f_190_6, f_190_7, f_190_8, f_190_9, f_190_10, f_190_11, f_190_12, f_190_13, f_190_14, f_190_15, f_190_16, f_190_17, f_190_18, f_190_19, f_190_20, f_190_21, f_190_22, f_190_23, rents, way, beds, frost0, rows0, rooms0, tape0, car0, hS⟩ := hFr
  obtain ⟨v0, e0, r0⟩ : ∃ z : Int, xs 0 = Int32.ofInt z ∧ -2147483648 ≤ z ∧ z ≤ 2147483647 := ⟨_, gi_of _, gi_rg _⟩
  obtain ⟨v1, e1, r1⟩ : ∃ z : Int, xs 1 = Int32.ofInt z ∧ -2147483648 ≤ z ∧ z ≤ 2147483647 := ⟨_, gi_of _, gi_rg _⟩
  obtain ⟨v2, e2, r2⟩ : ∃ z : Int, xs 2 = Int32.ofInt z ∧ -2147483648 ≤ z ∧ z ≤ 2147483647 := ⟨_, gi_of _, gi_rg _⟩
  obtain ⟨v3, e3, r3⟩ : ∃ z : Int, xs 3 = Int32.ofInt z ∧ -2147483648 ≤ z ∧ z ≤ 2147483647 := ⟨_, gi_of _, gi_rg _⟩
  obtain ⟨v4, e4, r4⟩ : ∃ z : Int, xs 4 = Int32.ofInt z ∧ -2147483648 ≤ z ∧ z ≤ 2147483647 := ⟨_, gi_of _, gi_rg _⟩
  obtain ⟨v5, e5, r5⟩ : ∃ z : Int, xs 5 = Int32.ofInt z ∧ -2147483648 ≤ z ∧ z ≤ 2147483647 := ⟨_, gi_of _, gi_rg _⟩
  obtain ⟨v6, e6, r6⟩ : ∃ z : Int, xs 6 = Int32.ofInt z ∧ -2147483648 ≤ z ∧ z ≤ 2147483647 := ⟨_, gi_of _, gi_rg _⟩
  refine g_aload_n (n := 1957) X 2 dL_law_1956 rfl rfl rfl ?_
  refine g_callVi (n := 1960) (As := []) (rest := []) (cs1 := 206) (ss1 := 87467) X (c_X11_undo (by omega) f_0_9) okX11_undo kw_6_9 ⟨kw_6_10, kw_6_11⟩ ⟨rfl, rfl⟩ ⟨Nat.le_of_ble_eq_true rfl, Nat.le_of_ble_eq_true rfl⟩ rfl (by omega) (by omega) lay_0 rfl rfl (Nat.le_of_ble_eq_true rfl) ⟨Nat.le_of_ble_eq_true rfl, Nat.le_of_ble_eq_true rfl⟩ rfl rfl dL_law_1957 rfl (fun z1 M2 P3 => ?_)
  obtain ⟨P3, F4⟩ := P3
  refine g_aload_n (n := 1961) X 1 dL_law_1960 rfl rfl rfl ?_
  refine g_callVi (n := 1964) (As := []) (rest := [gJ z1]) (cs1 := 206) (ss1 := 87467) X (c_X12_undo (by omega) ((congrFun (F4 190) _).trans f_190_4)) okX12_undo kw_8_41 ⟨kw_8_42, kw_8_43⟩ ⟨rfl, rfl⟩ ⟨Nat.le_of_ble_eq_true rfl, Nat.le_of_ble_eq_true rfl⟩ rfl (by omega) (by omega) lay_190 rfl rfl (Nat.le_of_ble_eq_true rfl) ⟨Nat.le_of_ble_eq_true rfl, Nat.le_of_ble_eq_true rfl⟩ rfl rfl dL_law_1961 rfl (fun z5 M6 P7 => ?_)
  obtain ⟨P7, F8⟩ := P7
  refine g_icmp_eq (n := 1967) (tgt := 1992) X dL_law_1964 (by decide) (by omega) (by omega) rfl (fun c9 => ?_) (fun c9 => by exfalso; omega)
  exact law_tail X hr hb (by omega) (by omega)
theorem dL_law_1969 : decode code 1969 = .ok (.aload_n 1, 1) := by decide +kernel
theorem dL_law_1970 : decode code 1970 = .ok (.aload_n 0, 1) := by decide +kernel
theorem dL_law_1971 : decode code 1971 = .ok (.iload_n 3, 1) := by decide +kernel
theorem dL_law_1972 : decode code 1972 = .ok (.iconst 1, 1) := by decide +kernel
theorem dL_law_1973 : decode code 1973 = .ok (.iadd, 1) := by decide +kernel
theorem dL_law_1974 : decode code 1974 = .ok (.iaload, 1) := by decide +kernel
theorem dL_law_1975 : decode code 1975 = .ok (.invokevirtual 207, 3) := by decide +kernel
theorem kw_6_13 : (Jvm.Cond.methodLink "ParishUnionLaw" (207 : Nat) ({ cls := "ParishUnion", name := "count", desc := "(I)I" } : Jvm.MethodName)) ∈ gT := gT_of (tb_6 _ (List.mem_of_getElem? (i := 13) rfl)) rfl
theorem kw_6_16 : (Jvm.Cond.code ({ cls := "ParishUnion", name := "count", desc := "(I)I" } : Jvm.MethodName) prog_1_method_47_code (2 : Nat) (Option.some Jvm.ClassFile.FieldType.int)) ∈ gT := gT_of (tb_6 _ (List.mem_of_getElem? (i := 16) rfl)) rfl
theorem okX11_count : gQok yX11_count cX11_count 2 (Option.some Jvm.ClassFile.FieldType.int) 1 := ⟨kw_6_16, kw_1_1, by decide +kernel, by decide +kernel, by decide +kernel⟩
theorem kw_6_14 : (Jvm.Cond.instanceMethod ({ cls := "ParishUnion", name := "count", desc := "(I)I" } : Jvm.MethodName)) ∈ gT := gT_of (tb_6 _ (List.mem_of_getElem? (i := 14) rfl)) rfl
theorem kw_6_15 : (Jvm.Cond.selects "ParishUnion" ({ cls := "ParishUnion", name := "count", desc := "(I)I" } : Jvm.MethodName) ({ cls := "ParishUnion", name := "count", desc := "(I)I" } : Jvm.MethodName)) ∈ gT := gT_of (tb_6 _ (List.mem_of_getElem? (i := 15) rfl)) rfl
theorem dL_law_1978 : decode code 1978 = .ok (.aload_n 2, 1) := by decide +kernel
theorem dL_law_1979 : decode code 1979 = .ok (.aload_n 0, 1) := by decide +kernel
theorem dL_law_1980 : decode code 1980 = .ok (.iload_n 3, 1) := by decide +kernel
theorem dL_law_1981 : decode code 1981 = .ok (.iconst 1, 1) := by decide +kernel
theorem dL_law_1982 : decode code 1982 = .ok (.iadd, 1) := by decide +kernel
theorem dL_law_1983 : decode code 1983 = .ok (.iaload, 1) := by decide +kernel
theorem dL_law_1984 : decode code 1984 = .ok (.invokevirtual 210, 3) := by decide +kernel
theorem kw_8_45 : (Jvm.Cond.methodLink "ParishUnionLaw" (210 : Nat) ({ cls := "ParishUnionModel", name := "count", desc := "(I)I" } : Jvm.MethodName)) ∈ gT := gT_of (tb_8 _ (List.mem_of_getElem? (i := 45) rfl)) rfl
theorem kw_8_48 : (Jvm.Cond.code ({ cls := "ParishUnionModel", name := "count", desc := "(I)I" } : Jvm.MethodName) prog_14_method_108_code (2 : Nat) (Option.some Jvm.ClassFile.FieldType.int)) ∈ gT := gT_of (tb_8 _ (List.mem_of_getElem? (i := 48) rfl)) rfl
theorem okX12_count : gQok yX12_count cX12_count 2 (Option.some Jvm.ClassFile.FieldType.int) 1 := ⟨kw_8_48, kw_1_13, by decide +kernel, by decide +kernel, by decide +kernel⟩
theorem kw_8_46 : (Jvm.Cond.instanceMethod ({ cls := "ParishUnionModel", name := "count", desc := "(I)I" } : Jvm.MethodName)) ∈ gT := gT_of (tb_8 _ (List.mem_of_getElem? (i := 46) rfl)) rfl
theorem kw_8_47 : (Jvm.Cond.selects "ParishUnionModel" ({ cls := "ParishUnionModel", name := "count", desc := "(I)I" } : Jvm.MethodName) ({ cls := "ParishUnionModel", name := "count", desc := "(I)I" } : Jvm.MethodName)) ∈ gT := gT_of (tb_8 _ (List.mem_of_getElem? (i := 47) rfl)) rfl
theorem dL_law_1987 : decode code 1987 = .ok (.if_icmp .eq 5, 3) := by decide +kernel
set_option maxRecDepth 100000 in
set_option maxHeartbeats 4000000 in
theorem law_case_45 {p : Program} {e : Env} {s : State} {m : MethodId} {below : List Frame} {meth : Method} {c : Code} {l : Launch} {D : va_G} {cA : Nat → ClassId} {b : Nat} {xs : Nat → Int32} (X : gCx p s m #[Value.ref b] meth c s.heap.size D cA "ParishUnionLaw" code 4) (hr : meth.sig.returnType = ret) (hb : b < s.heap.size ∧ va_X b 7 xs s s.heap) {M : gM} (hFr : gFr M) : G p l e room_1 s m #[Value.ref b] below meth c s.heap.size D cA 4 (lw_Z below #[Value.ref b] s) 206 87467 M 206 1969 [(3, gJ 0), (2, gA s.heap.size 190), (1, gA s.heap.size 0), (0, .ref b)] [] := by
  obtain ⟨f_0_0, f_0_1, f_0_2, f_0_3, f_0_4, f_0_5, f_0_6, f_0_7, f_0_8, f_0_9, f_1_0, f_1_1, f_1_2, f_1_3, f_1_4, f_1_5, f_1_6, f_1_7, f_1_8, f_1_9, f_1_10, f_1_11, f_1_12, f_1_13, f_1_14, f_1_15, f_2_0, f_2_1, f_5_0, f_7_0, f_9_0, f_9_1, f_9_2, f_9_3, f_9_4, f_9_5, f_15_0, f_15_1, f_15_2, f_15_3, f_15_4, f_15_5, f_15_6, f_15_7, f_15_8, f_15_9, f_23_0, f_23_1, f_26_0, f_26_1, f_26_2, f_26_3, f_87_0, f_87_1, f_87_2, f_87_3, f_87_4, f_153_0, f_153_1, f_153_2, f_153_3, f_153_4, f_159_0, f_190_0, f_190_1, f_190_2, f_190_3, f_190_4, f_190_5, f_190_6, f_190_7, f_190_8, f_190_9, f_190_10, f_190_11, f_190_12, f_190_13, f_190_14, f_190_15, f_190_16, f_190_17, f_190_18, f_190_19, f_190_20, f_190_21, f_190_22, f_190_23, rents, way, beds, frost0, rows0, rooms0, tape0, car0, hS⟩ := hFr
  obtain ⟨v0, e0, r0⟩ : ∃ z : Int, xs 0 = Int32.ofInt z ∧ -2147483648 ≤ z ∧ z ≤ 2147483647 := ⟨_, gi_of _, gi_rg _⟩
  obtain ⟨v1, e1, r1⟩ : ∃ z : Int, xs 1 = Int32.ofInt z ∧ -2147483648 ≤ z ∧ z ≤ 2147483647 := ⟨_, gi_of _, gi_rg _⟩
  obtain ⟨v2, e2, r2⟩ : ∃ z : Int, xs 2 = Int32.ofInt z ∧ -2147483648 ≤ z ∧ z ≤ 2147483647 := ⟨_, gi_of _, gi_rg _⟩
  obtain ⟨v3, e3, r3⟩ : ∃ z : Int, xs 3 = Int32.ofInt z ∧ -2147483648 ≤ z ∧ z ≤ 2147483647 := ⟨_, gi_of _, gi_rg _⟩
  obtain ⟨v4, e4, r4⟩ : ∃ z : Int, xs 4 = Int32.ofInt z ∧ -2147483648 ≤ z ∧ z ≤ 2147483647 := ⟨_, gi_of _, gi_rg _⟩
  obtain ⟨v5, e5, r5⟩ : ∃ z : Int, xs 5 = Int32.ofInt z ∧ -2147483648 ≤ z ∧ z ≤ 2147483647 := ⟨_, gi_of _, gi_rg _⟩
  obtain ⟨v6, e6, r6⟩ : ∃ z : Int, xs 6 = Int32.ofInt z ∧ -2147483648 ≤ z ∧ z ≤ 2147483647 := ⟨_, gi_of _, gi_rg _⟩
  refine g_aload_n (n := 1970) X 2 dL_law_1969 rfl rfl rfl ?_
  refine g_aload_n (n := 1971) X 3 dL_law_1970 rfl rfl rfl ?_
  refine g_iload_n (n := 1972) X 0 dL_law_1971 rfl rfl rfl ?_
  refine g_iconst (n := 1973) X dL_law_1972 rfl ?_
  refine g_iadd (n := 1974) (z := 1) X dL_law_1973 rfl rfl ?_
  refine g_scrld (n := 1975) (z := v1) X hb (by omega) (by omega) (by omega) dL_law_1974 rfl e1 ?_
  refine g_callVi (n := 1978) (As := [gJ v1]) (rest := []) (cs1 := 206) (ss1 := 87467) X (c_X11_count v1 (by omega) (by omega) f_0_0 f_1_10 f_1_11 f_1_12 f_1_13 f_1_5 f_9_5 f_1_15 f_1_14 f_1_8 f_26_3 f_1_6 f_15_7 f_15_8 f_15_9) okX11_count kw_6_13 ⟨kw_6_14, kw_6_15⟩ ⟨rfl, rfl⟩ ⟨Nat.le_of_ble_eq_true rfl, Nat.le_of_ble_eq_true rfl⟩ rfl (by omega) (by omega) lay_0 rfl rfl (Nat.le_of_ble_eq_true rfl) ⟨Nat.le_of_ble_eq_true rfl, Nat.le_of_ble_eq_true rfl⟩ rfl rfl dL_law_1975 rfl (fun z1 M2 P3 => ?_)
  obtain ⟨P3, F4⟩ := P3
  refine g_aload_n (n := 1979) X 1 dL_law_1978 rfl rfl rfl ?_
  refine g_aload_n (n := 1980) X 3 dL_law_1979 rfl rfl rfl ?_
  refine g_iload_n (n := 1981) X 0 dL_law_1980 rfl rfl rfl ?_
  refine g_iconst (n := 1982) X dL_law_1981 rfl ?_
  refine g_iadd (n := 1983) (z := 1) X dL_law_1982 rfl rfl ?_
  refine g_scrld (n := 1984) (z := v1) X hb (by omega) (by omega) (by omega) dL_law_1983 rfl e1 ?_
  refine g_callVi (n := 1987) (As := [gJ v1]) (rest := [gJ z1]) (cs1 := 206) (ss1 := 87467) X (c_X12_count v1 (by omega) (by omega) ((congrFun (F4 190) _).trans f_190_1) ((congrFun (F4 191) _).trans ((hS 0 (by omega) (by omega)).trans (by decide))) ((congrFun (F4 191) _).trans ((hS 1 (by omega) (by omega)).trans (by decide))) ((congrFun (F4 191) _).trans ((hS 2 (by omega) (by omega)).trans (by decide))) ((congrFun (F4 191) _).trans ((hS 3 (by omega) (by omega)).trans (by decide))) ((congrFun (F4 191) _).trans ((hS 4 (by omega) (by omega)).trans (by decide))) ((congrFun (F4 191) _).trans ((hS 5 (by omega) (by omega)).trans (by decide))) ((congrFun (F4 191) _).trans ((hS 6 (by omega) (by omega)).trans (by decide))) ((congrFun (F4 191) _).trans ((hS 7 (by omega) (by omega)).trans (by decide))) ((congrFun (F4 191) _).trans ((hS 8 (by omega) (by omega)).trans (by decide))) ((congrFun (F4 191) _).trans ((hS 9 (by omega) (by omega)).trans (by decide))) ((congrFun (F4 191) _).trans ((hS 10 (by omega) (by omega)).trans (by decide)))) okX12_count kw_8_45 ⟨kw_8_46, kw_8_47⟩ ⟨rfl, rfl⟩ ⟨Nat.le_of_ble_eq_true rfl, Nat.le_of_ble_eq_true rfl⟩ rfl (by omega) (by omega) lay_190 rfl rfl (Nat.le_of_ble_eq_true rfl) ⟨Nat.le_of_ble_eq_true rfl, Nat.le_of_ble_eq_true rfl⟩ rfl rfl dL_law_1984 rfl (fun z5 M6 P7 => ?_)
  obtain ⟨P7, F8⟩ := P7
  refine g_icmp_eq (n := 1990) (tgt := 1992) X dL_law_1987 (by decide) (by omega) (by omega) rfl (fun c9 => ?_) (fun c9 => by exfalso; omega)
  exact law_tail X hr hb (by omega) (by omega)
