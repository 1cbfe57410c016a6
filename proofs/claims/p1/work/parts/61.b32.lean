theorem dL_law_1590 : decode code 1590 = .ok (.aload_n 1, 1) := by decide +kernel
theorem dL_law_1591 : decode code 1591 = .ok (.aload_n 0, 1) := by decide +kernel
theorem dL_law_1592 : decode code 1592 = .ok (.iload_n 3, 1) := by decide +kernel
theorem dL_law_1593 : decode code 1593 = .ok (.iconst 1, 1) := by decide +kernel
theorem dL_law_1594 : decode code 1594 = .ok (.iadd, 1) := by decide +kernel
theorem dL_law_1595 : decode code 1595 = .ok (.iaload, 1) := by decide +kernel
theorem dL_law_1596 : decode code 1596 = .ok (.invokevirtual 153, 3) := by decide +kernel
theorem kw_5_90 : (Jvm.Cond.methodLink "ParishUnionLaw" (153 : Nat) ({ cls := "ParishUnion", name := "one", desc := "(I)I" } : Jvm.MethodName)) ∈ gT := gT_of (tb_5 _ (List.mem_of_getElem? (i := 90) rfl)) rfl
theorem kw_5_93 : (Jvm.Cond.code ({ cls := "ParishUnion", name := "one", desc := "(I)I" } : Jvm.MethodName) prog_1_method_34_code (2 : Nat) (Option.some Jvm.ClassFile.FieldType.int)) ∈ gT := gT_of (tb_5 _ (List.mem_of_getElem? (i := 93) rfl)) rfl
theorem okX11_one : gQok yX11_one cX11_one 2 (Option.some Jvm.ClassFile.FieldType.int) 1 := ⟨kw_5_93, kw_1_1, by decide +kernel, by decide +kernel, by decide +kernel⟩
theorem kw_5_91 : (Jvm.Cond.instanceMethod ({ cls := "ParishUnion", name := "one", desc := "(I)I" } : Jvm.MethodName)) ∈ gT := gT_of (tb_5 _ (List.mem_of_getElem? (i := 91) rfl)) rfl
theorem kw_5_92 : (Jvm.Cond.selects "ParishUnion" ({ cls := "ParishUnion", name := "one", desc := "(I)I" } : Jvm.MethodName) ({ cls := "ParishUnion", name := "one", desc := "(I)I" } : Jvm.MethodName)) ∈ gT := gT_of (tb_5 _ (List.mem_of_getElem? (i := 92) rfl)) rfl
theorem dL_law_1599 : decode code 1599 = .ok (.aload_n 2, 1) := by decide +kernel
theorem dL_law_1600 : decode code 1600 = .ok (.aload_n 0, 1) := by decide +kernel
theorem dL_law_1601 : decode code 1601 = .ok (.iload_n 3, 1) := by decide +kernel
theorem dL_law_1602 : decode code 1602 = .ok (.iconst 1, 1) := by decide +kernel
theorem dL_law_1603 : decode code 1603 = .ok (.iadd, 1) := by decide +kernel
theorem dL_law_1604 : decode code 1604 = .ok (.iaload, 1) := by decide +kernel
theorem dL_law_1605 : decode code 1605 = .ok (.invokevirtual 156, 3) := by decide +kernel
theorem kw_7_204 : (Jvm.Cond.methodLink "ParishUnionLaw" (156 : Nat) ({ cls := "ParishUnionModel", name := "one", desc := "(I)I" } : Jvm.MethodName)) ∈ gT := gT_of (tb_7 _ (List.mem_of_getElem? (i := 204) rfl)) rfl
theorem kw_7_207 : (Jvm.Cond.code ({ cls := "ParishUnionModel", name := "one", desc := "(I)I" } : Jvm.MethodName) prog_14_method_89_code (2 : Nat) (Option.some Jvm.ClassFile.FieldType.int)) ∈ gT := gT_of (tb_7 _ (List.mem_of_getElem? (i := 207) rfl)) rfl
theorem okX12_one : gQok yX12_one cX12_one 2 (Option.some Jvm.ClassFile.FieldType.int) 1 := ⟨kw_7_207, kw_1_13, by decide +kernel, by decide +kernel, by decide +kernel⟩
theorem kw_7_205 : (Jvm.Cond.instanceMethod ({ cls := "ParishUnionModel", name := "one", desc := "(I)I" } : Jvm.MethodName)) ∈ gT := gT_of (tb_7 _ (List.mem_of_getElem? (i := 205) rfl)) rfl
theorem kw_7_206 : (Jvm.Cond.selects "ParishUnionModel" ({ cls := "ParishUnionModel", name := "one", desc := "(I)I" } : Jvm.MethodName) ({ cls := "ParishUnionModel", name := "one", desc := "(I)I" } : Jvm.MethodName)) ∈ gT := gT_of (tb_7 _ (List.mem_of_getElem? (i := 206) rfl)) rfl
theorem dL_law_1608 : decode code 1608 = .ok (.if_icmp .eq 384, 3) := by decide +kernel
set_option maxRecDepth 100000 in
set_option maxHeartbeats 4000000 in
theorem law_case_32 {p : Program} {e : Env} {s : State} {m : MethodId} {below : List Frame} {meth : Method} {c : Code} {l : Launch} {D : va_G} {cA : Nat → ClassId} {b : Nat} {xs : Nat → Int32} (X : gCx p s m #[Value.ref b] meth c s.heap.size D cA "ParishUnionLaw" code 4) (hr : meth.sig.returnType = ret) (hb : b < s.heap.size ∧ va_X b 7 xs s s.heap) {M : gM} (hFr : gFr M) : G p l e room_1 s m #[Value.ref b] below meth c s.heap.size D cA 4 (lw_Z below #[Value.ref b] s) 206 87467 M 206 1590 [(3, gJ 0), (2, gA s.heap.size 190), (1, gA s.heap.size 0), (0, .ref b)] [] := by
  have rents := gFr_rents hFr
  have way := gFr_way hFr
  have beds := gFr_beds hFr
  have frost0 := gFr_frost0 hFr
  have rows0 := gFr_rows0 hFr
  have rooms0 := gFr_rooms0 hFr
  have tape0 := gFr_tape0 hFr
  have car0 := gFr_car0 hFr
  have hS := gFr_hS hFr
  obtain ⟨v0, e0, r0⟩ : ∃ z : Int, xs 0 = Int32.ofInt z ∧ -2147483648 ≤ z ∧ z ≤ 2147483647 := ⟨_, gi_of _, gi_rg _⟩
  obtain ⟨v1, e1, r1⟩ : ∃ z : Int, xs 1 = Int32.ofInt z ∧ -2147483648 ≤ z ∧ z ≤ 2147483647 := ⟨_, gi_of _, gi_rg _⟩
  obtain ⟨v2, e2, r2⟩ : ∃ z : Int, xs 2 = Int32.ofInt z ∧ -2147483648 ≤ z ∧ z ≤ 2147483647 := ⟨_, gi_of _, gi_rg _⟩
  obtain ⟨v3, e3, r3⟩ : ∃ z : Int, xs 3 = Int32.ofInt z ∧ -2147483648 ≤ z ∧ z ≤ 2147483647 := ⟨_, gi_of _, gi_rg _⟩
  obtain ⟨v4, e4, r4⟩ : ∃ z : Int, xs 4 = Int32.ofInt z ∧ -2147483648 ≤ z ∧ z ≤ 2147483647 := ⟨_, gi_of _, gi_rg _⟩
  obtain ⟨v5, e5, r5⟩ : ∃ z : Int, xs 5 = Int32.ofInt z ∧ -2147483648 ≤ z ∧ z ≤ 2147483647 := ⟨_, gi_of _, gi_rg _⟩
  obtain ⟨v6, e6, r6⟩ : ∃ z : Int, xs 6 = Int32.ofInt z ∧ -2147483648 ≤ z ∧ z ≤ 2147483647 := ⟨_, gi_of _, gi_rg _⟩
  refine g_aload_n (n := 1591) X 2 dL_law_1590 rfl rfl rfl ?_
  refine g_aload_n (n := 1592) X 3 dL_law_1591 rfl rfl rfl ?_
  refine g_iload_n (n := 1593) X 0 dL_law_1592 rfl rfl rfl ?_
  refine g_iconst (n := 1594) X dL_law_1593 rfl ?_
  refine g_iadd (n := 1595) (z := 1) X dL_law_1594 rfl rfl ?_
  refine g_scrld (n := 1596) (z := v1) X hb (by omega) (by omega) (by omega) dL_law_1595 rfl e1 ?_
  refine g_callVi (n := 1599) (As := [gJ v1]) (rest := []) (cs1 := 206) (ss1 := 87467) X (c_X11_one v1 (by omega) (by omega) (gFr_0_0 hFr) (gFr_1_8 hFr) (gFr_1_0 hFr) (gFr_26_3 hFr)) okX11_one kw_5_90 ⟨kw_5_91, kw_5_92⟩ ⟨rfl, rfl⟩ ⟨Nat.le_of_ble_eq_true rfl, Nat.le_of_ble_eq_true rfl⟩ rfl (by omega) (by omega) lay_0 rfl rfl (Nat.le_of_ble_eq_true rfl) ⟨Nat.le_of_ble_eq_true rfl, Nat.le_of_ble_eq_true rfl⟩ rfl rfl dL_law_1596 rfl (fun z1 M2 P3 => ?_)
  obtain ⟨P3, F4⟩ := P3
  refine g_aload_n (n := 1600) X 1 dL_law_1599 rfl rfl rfl ?_
  refine g_aload_n (n := 1601) X 3 dL_law_1600 rfl rfl rfl ?_
  refine g_iload_n (n := 1602) X 0 dL_law_1601 rfl rfl rfl ?_
  refine g_iconst (n := 1603) X dL_law_1602 rfl ?_
  refine g_iadd (n := 1604) (z := 1) X dL_law_1603 rfl rfl ?_
  refine g_scrld (n := 1605) (z := v1) X hb (by omega) (by omega) (by omega) dL_law_1604 rfl e1 ?_
  refine g_callVi (n := 1608) (As := [gJ v1]) (rest := [gJ z1]) (cs1 := 206) (ss1 := 87467) X (c_X12_one v1 (by omega) (by omega) ((congrFun (F4 190) _).trans (gFr_190_1 hFr)) ((congrFun (F4 191) _).trans ((hS 6 (by omega) (by omega)).trans (by decide)))) okX12_one kw_7_204 ⟨kw_7_205, kw_7_206⟩ ⟨rfl, rfl⟩ ⟨Nat.le_of_ble_eq_true rfl, Nat.le_of_ble_eq_true rfl⟩ rfl (by omega) (by omega) lay_190 rfl rfl (Nat.le_of_ble_eq_true rfl) ⟨Nat.le_of_ble_eq_true rfl, Nat.le_of_ble_eq_true rfl⟩ rfl rfl dL_law_1605 rfl (fun z5 M6 P7 => ?_)
  obtain ⟨P7, F8⟩ := P7
  refine g_icmp_eq (n := 1611) (tgt := 1992) X dL_law_1608 (by decide) (by omega) (by omega) rfl (fun c9 => ?_) (fun c9 => by exfalso; omega)
  exact law_tail X hr hb (by omega) (by omega)
theorem dL_law_1613 : decode code 1613 = .ok (.aload_n 1, 1) := by decide +kernel
theorem dL_law_1614 : decode code 1614 = .ok (.invokevirtual 157, 3) := by decide +kernel
theorem kw_5_99 : (Jvm.Cond.methodLink "ParishUnionLaw" (157 : Nat) ({ cls := "ParishUnion", name := "greatest", desc := "()I" } : Jvm.MethodName)) ∈ gT := gT_of (tb_5 _ (List.mem_of_getElem? (i := 99) rfl)) rfl
theorem kw_5_102 : (Jvm.Cond.code ({ cls := "ParishUnion", name := "greatest", desc := "()I" } : Jvm.MethodName) prog_1_method_35_code (1 : Nat) (Option.some Jvm.ClassFile.FieldType.int)) ∈ gT := gT_of (tb_5 _ (List.mem_of_getElem? (i := 102) rfl)) rfl
theorem okX11_greatest : gQok yX11_greatest cX11_greatest 1 (Option.some Jvm.ClassFile.FieldType.int) 0 := ⟨kw_5_102, kw_1_1, by decide +kernel, by decide +kernel, by decide +kernel⟩
theorem kw_5_100 : (Jvm.Cond.instanceMethod ({ cls := "ParishUnion", name := "greatest", desc := "()I" } : Jvm.MethodName)) ∈ gT := gT_of (tb_5 _ (List.mem_of_getElem? (i := 100) rfl)) rfl
theorem kw_5_101 : (Jvm.Cond.selects "ParishUnion" ({ cls := "ParishUnion", name := "greatest", desc := "()I" } : Jvm.MethodName) ({ cls := "ParishUnion", name := "greatest", desc := "()I" } : Jvm.MethodName)) ∈ gT := gT_of (tb_5 _ (List.mem_of_getElem? (i := 101) rfl)) rfl
theorem dL_law_1617 : decode code 1617 = .ok (.aload_n 2, 1) := by decide +kernel
theorem dL_law_1618 : decode code 1618 = .ok (.invokevirtual 161, 3) := by decide +kernel
theorem kw_7_216 : (Jvm.Cond.methodLink "ParishUnionLaw" (161 : Nat) ({ cls := "ParishUnionModel", name := "greatest", desc := "()I" } : Jvm.MethodName)) ∈ gT := gT_of (tb_7 _ (List.mem_of_getElem? (i := 216) rfl)) rfl
theorem kw_7_219 : (Jvm.Cond.code ({ cls := "ParishUnionModel", name := "greatest", desc := "()I" } : Jvm.MethodName) prog_14_method_90_code (5 : Nat) (Option.some Jvm.ClassFile.FieldType.int)) ∈ gT := gT_of (tb_7 _ (List.mem_of_getElem? (i := 219) rfl)) rfl
theorem okX12_greatest : gQok yX12_greatest cX12_greatest 5 (Option.some Jvm.ClassFile.FieldType.int) 0 := ⟨kw_7_219, kw_1_13, by decide +kernel, by decide +kernel, by decide +kernel⟩
theorem kw_7_217 : (Jvm.Cond.instanceMethod ({ cls := "ParishUnionModel", name := "greatest", desc := "()I" } : Jvm.MethodName)) ∈ gT := gT_of (tb_7 _ (List.mem_of_getElem? (i := 217) rfl)) rfl
theorem kw_7_218 : (Jvm.Cond.selects "ParishUnionModel" ({ cls := "ParishUnionModel", name := "greatest", desc := "()I" } : Jvm.MethodName) ({ cls := "ParishUnionModel", name := "greatest", desc := "()I" } : Jvm.MethodName)) ∈ gT := gT_of (tb_7 _ (List.mem_of_getElem? (i := 218) rfl)) rfl
theorem dL_law_1621 : decode code 1621 = .ok (.if_icmp .eq 371, 3) := by decide +kernel
set_option maxRecDepth 100000 in
set_option maxHeartbeats 4000000 in
theorem law_case_33 {p : Program} {e : Env} {s : State} {m : MethodId} {below : List Frame} {meth : Method} {c : Code} {l : Launch} {D : va_G} {cA : Nat → ClassId} {b : Nat} {xs : Nat → Int32} (X : gCx p s m #[Value.ref b] meth c s.heap.size D cA "ParishUnionLaw" code 4) (hr : meth.sig.returnType = ret) (hb : b < s.heap.size ∧ va_X b 7 xs s s.heap) {M : gM} (hFr : gFr M) : G p l e room_1 s m #[Value.ref b] below meth c s.heap.size D cA 4 (lw_Z below #[Value.ref b] s) 206 87467 M 206 1613 [(3, gJ 0), (2, gA s.heap.size 190), (1, gA s.heap.size 0), (0, .ref b)] [] := by
  have rents := gFr_rents hFr
  have way := gFr_way hFr
  have beds := gFr_beds hFr
  have frost0 := gFr_frost0 hFr
  have rows0 := gFr_rows0 hFr
  have rooms0 := gFr_rooms0 hFr
  have tape0 := gFr_tape0 hFr
  have car0 := gFr_car0 hFr
  have hS := gFr_hS hFr
  obtain ⟨v0, e0, r0⟩ : ∃ z : Int, xs 0 = Int32.ofInt z ∧ -2147483648 ≤ z ∧ z ≤ 2147483647 := ⟨_, gi_of _, gi_rg _⟩
  obtain ⟨v1, e1, r1⟩ : ∃ z : Int, xs 1 = Int32.ofInt z ∧ -2147483648 ≤ z ∧ z ≤ 2147483647 := ⟨_, gi_of _, gi_rg _⟩
  obtain ⟨v2, e2, r2⟩ : ∃ z : Int, xs 2 = Int32.ofInt z ∧ -2147483648 ≤ z ∧ z ≤ 2147483647 := ⟨_, gi_of _, gi_rg _⟩
  obtain ⟨v3, e3, r3⟩ : ∃ z : Int, xs 3 = Int32.ofInt z ∧ -2147483648 ≤ z ∧ z ≤ 2147483647 := ⟨_, gi_of _, gi_rg _⟩
  obtain ⟨v4, e4, r4⟩ : ∃ z : Int, xs 4 = Int32.ofInt z ∧ -2147483648 ≤ z ∧ z ≤ 2147483647 := ⟨_, gi_of _, gi_rg _⟩
  obtain ⟨v5, e5, r5⟩ : ∃ z : Int, xs 5 = Int32.ofInt z ∧ -2147483648 ≤ z ∧ z ≤ 2147483647 := ⟨_, gi_of _, gi_rg _⟩
  obtain ⟨v6, e6, r6⟩ : ∃ z : Int, xs 6 = Int32.ofInt z ∧ -2147483648 ≤ z ∧ z ≤ 2147483647 := ⟨_, gi_of _, gi_rg _⟩
  refine g_aload_n (n := 1614) X 2 dL_law_1613 rfl rfl rfl ?_
  refine g_callVi (n := 1617) (As := []) (rest := []) (cs1 := 206) (ss1 := 87467) X (c_X11_greatest (by omega) (gFr_0_0 hFr) (gFr_1_8 hFr) (gFr_1_0 hFr) (gFr_26_3 hFr)) okX11_greatest kw_5_99 ⟨kw_5_100, kw_5_101⟩ ⟨rfl, rfl⟩ ⟨Nat.le_of_ble_eq_true rfl, Nat.le_of_ble_eq_true rfl⟩ rfl (by omega) (by omega) lay_0 rfl rfl (Nat.le_of_ble_eq_true rfl) ⟨Nat.le_of_ble_eq_true rfl, Nat.le_of_ble_eq_true rfl⟩ rfl rfl dL_law_1614 rfl (fun z1 M2 P3 => ?_)
  obtain ⟨P3, F4⟩ := P3
  refine g_aload_n (n := 1618) X 1 dL_law_1617 rfl rfl rfl ?_
  refine g_callVi (n := 1621) (As := []) (rest := [gJ z1]) (cs1 := 206) (ss1 := 87467) X (c_X12_greatest (by omega) ((congrFun (F4 190) _).trans (gFr_190_1 hFr)) ((congrFun (F4 191) _).trans ((hS 6 (by omega) (by omega)).trans (by decide)))) okX12_greatest kw_7_216 ⟨kw_7_217, kw_7_218⟩ ⟨rfl, rfl⟩ ⟨Nat.le_of_ble_eq_true rfl, Nat.le_of_ble_eq_true rfl⟩ rfl (by omega) (by omega) lay_190 rfl rfl (Nat.le_of_ble_eq_true rfl) ⟨Nat.le_of_ble_eq_true rfl, Nat.le_of_ble_eq_true rfl⟩ rfl rfl dL_law_1618 rfl (fun z5 M6 P7 => ?_)
  obtain ⟨P7, F8⟩ := P7
  refine g_icmp_eq (n := 1624) (tgt := 1992) X dL_law_1621 (by decide) (by omega) (by omega) rfl (fun c9 => ?_) (fun c9 => by exfalso; omega)
  exact law_tail X hr hb (by omega) (by omega)
theorem dL_law_1626 : decode code 1626 = .ok (.aload_n 1, 1) := by decide +kernel
theorem dL_law_1627 : decode code 1627 = .ok (.aload_n 0, 1) := by decide +kernel
theorem dL_law_1628 : decode code 1628 = .ok (.iload_n 3, 1) := by decide +kernel
theorem dL_law_1629 : decode code 1629 = .ok (.iconst 1, 1) := by decide +kernel
theorem dL_law_1630 : decode code 1630 = .ok (.iadd, 1) := by decide +kernel
theorem dL_law_1631 : decode code 1631 = .ok (.iaload, 1) := by decide +kernel
theorem dL_law_1632 : decode code 1632 = .ok (.aload_n 0, 1) := by decide +kernel
theorem dL_law_1633 : decode code 1633 = .ok (.iload_n 3, 1) := by decide +kernel
theorem dL_law_1634 : decode code 1634 = .ok (.iconst 2, 1) := by decide +kernel
theorem dL_law_1635 : decode code 1635 = .ok (.iadd, 1) := by decide +kernel
theorem dL_law_1636 : decode code 1636 = .ok (.iaload, 1) := by decide +kernel
theorem dL_law_1637 : decode code 1637 = .ok (.invokevirtual 162, 3) := by decide +kernel
theorem kw_5_109 : (Jvm.Cond.methodLink "ParishUnionLaw" (162 : Nat) ({ cls := "ParishUnion", name := "master", desc := "(II)I" } : Jvm.MethodName)) ∈ gT := gT_of (tb_5 _ (List.mem_of_getElem? (i := 109) rfl)) rfl
theorem kw_5_112 : (Jvm.Cond.code ({ cls := "ParishUnion", name := "master", desc := "(II)I" } : Jvm.MethodName) prog_1_method_36_code (4 : Nat) (Option.some Jvm.ClassFile.FieldType.int)) ∈ gT := gT_of (tb_5 _ (List.mem_of_getElem? (i := 112) rfl)) rfl
theorem okX11_master : gQok yX11_master cX11_master 4 (Option.some Jvm.ClassFile.FieldType.int) 2 := ⟨kw_5_112, kw_1_1, by decide +kernel, by decide +kernel, by decide +kernel⟩
theorem kw_5_110 : (Jvm.Cond.instanceMethod ({ cls := "ParishUnion", name := "master", desc := "(II)I" } : Jvm.MethodName)) ∈ gT := gT_of (tb_5 _ (List.mem_of_getElem? (i := 110) rfl)) rfl
theorem kw_5_111 : (Jvm.Cond.selects "ParishUnion" ({ cls := "ParishUnion", name := "master", desc := "(II)I" } : Jvm.MethodName) ({ cls := "ParishUnion", name := "master", desc := "(II)I" } : Jvm.MethodName)) ∈ gT := gT_of (tb_5 _ (List.mem_of_getElem? (i := 111) rfl)) rfl
theorem dL_law_1640 : decode code 1640 = .ok (.aload_n 2, 1) := by decide +kernel
theorem dL_law_1641 : decode code 1641 = .ok (.aload_n 0, 1) := by decide +kernel
theorem dL_law_1642 : decode code 1642 = .ok (.iload_n 3, 1) := by decide +kernel
theorem dL_law_1643 : decode code 1643 = .ok (.iconst 1, 1) := by decide +kernel
theorem dL_law_1644 : decode code 1644 = .ok (.iadd, 1) := by decide +kernel
theorem dL_law_1645 : decode code 1645 = .ok (.iaload, 1) := by decide +kernel
theorem dL_law_1646 : decode code 1646 = .ok (.aload_n 0, 1) := by decide +kernel
theorem dL_law_1647 : decode code 1647 = .ok (.iload_n 3, 1) := by decide +kernel
theorem dL_law_1648 : decode code 1648 = .ok (.iconst 2, 1) := by decide +kernel
theorem dL_law_1649 : decode code 1649 = .ok (.iadd, 1) := by decide +kernel
theorem dL_law_1650 : decode code 1650 = .ok (.iaload, 1) := by decide +kernel
theorem dL_law_1651 : decode code 1651 = .ok (.invokevirtual 165, 3) := by decide +kernel
theorem kw_7_220 : (Jvm.Cond.methodLink "ParishUnionLaw" (165 : Nat) ({ cls := "ParishUnionModel", name := "master", desc := "(II)I" } : Jvm.MethodName)) ∈ gT := gT_of (tb_7 _ (List.mem_of_getElem? (i := 220) rfl)) rfl
theorem kw_7_223 : (Jvm.Cond.code ({ cls := "ParishUnionModel", name := "master", desc := "(II)I" } : Jvm.MethodName) prog_14_method_91_code (4 : Nat) (Option.some Jvm.ClassFile.FieldType.int)) ∈ gT := gT_of (tb_7 _ (List.mem_of_getElem? (i := 223) rfl)) rfl
theorem okX12_master : gQok yX12_master cX12_master 4 (Option.some Jvm.ClassFile.FieldType.int) 2 := ⟨kw_7_223, kw_1_13, by decide +kernel, by decide +kernel, by decide +kernel⟩
theorem kw_7_221 : (Jvm.Cond.instanceMethod ({ cls := "ParishUnionModel", name := "master", desc := "(II)I" } : Jvm.MethodName)) ∈ gT := gT_of (tb_7 _ (List.mem_of_getElem? (i := 221) rfl)) rfl
theorem kw_7_222 : (Jvm.Cond.selects "ParishUnionModel" ({ cls := "ParishUnionModel", name := "master", desc := "(II)I" } : Jvm.MethodName) ({ cls := "ParishUnionModel", name := "master", desc := "(II)I" } : Jvm.MethodName)) ∈ gT := gT_of (tb_7 _ (List.mem_of_getElem? (i := 222) rfl)) rfl
theorem dL_law_1654 : decode code 1654 = .ok (.if_icmp .eq 338, 3) := by decide +kernel
set_option maxRecDepth 100000 in
set_option maxHeartbeats 4000000 in
theorem law_case_34 {p : Program} {e : Env} {s : State} {m : MethodId} {below : List Frame} {meth : Method} {c : Code} {l : Launch} {D : va_G} {cA : Nat → ClassId} {b : Nat} {xs : Nat → Int32} (X : gCx p s m #[Value.ref b] meth c s.heap.size D cA "ParishUnionLaw" code 4) (hr : meth.sig.returnType = ret) (hb : b < s.heap.size ∧ va_X b 7 xs s s.heap) {M : gM} (hFr : gFr M) : G p l e room_1 s m #[Value.ref b] below meth c s.heap.size D cA 4 (lw_Z below #[Value.ref b] s) 206 87467 M 206 1626 [(3, gJ 0), (2, gA s.heap.size 190), (1, gA s.heap.size 0), (0, .ref b)] [] := by
  have rents := gFr_rents hFr
  have way := gFr_way hFr
  have beds := gFr_beds hFr
  have frost0 := gFr_frost0 hFr
  have rows0 := gFr_rows0 hFr
  have rooms0 := gFr_rooms0 hFr
  have tape0 := gFr_tape0 hFr
  have car0 := gFr_car0 hFr
  have hS := gFr_hS hFr
  obtain ⟨v0, e0, r0⟩ : ∃ z : Int, xs 0 = Int32.ofInt z ∧ -2147483648 ≤ z ∧ z ≤ 2147483647 := ⟨_, gi_of _, gi_rg _⟩
  obtain ⟨v1, e1, r1⟩ : ∃ z : Int, xs 1 = Int32.ofInt z ∧ -2147483648 ≤ z ∧ z ≤ 2147483647 := ⟨_, gi_of _, gi_rg _⟩
  obtain ⟨v2, e2, r2⟩ : ∃ z : Int, xs 2 = Int32.ofInt z ∧ -2147483648 ≤ z ∧ z ≤ 2147483647 := ⟨_, gi_of _, gi_rg _⟩
  obtain ⟨v3, e3, r3⟩ : ∃ z : Int, xs 3 = Int32.ofInt z ∧ -2147483648 ≤ z ∧ z ≤ 2147483647 := ⟨_, gi_of _, gi_rg _⟩
  obtain ⟨v4, e4, r4⟩ : ∃ z : Int, xs 4 = Int32.ofInt z ∧ -2147483648 ≤ z ∧ z ≤ 2147483647 := ⟨_, gi_of _, gi_rg _⟩
  obtain ⟨v5, e5, r5⟩ : ∃ z : Int, xs 5 = Int32.ofInt z ∧ -2147483648 ≤ z ∧ z ≤ 2147483647 := ⟨_, gi_of _, gi_rg _⟩
  obtain ⟨v6, e6, r6⟩ : ∃ z : Int, xs 6 = Int32.ofInt z ∧ -2147483648 ≤ z ∧ z ≤ 2147483647 := ⟨_, gi_of _, gi_rg _⟩
  refine g_aload_n (n := 1627) X 2 dL_law_1626 rfl rfl rfl ?_
  refine g_aload_n (n := 1628) X 3 dL_law_1627 rfl rfl rfl ?_
  refine g_iload_n (n := 1629) X 0 dL_law_1628 rfl rfl rfl ?_
  refine g_iconst (n := 1630) X dL_law_1629 rfl ?_
  refine g_iadd (n := 1631) (z := 1) X dL_law_1630 rfl rfl ?_
  refine g_scrld (n := 1632) (z := v1) X hb (by omega) (by omega) (by omega) dL_law_1631 rfl e1 ?_
  refine g_aload_n (n := 1633) X 3 dL_law_1632 rfl rfl rfl ?_
  refine g_iload_n (n := 1634) X 0 dL_law_1633 rfl rfl rfl ?_
  refine g_iconst (n := 1635) X dL_law_1634 rfl ?_
  refine g_iadd (n := 1636) (z := 2) X dL_law_1635 rfl rfl ?_
  refine g_scrld (n := 1637) (z := v2) X hb (by omega) (by omega) (by omega) dL_law_1636 rfl e2 ?_
  refine g_callVi (n := 1640) (As := [gJ v1, gJ v2]) (rest := []) (cs1 := 206) (ss1 := 87467) X (c_X11_master v1 v2 (by omega) (by omega) (by omega) (gFr_0_0 hFr) (gFr_1_10 hFr) (gFr_1_9 hFr) rooms0) okX11_master kw_5_109 ⟨kw_5_110, kw_5_111⟩ ⟨rfl, rfl⟩ ⟨Nat.le_of_ble_eq_true rfl, Nat.le_of_ble_eq_true rfl⟩ rfl (by omega) (by omega) lay_0 rfl rfl (Nat.le_of_ble_eq_true rfl) ⟨Nat.le_of_ble_eq_true rfl, Nat.le_of_ble_eq_true rfl⟩ rfl rfl dL_law_1637 rfl (fun z1 M2 P3 => ?_)
  obtain ⟨P3, F4⟩ := P3
  refine g_aload_n (n := 1641) X 1 dL_law_1640 rfl rfl rfl ?_
  refine g_aload_n (n := 1642) X 3 dL_law_1641 rfl rfl rfl ?_
  refine g_iload_n (n := 1643) X 0 dL_law_1642 rfl rfl rfl ?_
  refine g_iconst (n := 1644) X dL_law_1643 rfl ?_
  refine g_iadd (n := 1645) (z := 1) X dL_law_1644 rfl rfl ?_
  refine g_scrld (n := 1646) (z := v1) X hb (by omega) (by omega) (by omega) dL_law_1645 rfl e1 ?_
  refine g_aload_n (n := 1647) X 3 dL_law_1646 rfl rfl rfl ?_
  refine g_iload_n (n := 1648) X 0 dL_law_1647 rfl rfl rfl ?_
  refine g_iconst (n := 1649) X dL_law_1648 rfl ?_
  refine g_iadd (n := 1650) (z := 2) X dL_law_1649 rfl rfl ?_
  refine g_scrld (n := 1651) (z := v2) X hb (by omega) (by omega) (by omega) dL_law_1650 rfl e2 ?_
  refine g_callVi (n := 1654) (As := [gJ v1, gJ v2]) (rest := [gJ z1]) (cs1 := 206) (ss1 := 87467) X (c_X12_master v1 v2 (by omega) (by omega) (by omega) ((congrFun (F4 190 (by omega)) _).trans (gFr_190_1 hFr)) (fun i h0 h1 => (congrFun ((F4 191 (by omega)).trans rfl) i).trans (hS i h0 h1))) okX12_master kw_7_220 ⟨kw_7_221, kw_7_222⟩ ⟨rfl, rfl⟩ ⟨Nat.le_of_ble_eq_true rfl, Nat.le_of_ble_eq_true rfl⟩ rfl (by omega) (by omega) lay_190 rfl rfl (Nat.le_of_ble_eq_true rfl) ⟨Nat.le_of_ble_eq_true rfl, Nat.le_of_ble_eq_true rfl⟩ rfl rfl dL_law_1651 rfl (fun z5 M6 P7 => ?_)
  obtain ⟨P7, F8⟩ := P7
  refine g_icmp_eq (n := 1657) (tgt := 1992) X dL_law_1654 (by decide) (by omega) (by omega) rfl (fun c9 => ?_) (fun c9 => by exfalso; omega)
  exact law_tail X hr hb (by omega) (by omega)
theorem dL_law_1659 : decode code 1659 = .ok (.aload_n 1, 1) := by decide +kernel
theorem dL_law_1660 : decode code 1660 = .ok (.aload_n 0, 1) := by decide +kernel
theorem dL_law_1661 : decode code 1661 = .ok (.iload_n 3, 1) := by decide +kernel
theorem dL_law_1662 : decode code 1662 = .ok (.iconst 1, 1) := by decide +kernel
theorem dL_law_1663 : decode code 1663 = .ok (.iadd, 1) := by decide +kernel
theorem dL_law_1664 : decode code 1664 = .ok (.iaload, 1) := by decide +kernel
theorem dL_law_1665 : decode code 1665 = .ok (.aload_n 0, 1) := by decide +kernel
theorem dL_law_1666 : decode code 1666 = .ok (.iload_n 3, 1) := by decide +kernel
theorem dL_law_1667 : decode code 1667 = .ok (.iconst 2, 1) := by decide +kernel
theorem dL_law_1668 : decode code 1668 = .ok (.iadd, 1) := by decide +kernel
theorem dL_law_1669 : decode code 1669 = .ok (.iaload, 1) := by decide +kernel
theorem dL_law_1670 : decode code 1670 = .ok (.invokevirtual 166, 3) := by decide +kernel
theorem kw_5_117 : (Jvm.Cond.methodLink "ParishUnionLaw" (166 : Nat) ({ cls := "ParishUnion", name := "bind", desc := "(II)I" } : Jvm.MethodName)) ∈ gT := gT_of (tb_5 _ (List.mem_of_getElem? (i := 117) rfl)) rfl
theorem kw_5_120 : (Jvm.Cond.code ({ cls := "ParishUnion", name := "bind", desc := "(II)I" } : Jvm.MethodName) prog_1_method_37_code (7 : Nat) (Option.some Jvm.ClassFile.FieldType.int)) ∈ gT := gT_of (tb_5 _ (List.mem_of_getElem? (i := 120) rfl)) rfl
theorem okX11_bind : gQok yX11_bind cX11_bind 7 (Option.some Jvm.ClassFile.FieldType.int) 2 := ⟨kw_5_120, kw_1_1, by decide +kernel, by decide +kernel, by decide +kernel⟩
theorem kw_5_118 : (Jvm.Cond.instanceMethod ({ cls := "ParishUnion", name := "bind", desc := "(II)I" } : Jvm.MethodName)) ∈ gT := gT_of (tb_5 _ (List.mem_of_getElem? (i := 118) rfl)) rfl
theorem kw_5_119 : (Jvm.Cond.selects "ParishUnion" ({ cls := "ParishUnion", name := "bind", desc := "(II)I" } : Jvm.MethodName) ({ cls := "ParishUnion", name := "bind", desc := "(II)I" } : Jvm.MethodName)) ∈ gT := gT_of (tb_5 _ (List.mem_of_getElem? (i := 119) rfl)) rfl
theorem dL_law_1673 : decode code 1673 = .ok (.aload_n 2, 1) := by decide +kernel
theorem dL_law_1674 : decode code 1674 = .ok (.aload_n 0, 1) := by decide +kernel
theorem dL_law_1675 : decode code 1675 = .ok (.iload_n 3, 1) := by decide +kernel
theorem dL_law_1676 : decode code 1676 = .ok (.iconst 1, 1) := by decide +kernel
theorem dL_law_1677 : decode code 1677 = .ok (.iadd, 1) := by decide +kernel
theorem dL_law_1678 : decode code 1678 = .ok (.iaload, 1) := by decide +kernel
theorem dL_law_1679 : decode code 1679 = .ok (.aload_n 0, 1) := by decide +kernel
theorem dL_law_1680 : decode code 1680 = .ok (.iload_n 3, 1) := by decide +kernel
theorem dL_law_1681 : decode code 1681 = .ok (.iconst 2, 1) := by decide +kernel
theorem dL_law_1682 : decode code 1682 = .ok (.iadd, 1) := by decide +kernel
theorem dL_law_1683 : decode code 1683 = .ok (.iaload, 1) := by decide +kernel
theorem dL_law_1684 : decode code 1684 = .ok (.invokevirtual 169, 3) := by decide +kernel
theorem kw_7_224 : (Jvm.Cond.methodLink "ParishUnionLaw" (169 : Nat) ({ cls := "ParishUnionModel", name := "bind", desc := "(II)I" } : Jvm.MethodName)) ∈ gT := gT_of (tb_7 _ (List.mem_of_getElem? (i := 224) rfl)) rfl
theorem kw_7_227 : (Jvm.Cond.code ({ cls := "ParishUnionModel", name := "bind", desc := "(II)I" } : Jvm.MethodName) prog_14_method_92_code (3 : Nat) (Option.some Jvm.ClassFile.FieldType.int)) ∈ gT := gT_of (tb_7 _ (List.mem_of_getElem? (i := 227) rfl)) rfl
theorem okX12_bind : gQok yX12_bind cX12_bind 3 (Option.some Jvm.ClassFile.FieldType.int) 2 := ⟨kw_7_227, kw_1_13, by decide +kernel, by decide +kernel, by decide +kernel⟩
theorem kw_7_225 : (Jvm.Cond.instanceMethod ({ cls := "ParishUnionModel", name := "bind", desc := "(II)I" } : Jvm.MethodName)) ∈ gT := gT_of (tb_7 _ (List.mem_of_getElem? (i := 225) rfl)) rfl
theorem kw_7_226 : (Jvm.Cond.selects "ParishUnionModel" ({ cls := "ParishUnionModel", name := "bind", desc := "(II)I" } : Jvm.MethodName) ({ cls := "ParishUnionModel", name := "bind", desc := "(II)I" } : Jvm.MethodName)) ∈ gT := gT_of (tb_7 _ (List.mem_of_getElem? (i := 226) rfl)) rfl
theorem dL_law_1687 : decode code 1687 = .ok (.if_icmp .eq 305, 3) := by decide +kernel
set_option maxRecDepth 100000 in
set_option maxHeartbeats 4000000 in
theorem law_case_35 {p : Program} {e : Env} {s : State} {m : MethodId} {below : List Frame} {meth : Method} {c : Code} {l : Launch} {D : va_G} {cA : Nat → ClassId} {b : Nat} {xs : Nat → Int32} (X : gCx p s m #[Value.ref b] meth c s.heap.size D cA "ParishUnionLaw" code 4) (hr : meth.sig.returnType = ret) (hb : b < s.heap.size ∧ va_X b 7 xs s s.heap) {M : gM} (hFr : gFr M) : G p l e room_1 s m #[Value.ref b] below meth c s.heap.size D cA 4 (lw_Z below #[Value.ref b] s) 206 87467 M 206 1659 [(3, gJ 0), (2, gA s.heap.size 190), (1, gA s.heap.size 0), (0, .ref b)] [] := by
  have rents := gFr_rents hFr
  have way := gFr_way hFr
  have beds := gFr_beds hFr
  have frost0 := gFr_frost0 hFr
  have rows0 := gFr_rows0 hFr
  have rooms0 := gFr_rooms0 hFr
  have tape0 := gFr_tape0 hFr
  have car0 := gFr_car0 hFr
  have hS := gFr_hS hFr
  obtain ⟨v0, e0, r0⟩ : ∃ z : Int, xs 0 = Int32.ofInt z ∧ -2147483648 ≤ z ∧ z ≤ 2147483647 := ⟨_, gi_of _, gi_rg _⟩
  obtain ⟨v1, e1, r1⟩ : ∃ z : Int, xs 1 = Int32.ofInt z ∧ -2147483648 ≤ z ∧ z ≤ 2147483647 := ⟨_, gi_of _, gi_rg _⟩
  obtain ⟨v2, e2, r2⟩ : ∃ z : Int, xs 2 = Int32.ofInt z ∧ -2147483648 ≤ z ∧ z ≤ 2147483647 := ⟨_, gi_of _, gi_rg _⟩
  obtain ⟨v3, e3, r3⟩ : ∃ z : Int, xs 3 = Int32.ofInt z ∧ -2147483648 ≤ z ∧ z ≤ 2147483647 := ⟨_, gi_of _, gi_rg _⟩
  obtain ⟨v4, e4, r4⟩ : ∃ z : Int, xs 4 = Int32.ofInt z ∧ -2147483648 ≤ z ∧ z ≤ 2147483647 := ⟨_, gi_of _, gi_rg _⟩
  obtain ⟨v5, e5, r5⟩ : ∃ z : Int, xs 5 = Int32.ofInt z ∧ -2147483648 ≤ z ∧ z ≤ 2147483647 := ⟨_, gi_of _, gi_rg _⟩
  obtain ⟨v6, e6, r6⟩ : ∃ z : Int, xs 6 = Int32.ofInt z ∧ -2147483648 ≤ z ∧ z ≤ 2147483647 := ⟨_, gi_of _, gi_rg _⟩
  refine g_aload_n (n := 1660) X 2 dL_law_1659 rfl rfl rfl ?_
  refine g_aload_n (n := 1661) X 3 dL_law_1660 rfl rfl rfl ?_
  refine g_iload_n (n := 1662) X 0 dL_law_1661 rfl rfl rfl ?_
  refine g_iconst (n := 1663) X dL_law_1662 rfl ?_
  refine g_iadd (n := 1664) (z := 1) X dL_law_1663 rfl rfl ?_
  refine g_scrld (n := 1665) (z := v1) X hb (by omega) (by omega) (by omega) dL_law_1664 rfl e1 ?_
  refine g_aload_n (n := 1666) X 3 dL_law_1665 rfl rfl rfl ?_
  refine g_iload_n (n := 1667) X 0 dL_law_1666 rfl rfl rfl ?_
  refine g_iconst (n := 1668) X dL_law_1667 rfl ?_
  refine g_iadd (n := 1669) (z := 2) X dL_law_1668 rfl rfl ?_
  refine g_scrld (n := 1670) (z := v2) X hb (by omega) (by omega) (by omega) dL_law_1669 rfl e2 ?_
  refine g_callVi (n := 1673) (As := [gJ v1, gJ v2]) (rest := []) (cs1 := 206) (ss1 := 87467) X (c_X11_bind v1 v2 (by omega) (by omega) (by omega) (gFr_0_0 hFr) (gFr_1_10 hFr)) okX11_bind kw_5_117 ⟨kw_5_118, kw_5_119⟩ ⟨rfl, rfl⟩ ⟨Nat.le_of_ble_eq_true rfl, Nat.le_of_ble_eq_true rfl⟩ rfl (by omega) (by omega) lay_0 rfl rfl (Nat.le_of_ble_eq_true rfl) ⟨Nat.le_of_ble_eq_true rfl, Nat.le_of_ble_eq_true rfl⟩ rfl rfl dL_law_1670 rfl (fun z1 M2 P3 => ?_)
  obtain ⟨P3, F4⟩ := P3
  refine g_aload_n (n := 1674) X 1 dL_law_1673 rfl rfl rfl ?_
  refine g_aload_n (n := 1675) X 3 dL_law_1674 rfl rfl rfl ?_
  refine g_iload_n (n := 1676) X 0 dL_law_1675 rfl rfl rfl ?_
  refine g_iconst (n := 1677) X dL_law_1676 rfl ?_
  refine g_iadd (n := 1678) (z := 1) X dL_law_1677 rfl rfl ?_
  refine g_scrld (n := 1679) (z := v1) X hb (by omega) (by omega) (by omega) dL_law_1678 rfl e1 ?_
  refine g_aload_n (n := 1680) X 3 dL_law_1679 rfl rfl rfl ?_
  refine g_iload_n (n := 1681) X 0 dL_law_1680 rfl rfl rfl ?_
  refine g_iconst (n := 1682) X dL_law_1681 rfl ?_
  refine g_iadd (n := 1683) (z := 2) X dL_law_1682 rfl rfl ?_
  refine g_scrld (n := 1684) (z := v2) X hb (by omega) (by omega) (by omega) dL_law_1683 rfl e2 ?_
  refine g_callVi (n := 1687) (As := [gJ v1, gJ v2]) (rest := [gJ z1]) (cs1 := 206) (ss1 := 87467) X (c_X12_bind v1 v2 (by omega) (by omega) (by omega) ((congrFun (F4 190) _).trans (gFr_190_1 hFr)) ((congrFun (F4 191) _).trans ((hS 1 (by omega) (by omega)).trans (by decide)))) okX12_bind kw_7_224 ⟨kw_7_225, kw_7_226⟩ ⟨rfl, rfl⟩ ⟨Nat.le_of_ble_eq_true rfl, Nat.le_of_ble_eq_true rfl⟩ rfl (by omega) (by omega) lay_190 rfl rfl (Nat.le_of_ble_eq_true rfl) ⟨Nat.le_of_ble_eq_true rfl, Nat.le_of_ble_eq_true rfl⟩ rfl rfl dL_law_1684 rfl (fun z5 M6 P7 => ?_)
  obtain ⟨P7, F8⟩ := P7
  refine g_icmp_eq (n := 1690) (tgt := 1992) X dL_law_1687 (by decide) (by omega) (by omega) rfl (fun c9 => ?_) (fun c9 => by exfalso; omega)
  exact law_tail X hr hb (by omega) (by omega)
