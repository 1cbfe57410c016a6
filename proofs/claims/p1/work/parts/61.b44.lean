theorem dL_law_1956 : decode code 1956 = .ok (.aload_n 1, 1) := by decide +kernel
theorem dL_law_1957 : decode code 1957 = .ok (.invokevirtual 203, 3) := by decide +kernel
theorem kw_6_9 : (Jvm.Cond.methodLink "ParishUnionLaw" (203 : Nat) ({ cls := "ParishUnion", name := "undo", desc := "()I" } : Jvm.MethodName)) ∈ gT := gT_of (tb_6 _ (List.mem_of_getElem? (i := 9) rfl)) rfl
theorem kw_6_12 : (Jvm.Cond.code ({ cls := "ParishUnion", name := "undo", desc := "()I" } : Jvm.MethodName) prog_1_method_46_code (1 : Nat) (Option.some Jvm.ClassFile.FieldType.int)) ∈ gT := gT_of (tb_6 _ (List.mem_of_getElem? (i := 12) rfl)) rfl
theorem okX11_undo : gQok yX11_undo cX11_undo 1 (Option.some Jvm.ClassFile.FieldType.int) 0 := ⟨kw_6_12, kw_1_1, by decide +kernel, by decide +kernel, by decide +kernel⟩
theorem kw_6_10 : (Jvm.Cond.instanceMethod ({ cls := "ParishUnion", name := "undo", desc := "()I" } : Jvm.MethodName)) ∈ gT := gT_of (tb_6 _ (List.mem_of_getElem? (i := 10) rfl)) rfl
theorem kw_6_11 : (Jvm.Cond.selects "ParishUnion" ({ cls := "ParishUnion", name := "undo", desc := "()I" } : Jvm.MethodName) ({ cls := "ParishUnion", name := "undo", desc := "()I" } : Jvm.MethodName)) ∈ gT := gT_of (tb_6 _ (List.mem_of_getElem? (i := 11) rfl)) rfl
theorem dL_law_1960 : decode code 1960 = .ok (.aload_n 2, 1) := by decide +kernel
theorem dL_law_1961 : decode code 1961 = .ok (.invokevirtual 206, 3) := by decide +kernel
theorem kw_8_41 : (Jvm.Cond.methodLink "ParishUnionLaw" (206 : Nat) ({ cls := "ParishUnionModel", name := "undo", desc := "()I" } : Jvm.MethodName)) ∈ gT := gT_of (tb_8 _ (List.mem_of_getElem? (i := 41) rfl)) rfl
theorem kw_8_44 : (Jvm.Cond.code ({ cls := "ParishUnionModel", name := "undo", desc := "()I" } : Jvm.MethodName) prog_14_method_106_code (1 : Nat) (Option.some Jvm.ClassFile.FieldType.int)) ∈ gT := gT_of (tb_8 _ (List.mem_of_getElem? (i := 44) rfl)) rfl
theorem okX12_undo : gQok yX12_undo cX12_undo 1 (Option.some Jvm.ClassFile.FieldType.int) 0 := ⟨kw_8_44, kw_1_13, by decide +kernel, by decide +kernel, by decide +kernel⟩
theorem kw_8_42 : (Jvm.Cond.instanceMethod ({ cls := "ParishUnionModel", name := "undo", desc := "()I" } : Jvm.MethodName)) ∈ gT := gT_of (tb_8 _ (List.mem_of_getElem? (i := 42) rfl)) rfl
theorem kw_8_43 : (Jvm.Cond.selects "ParishUnionModel" ({ cls := "ParishUnionModel", name := "undo", desc := "()I" } : Jvm.MethodName) ({ cls := "ParishUnionModel", name := "undo", desc := "()I" } : Jvm.MethodName)) ∈ gT := gT_of (tb_8 _ (List.mem_of_getElem? (i := 43) rfl)) rfl
theorem dL_law_1964 : decode code 1964 = .ok (.if_icmp .eq 28, 3) := by decide +kernel
set_option maxRecDepth 100000 in
set_option maxHeartbeats 4000000 in
theorem law_case_44 {p : Program} {e : Env} {s : State} {m : MethodId} {below : List Frame} {meth : Method} {c : Code} {l : Launch} {D : va_G} {cA : Nat → ClassId} {b : Nat} {xs : Nat → Int32} (X : gCx p s m #[Value.ref b] meth c s.heap.size D cA "ParishUnionLaw" code 4) (hr : meth.sig.returnType = ret) (hb : b < s.heap.size ∧ va_X b 7 xs s s.heap) {M : gM} (hFr : gFr M) : G p l e room_1 s m #[Value.ref b] below meth c s.heap.size D cA 4 (lw_Z below #[Value.ref b] s) 206 87467 M 206 1956 [(3, gJ 0), (2, gA s.heap.size 190), (1, gA s.heap.size 0), (0, .ref b)] [] := by
  have rents := gFr_rents hFr
  have way := gFr_way hFr
  have beds := gFr_beds hFr
  have frost0 := gFr_frost0 hFr
  have rows0 := gFr_rows0 hFr
  have rooms0 := gFr_rooms0 hFr
  have tape0 := gFr_tape0 hFr
  have car0 := gFr_car0 hFr
  have hS := gFr_hS hFr
  obtain ⟨v0, e0, r0⟩ : ∃ z : Int, xs 0 = Int32.ofInt z ∧ -2147483648 ≤ z ∧ z ≤ 2147483647 := ⟨_, gi_of _, gi_rg _⟩
  obtain ⟨v1, e1, r1⟩ : ∃ z : Int, xs 1 = Int32.ofInt z ∧ -2147483648 ≤ z ∧ z ≤ 2147483647 := ⟨_, gi_of _, gi_rg _⟩
  obtain ⟨v2, e2, r2⟩ : ∃ z : Int, xs 2 = Int32.ofInt z ∧ -2147483648 ≤ z ∧ z ≤ 2147483647 := ⟨_, gi_of _, gi_rg _⟩
  obtain ⟨v3, e3, r3⟩ : ∃ z : Int, xs 3 = Int32.ofInt z ∧ -2147483648 ≤ z ∧ z ≤ 2147483647 := ⟨_, gi_of _, gi_rg _⟩
  obtain ⟨v4, e4, r4⟩ : ∃ z : Int, xs 4 = Int32.ofInt z ∧ -2147483648 ≤ z ∧ z ≤ 2147483647 := ⟨_, gi_of _, gi_rg _⟩
  obtain ⟨v5, e5, r5⟩ : ∃ z : Int, xs 5 = Int32.ofInt z ∧ -2147483648 ≤ z ∧ z ≤ 2147483647 := ⟨_, gi_of _, gi_rg _⟩
  obtain ⟨v6, e6, r6⟩ : ∃ z : Int, xs 6 = Int32.ofInt z ∧ -2147483648 ≤ z ∧ z ≤ 2147483647 := ⟨_, gi_of _, gi_rg _⟩
  refine g_aload_n (n := 1957) X 2 dL_law_1956 rfl rfl rfl ?_
  refine g_callVi (n := 1960) (As := []) (rest := []) (cs1 := 206) (ss1 := 87467) X (c_X11_undo (by omega) (gFr_0_9 hFr)) okX11_undo kw_6_9 ⟨kw_6_10, kw_6_11⟩ ⟨rfl, rfl⟩ ⟨Nat.le_of_ble_eq_true rfl, Nat.le_of_ble_eq_true rfl⟩ rfl (by omega) (by omega) lay_0 rfl rfl (Nat.le_of_ble_eq_true rfl) ⟨Nat.le_of_ble_eq_true rfl, Nat.le_of_ble_eq_true rfl⟩ rfl rfl dL_law_1957 rfl (fun z1 M2 P3 => ?_)
  obtain ⟨P3, F4⟩ := P3
  refine g_aload_n (n := 1961) X 1 dL_law_1960 rfl rfl rfl ?_
  refine g_callVi (n := 1964) (As := []) (rest := [gJ z1]) (cs1 := 206) (ss1 := 87467) X (c_X12_undo (by omega) ((congrFun (F4 190) _).trans (gFr_190_4 hFr))) okX12_undo kw_8_41 ⟨kw_8_42, kw_8_43⟩ ⟨rfl, rfl⟩ ⟨Nat.le_of_ble_eq_true rfl, Nat.le_of_ble_eq_true rfl⟩ rfl (by omega) (by omega) lay_190 rfl rfl (Nat.le_of_ble_eq_true rfl) ⟨Nat.le_of_ble_eq_true rfl, Nat.le_of_ble_eq_true rfl⟩ rfl rfl dL_law_1961 rfl (fun z5 M6 P7 => ?_)
  obtain ⟨P7, F8⟩ := P7
  refine g_icmp_eq (n := 1967) (tgt := 1992) X dL_law_1964 (by decide) (by omega) (by omega) rfl (fun c9 => ?_) (fun c9 => by exfalso; omega)
  exact law_tail X hr hb (by omega) (by omega)
theorem dL_law_1969 : decode code 1969 = .ok (.aload_n 1, 1) := by decide +kernel
theorem dL_law_1970 : decode code 1970 = .ok (.aload_n 0, 1) := by decide +kernel
theorem dL_law_1971 : decode code 1971 = .ok (.iload_n 3, 1) := by decide +kernel
theorem dL_law_1972 : decode code 1972 = .ok (.iconst 1, 1) := by decide +kernel
theorem dL_law_1973 : decode code 1973 = .ok (.iadd, 1) := by decide +kernel
theorem dL_law_1974 : decode code 1974 = .ok (.iaload, 1) := by decide +kernel
theorem dL_law_1975 : decode code 1975 = .ok (.invokevirtual 207, 3) := by decide +kernel
theorem kw_6_13 : (Jvm.Cond.methodLink "ParishUnionLaw" (207 : Nat) ({ cls := "ParishUnion", name := "count", desc := "(I)I" } : Jvm.MethodName)) ∈ gT := gT_of (tb_6 _ (List.mem_of_getElem? (i := 13) rfl)) rfl
theorem kw_6_16 : (Jvm.Cond.code ({ cls := "ParishUnion", name := "count", desc := "(I)I" } : Jvm.MethodName) prog_1_method_47_code (2 : Nat) (Option.some Jvm.ClassFile.FieldType.int)) ∈ gT := gT_of (tb_6 _ (List.mem_of_getElem? (i := 16) rfl)) rfl
theorem okX11_count : gQok yX11_count cX11_count 2 (Option.some Jvm.ClassFile.FieldType.int) 1 := ⟨kw_6_16, kw_1_1, by decide +kernel, by decide +kernel, by decide +kernel⟩
theorem kw_6_14 : (Jvm.Cond.instanceMethod ({ cls := "ParishUnion", name := "count", desc := "(I)I" } : Jvm.MethodName)) ∈ gT := gT_of (tb_6 _ (List.mem_of_getElem? (i := 14) rfl)) rfl
theorem kw_6_15 : (Jvm.Cond.selects "ParishUnion" ({ cls := "ParishUnion", name := "count", desc := "(I)I" } : Jvm.MethodName) ({ cls := "ParishUnion", name := "count", desc := "(I)I" } : Jvm.MethodName)) ∈ gT := gT_of (tb_6 _ (List.mem_of_getElem? (i := 15) rfl)) rfl
theorem dL_law_1978 : decode code 1978 = .ok (.aload_n 2, 1) := by decide +kernel
theorem dL_law_1979 : decode code 1979 = .ok (.aload_n 0, 1) := by decide +kernel
theorem dL_law_1980 : decode code 1980 = .ok (.iload_n 3, 1) := by decide +kernel
theorem dL_law_1981 : decode code 1981 = .ok (.iconst 1, 1) := by decide +kernel
theorem dL_law_1982 : decode code 1982 = .ok (.iadd, 1) := by decide +kernel
theorem dL_law_1983 : decode code 1983 = .ok (.iaload, 1) := by decide +kernel
theorem dL_law_1984 : decode code 1984 = .ok (.invokevirtual 210, 3) := by decide +kernel
theorem kw_8_45 : (Jvm.Cond.methodLink "ParishUnionLaw" (210 : Nat) ({ cls := "ParishUnionModel", name := "count", desc := "(I)I" } : Jvm.MethodName)) ∈ gT := gT_of (tb_8 _ (List.mem_of_getElem? (i := 45) rfl)) rfl
theorem kw_8_48 : (Jvm.Cond.code ({ cls := "ParishUnionModel", name := "count", desc := "(I)I" } : Jvm.MethodName) prog_14_method_108_code (2 : Nat) (Option.some Jvm.ClassFile.FieldType.int)) ∈ gT := gT_of (tb_8 _ (List.mem_of_getElem? (i := 48) rfl)) rfl
theorem okX12_count : gQok yX12_count cX12_count 2 (Option.some Jvm.ClassFile.FieldType.int) 1 := ⟨kw_8_48, kw_1_13, by decide +kernel, by decide +kernel, by decide +kernel⟩
theorem kw_8_46 : (Jvm.Cond.instanceMethod ({ cls := "ParishUnionModel", name := "count", desc := "(I)I" } : Jvm.MethodName)) ∈ gT := gT_of (tb_8 _ (List.mem_of_getElem? (i := 46) rfl)) rfl
theorem kw_8_47 : (Jvm.Cond.selects "ParishUnionModel" ({ cls := "ParishUnionModel", name := "count", desc := "(I)I" } : Jvm.MethodName) ({ cls := "ParishUnionModel", name := "count", desc := "(I)I" } : Jvm.MethodName)) ∈ gT := gT_of (tb_8 _ (List.mem_of_getElem? (i := 47) rfl)) rfl
theorem dL_law_1987 : decode code 1987 = .ok (.if_icmp .eq 5, 3) := by decide +kernel
set_option maxRecDepth 100000 in
set_option maxHeartbeats 4000000 in
theorem law_case_45 {p : Program} {e : Env} {s : State} {m : MethodId} {below : List Frame} {meth : Method} {c : Code} {l : Launch} {D : va_G} {cA : Nat → ClassId} {b : Nat} {xs : Nat → Int32} (X : gCx p s m #[Value.ref b] meth c s.heap.size D cA "ParishUnionLaw" code 4) (hr : meth.sig.returnType = ret) (hb : b < s.heap.size ∧ va_X b 7 xs s s.heap) {M : gM} (hFr : gFr M) : G p l e room_1 s m #[Value.ref b] below meth c s.heap.size D cA 4 (lw_Z below #[Value.ref b] s) 206 87467 M 206 1969 [(3, gJ 0), (2, gA s.heap.size 190), (1, gA s.heap.size 0), (0, .ref b)] [] := by
  have rents := gFr_rents hFr
  have way := gFr_way hFr
  have beds := gFr_beds hFr
  have frost0 := gFr_frost0 hFr
  have rows0 := gFr_rows0 hFr
  have rooms0 := gFr_rooms0 hFr
  have tape0 := gFr_tape0 hFr
  have car0 := gFr_car0 hFr
  have hS := gFr_hS hFr
  obtain ⟨v0, e0, r0⟩ : ∃ z : Int, xs 0 = Int32.ofInt z ∧ -2147483648 ≤ z ∧ z ≤ 2147483647 := ⟨_, gi_of _, gi_rg _⟩
  obtain ⟨v1, e1, r1⟩ : ∃ z : Int, xs 1 = Int32.ofInt z ∧ -2147483648 ≤ z ∧ z ≤ 2147483647 := ⟨_, gi_of _, gi_rg _⟩
  obtain ⟨v2, e2, r2⟩ : ∃ z : Int, xs 2 = Int32.ofInt z ∧ -2147483648 ≤ z ∧ z ≤ 2147483647 := ⟨_, gi_of _, gi_rg _⟩
  obtain ⟨v3, e3, r3⟩ : ∃ z : Int, xs 3 = Int32.ofInt z ∧ -2147483648 ≤ z ∧ z ≤ 2147483647 := ⟨_, gi_of _, gi_rg _⟩
  obtain ⟨v4, e4, r4⟩ : ∃ z : Int, xs 4 = Int32.ofInt z ∧ -2147483648 ≤ z ∧ z ≤ 2147483647 := ⟨_, gi_of _, gi_rg _⟩
  obtain ⟨v5, e5, r5⟩ : ∃ z : Int, xs 5 = Int32.ofInt z ∧ -2147483648 ≤ z ∧ z ≤ 2147483647 := ⟨_, gi_of _, gi_rg _⟩
  obtain ⟨v6, e6, r6⟩ : ∃ z : Int, xs 6 = Int32.ofInt z ∧ -2147483648 ≤ z ∧ z ≤ 2147483647 := ⟨_, gi_of _, gi_rg _⟩
  refine g_aload_n (n := 1970) X 2 dL_law_1969 rfl rfl rfl ?_
  refine g_aload_n (n := 1971) X 3 dL_law_1970 rfl rfl rfl ?_
  refine g_iload_n (n := 1972) X 0 dL_law_1971 rfl rfl rfl ?_
  refine g_iconst (n := 1973) X dL_law_1972 rfl ?_
  refine g_iadd (n := 1974) (z := 1) X dL_law_1973 rfl rfl ?_
  refine g_scrld (n := 1975) (z := v1) X hb (by omega) (by omega) (by omega) dL_law_1974 rfl e1 ?_
  refine g_callVi (n := 1978) (As := [gJ v1]) (rest := []) (cs1 := 206) (ss1 := 87467) X (c_X11_count v1 (by omega) (by omega) (gFr_0_0 hFr) (gFr_1_10 hFr) (gFr_1_11 hFr) (gFr_1_12 hFr) (gFr_1_13 hFr) (gFr_1_5 hFr) (gFr_9_5 hFr) (gFr_1_15 hFr) (gFr_1_14 hFr) (gFr_1_8 hFr) (gFr_26_3 hFr) (gFr_1_6 hFr) (gFr_15_7 hFr) (gFr_15_8 hFr) (gFr_15_9 hFr)) okX11_count kw_6_13 ⟨kw_6_14, kw_6_15⟩ ⟨rfl, rfl⟩ ⟨Nat.le_of_ble_eq_true rfl, Nat.le_of_ble_eq_true rfl⟩ rfl (by omega) (by omega) lay_0 rfl rfl (Nat.le_of_ble_eq_true rfl) ⟨Nat.le_of_ble_eq_true rfl, Nat.le_of_ble_eq_true rfl⟩ rfl rfl dL_law_1975 rfl (fun z1 M2 P3 => ?_)
  obtain ⟨P3, F4⟩ := P3
  refine g_aload_n (n := 1979) X 1 dL_law_1978 rfl rfl rfl ?_
  refine g_aload_n (n := 1980) X 3 dL_law_1979 rfl rfl rfl ?_
  refine g_iload_n (n := 1981) X 0 dL_law_1980 rfl rfl rfl ?_
  refine g_iconst (n := 1982) X dL_law_1981 rfl ?_
  refine g_iadd (n := 1983) (z := 1) X dL_law_1982 rfl rfl ?_
  refine g_scrld (n := 1984) (z := v1) X hb (by omega) (by omega) (by omega) dL_law_1983 rfl e1 ?_
  refine g_callVi (n := 1987) (As := [gJ v1]) (rest := [gJ z1]) (cs1 := 206) (ss1 := 87467) X (c_X12_count v1 (by omega) (by omega) ((congrFun (F4 190) _).trans (gFr_190_1 hFr)) ((congrFun (F4 191) _).trans ((hS 0 (by omega) (by omega)).trans (by decide))) ((congrFun (F4 191) _).trans ((hS 1 (by omega) (by omega)).trans (by decide))) ((congrFun (F4 191) _).trans ((hS 2 (by omega) (by omega)).trans (by decide))) ((congrFun (F4 191) _).trans ((hS 3 (by omega) (by omega)).trans (by decide))) ((congrFun (F4 191) _).trans ((hS 4 (by omega) (by omega)).trans (by decide))) ((congrFun (F4 191) _).trans ((hS 5 (by omega) (by omega)).trans (by decide))) ((congrFun (F4 191) _).trans ((hS 6 (by omega) (by omega)).trans (by decide))) ((congrFun (F4 191) _).trans ((hS 7 (by omega) (by omega)).trans (by decide))) ((congrFun (F4 191) _).trans ((hS 8 (by omega) (by omega)).trans (by decide))) ((congrFun (F4 191) _).trans ((hS 9 (by omega) (by omega)).trans (by decide))) ((congrFun (F4 191) _).trans ((hS 10 (by omega) (by omega)).trans (by decide)))) okX12_count kw_8_45 ⟨kw_8_46, kw_8_47⟩ ⟨rfl, rfl⟩ ⟨Nat.le_of_ble_eq_true rfl, Nat.le_of_ble_eq_true rfl⟩ rfl (by omega) (by omega) lay_190 rfl rfl (Nat.le_of_ble_eq_true rfl) ⟨Nat.le_of_ble_eq_true rfl, Nat.le_of_ble_eq_true rfl⟩ rfl rfl dL_law_1984 rfl (fun z5 M6 P7 => ?_)
  obtain ⟨P7, F8⟩ := P7
  refine g_icmp_eq (n := 1990) (tgt := 1992) X dL_law_1987 (by decide) (by omega) (by omega) rfl (fun c9 => ?_) (fun c9 => by exfalso; omega)
  exact law_tail X hr hb (by omega) (by omega)
