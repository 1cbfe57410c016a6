theorem dL_law_1032 : decode code 1032 = .ok (.aload_n 1, 1) := by decide +kernel
theorem dL_law_1033 : decode code 1033 = .ok (.aload_n 0, 1) := by decide +kernel
theorem dL_law_1034 : decode code 1034 = .ok (.iload_n 3, 1) := by decide +kernel
theorem dL_law_1035 : decode code 1035 = .ok (.iconst 1, 1) := by decide +kernel
theorem dL_law_1036 : decode code 1036 = .ok (.iadd, 1) := by decide +kernel
theorem dL_law_1037 : decode code 1037 = .ok (.iaload, 1) := by decide +kernel
theorem dL_law_1038 : decode code 1038 = .ok (.aload_n 0, 1) := by decide +kernel
theorem dL_law_1039 : decode code 1039 = .ok (.iload_n 3, 1) := by decide +kernel
theorem dL_law_1040 : decode code 1040 = .ok (.iconst 2, 1) := by decide +kernel
theorem dL_law_1041 : decode code 1041 = .ok (.iadd, 1) := by decide +kernel
theorem dL_law_1042 : decode code 1042 = .ok (.iaload, 1) := by decide +kernel
theorem dL_law_1043 : decode code 1043 = .ok (.invokevirtual 89, 3) := by decide +kernel
theorem kw_4_93 : (Jvm.Cond.methodLink "ParishUnionLaw" (89 : Nat) ({ cls := "ParishUnion", name := "offer", desc := "(II)I" } : Jvm.MethodName)) ∈ gT := gT_of (tb_4 _ (List.mem_of_getElem? (i := 93) rfl)) rfl
theorem kw_4_96 : (Jvm.Cond.code ({ cls := "ParishUnion", name := "offer", desc := "(II)I" } : Jvm.MethodName) prog_1_method_18_code (4 : Nat) (Option.some Jvm.ClassFile.FieldType.int)) ∈ gT := gT_of (tb_4 _ (List.mem_of_getElem? (i := 96) rfl)) rfl
theorem okX11_offer : gQok yX11_offer cX11_offer 4 (Option.some Jvm.ClassFile.FieldType.int) 2 := ⟨kw_4_96, kw_1_1, by decide +kernel, by decide +kernel, by decide +kernel⟩
theorem kw_4_94 : (Jvm.Cond.instanceMethod ({ cls := "ParishUnion", name := "offer", desc := "(II)I" } : Jvm.MethodName)) ∈ gT := gT_of (tb_4 _ (List.mem_of_getElem? (i := 94) rfl)) rfl
theorem kw_4_95 : (Jvm.Cond.selects "ParishUnion" ({ cls := "ParishUnion", name := "offer", desc := "(II)I" } : Jvm.MethodName) ({ cls := "ParishUnion", name := "offer", desc := "(II)I" } : Jvm.MethodName)) ∈ gT := gT_of (tb_4 _ (List.mem_of_getElem? (i := 95) rfl)) rfl
theorem dL_law_1046 : decode code 1046 = .ok (.aload_n 2, 1) := by decide +kernel
theorem dL_law_1047 : decode code 1047 = .ok (.aload_n 0, 1) := by decide +kernel
theorem dL_law_1048 : decode code 1048 = .ok (.iload_n 3, 1) := by decide +kernel
theorem dL_law_1049 : decode code 1049 = .ok (.iconst 1, 1) := by decide +kernel
theorem dL_law_1050 : decode code 1050 = .ok (.iadd, 1) := by decide +kernel
theorem dL_law_1051 : decode code 1051 = .ok (.iaload, 1) := by decide +kernel
theorem dL_law_1052 : decode code 1052 = .ok (.aload_n 0, 1) := by decide +kernel
theorem dL_law_1053 : decode code 1053 = .ok (.iload_n 3, 1) := by decide +kernel
theorem dL_law_1054 : decode code 1054 = .ok (.iconst 2, 1) := by decide +kernel
theorem dL_law_1055 : decode code 1055 = .ok (.iadd, 1) := by decide +kernel
theorem dL_law_1056 : decode code 1056 = .ok (.iaload, 1) := by decide +kernel
theorem dL_law_1057 : decode code 1057 = .ok (.invokevirtual 92, 3) := by decide +kernel
theorem kw_7_78 : (Jvm.Cond.methodLink "ParishUnionLaw" (92 : Nat) ({ cls := "ParishUnionModel", name := "offer", desc := "(II)I" } : Jvm.MethodName)) ∈ gT := gT_of (tb_7 _ (List.mem_of_getElem? (i := 78) rfl)) rfl
theorem kw_7_81 : (Jvm.Cond.code ({ cls := "ParishUnionModel", name := "offer", desc := "(II)I" } : Jvm.MethodName) prog_14_method_60_code (4 : Nat) (Option.some Jvm.ClassFile.FieldType.int)) ∈ gT := gT_of (tb_7 _ (List.mem_of_getElem? (i := 81) rfl)) rfl
theorem okX12_offer : gQok yX12_offer cX12_offer 4 (Option.some Jvm.ClassFile.FieldType.int) 2 := ⟨kw_7_81, kw_1_13, by decide +kernel, by decide +kernel, by decide +kernel⟩
theorem kw_7_79 : (Jvm.Cond.instanceMethod ({ cls := "ParishUnionModel", name := "offer", desc := "(II)I" } : Jvm.MethodName)) ∈ gT := gT_of (tb_7 _ (List.mem_of_getElem? (i := 79) rfl)) rfl
theorem kw_7_80 : (Jvm.Cond.selects "ParishUnionModel" ({ cls := "ParishUnionModel", name := "offer", desc := "(II)I" } : Jvm.MethodName) ({ cls := "ParishUnionModel", name := "offer", desc := "(II)I" } : Jvm.MethodName)) ∈ gT := gT_of (tb_7 _ (List.mem_of_getElem? (i := 80) rfl)) rfl
theorem dL_law_1060 : decode code 1060 = .ok (.if_icmp .eq 932, 3) := by decide +kernel
set_option maxRecDepth 100000 in
set_option maxHeartbeats 4000000 in
theorem law_case_16 {p : Program} {e : Env} {s : State} {m : MethodId} {below : List Frame} {meth : Method} {c : Code} {l : Launch} {D : va_G} {cA : Nat → ClassId} {b : Nat} {xs : Nat → Int32} (X : gCx p s m #[Value.ref b] meth c s.heap.size D cA "ParishUnionLaw" code 4) (hr : meth.sig.returnType = ret) (hb : b < s.heap.size ∧ va_X b 7 xs s s.heap) {M : gM} (hFr : gFr M) : G p l e room_1 s m #[Value.ref b] below meth c s.heap.size D cA 4 (lw_Z below #[Value.ref b] s) 206 87467 M 206 1032 [(3, gJ 0), (2, gA s.heap.size 190), (1, gA s.heap.size 0), (0, .ref b)] [] := by
  obtain ⟨f_0_0, f_0_1, f_0_2, f_0_3, f_0_4, f_0_5, f_0_6, f_0_7, f_0_8, f_0_9, f_1_0, f_1_1, f_1_2, f_1_3, f_1_4, f_1_5, f_1_6, f_1_7, f_1_8, f_1_9, f_1_10, f_1_11, f_1_12, f_1_13, f_1_14, f_1_15, f_2_0, f_2_1, f_5_0, f_7_0, f_9_0, f_9_1, f_9_2, f_9_3, f_9_4, f_9_5, f_15_0, f_15_1, f_15_2, f_15_3, f_15_4, f_15_5, f_15_6, f_15_7, f_15_8, f_15_9, f_23_0, f_23_1, f_26_0, f_26_1, f_26_2, f_26_3, f_87_0, f_87_1, f_87_2, f_87_3, f_87_4, f_153_0, f_153_1, f_153_2, f_153_3, f_153_4, f_159_0, f_190_0, f_190_1, f_190_2, f_190_3, f_190_4, f_190_5, f_190_6, f_190_7, f_190_8, f_190_9, f_190_10, f_190_11, f_190_12, f_190_13, f_190_14, f_190_15, f_190_16, f_190_17, f_190_18, f_190_19, f_190_20, f_190_21, f_190_22, f_190_23, rents, way, beds, frost0, rows0, rooms0, tape0, car0, hS⟩ := hFr
  obtain ⟨v0, e0, r0⟩ : ∃ z : Int, xs 0 = Int32.ofInt z ∧ -2147483648 ≤ z ∧ z ≤ 2147483647 := ⟨_, gi_of _, gi_rg _⟩
  obtain ⟨v1, e1, r1⟩ : ∃ z : Int, xs 1 = Int32.ofInt z ∧ -2147483648 ≤ z ∧ z ≤ 2147483647 := ⟨_, gi_of _, gi_rg _⟩
  obtain ⟨v2, e2, r2⟩ : ∃ z : Int, xs 2 = Int32.ofInt z ∧ -2147483648 ≤ z ∧ z ≤ 2147483647 := ⟨_, gi_of _, gi_rg _⟩
  obtain ⟨v3, e3, r3⟩ : ∃ z : Int, xs 3 = Int32.ofInt z ∧ -2147483648 ≤ z ∧ z ≤ 2147483647 := ⟨_, gi_of _, gi_rg _⟩
  obtain ⟨v4, e4, r4⟩ : ∃ z : Int, xs 4 = Int32.ofInt z ∧ -2147483648 ≤ z ∧ z ≤ 2147483647 := ⟨_, gi_of _, gi_rg _⟩
  obtain ⟨v5, e5, r5⟩ : ∃ z : Int, xs 5 = Int32.ofInt z ∧ -2147483648 ≤ z ∧ z ≤ 2147483647 := ⟨_, gi_of _, gi_rg _⟩
  obtain ⟨v6, e6, r6⟩ : ∃ z : Int, xs 6 = Int32.ofInt z ∧ -2147483648 ≤ z ∧ z ≤ 2147483647 := ⟨_, gi_of _, gi_rg _⟩
  refine g_aload_n (n := 1033) X 2 dL_law_1032 rfl rfl rfl ?_
  refine g_aload_n (n := 1034) X 3 dL_law_1033 rfl rfl rfl ?_
  refine g_iload_n (n := 1035) X 0 dL_law_1034 rfl rfl rfl ?_
  refine g_iconst (n := 1036) X dL_law_1035 rfl ?_
  refine g_iadd (n := 1037) (z := 1) X dL_law_1036 rfl rfl ?_
  refine g_scrld (n := 1038) (z := v1) X hb (by omega) (by omega) (by omega) dL_law_1037 rfl e1 ?_
  refine g_aload_n (n := 1039) X 3 dL_law_1038 rfl rfl rfl ?_
  refine g_iload_n (n := 1040) X 0 dL_law_1039 rfl rfl rfl ?_
  refine g_iconst (n := 1041) X dL_law_1040 rfl ?_
  refine g_iadd (n := 1042) (z := 2) X dL_law_1041 rfl rfl ?_
  refine g_scrld (n := 1043) (z := v2) X hb (by omega) (by omega) (by omega) dL_law_1042 rfl e2 ?_
  refine g_callVi (n := 1046) (As := [gJ v1, gJ v2]) (rest := []) (cs1 := 206) (ss1 := 87467) X (c_X11_offer v1 v2 (by omega) (by omega) (by omega) f_0_0 f_1_10) okX11_offer kw_4_93 ⟨kw_4_94, kw_4_95⟩ ⟨rfl, rfl⟩ ⟨Nat.le_of_ble_eq_true rfl, Nat.le_of_ble_eq_true rfl⟩ rfl (by omega) (by omega) lay_0 rfl rfl (Nat.le_of_ble_eq_true rfl) ⟨Nat.le_of_ble_eq_true rfl, Nat.le_of_ble_eq_true rfl⟩ rfl rfl dL_law_1043 rfl (fun z1 M2 P3 => ?_)
  obtain ⟨P3, F4⟩ := P3
  refine g_aload_n (n := 1047) X 1 dL_law_1046 rfl rfl rfl ?_
  refine g_aload_n (n := 1048) X 3 dL_law_1047 rfl rfl rfl ?_
  refine g_iload_n (n := 1049) X 0 dL_law_1048 rfl rfl rfl ?_
  refine g_iconst (n := 1050) X dL_law_1049 rfl ?_
  refine g_iadd (n := 1051) (z := 1) X dL_law_1050 rfl rfl ?_
  refine g_scrld (n := 1052) (z := v1) X hb (by omega) (by omega) (by omega) dL_law_1051 rfl e1 ?_
  refine g_aload_n (n := 1053) X 3 dL_law_1052 rfl rfl rfl ?_
  refine g_iload_n (n := 1054) X 0 dL_law_1053 rfl rfl rfl ?_
  refine g_iconst (n := 1055) X dL_law_1054 rfl ?_
  refine g_iadd (n := 1056) (z := 2) X dL_law_1055 rfl rfl ?_
  refine g_scrld (n := 1057) (z := v2) X hb (by omega) (by omega) (by omega) dL_law_1056 rfl e2 ?_
  refine g_callVi (n := 1060) (As := [gJ v1, gJ v2]) (rest := [gJ z1]) (cs1 := 206) (ss1 := 87467) X (c_X12_offer v1 v2 (by omega) (by omega) (by omega) ((congrFun (F4 190) _).trans f_190_1) ((congrFun (F4 191) _).trans ((hS 1 (by omega) (by omega)).trans (by decide)))) okX12_offer kw_7_78 ⟨kw_7_79, kw_7_80⟩ ⟨rfl, rfl⟩ ⟨Nat.le_of_ble_eq_true rfl, Nat.le_of_ble_eq_true rfl⟩ rfl (by omega) (by omega) lay_190 rfl rfl (Nat.le_of_ble_eq_true rfl) ⟨Nat.le_of_ble_eq_true rfl, Nat.le_of_ble_eq_true rfl⟩ rfl rfl dL_law_1057 rfl (fun z5 M6 P7 => ?_)
  obtain ⟨P7, F8⟩ := P7
  refine g_icmp_eq (n := 1063) (tgt := 1992) X dL_law_1060 (by decide) (by omega) (by omega) rfl (fun c9 => ?_) (fun c9 => by exfalso; omega)
  exact law_tail X hr hb (by omega) (by omega)
theorem dL_law_1065 : decode code 1065 = .ok (.aload_n 1, 1) := by decide +kernel
theorem dL_law_1066 : decode code 1066 = .ok (.aload_n 0, 1) := by decide +kernel
theorem dL_law_1067 : decode code 1067 = .ok (.iload_n 3, 1) := by decide +kernel
theorem dL_law_1068 : decode code 1068 = .ok (.iconst 1, 1) := by decide +kernel
theorem dL_law_1069 : decode code 1069 = .ok (.iadd, 1) := by decide +kernel
theorem dL_law_1070 : decode code 1070 = .ok (.iaload, 1) := by decide +kernel
theorem dL_law_1071 : decode code 1071 = .ok (.aload_n 0, 1) := by decide +kernel
theorem dL_law_1072 : decode code 1072 = .ok (.iload_n 3, 1) := by decide +kernel
theorem dL_law_1073 : decode code 1073 = .ok (.iconst 2, 1) := by decide +kernel
theorem dL_law_1074 : decode code 1074 = .ok (.iadd, 1) := by decide +kernel
theorem dL_law_1075 : decode code 1075 = .ok (.iaload, 1) := by decide +kernel
theorem dL_law_1076 : decode code 1076 = .ok (.invokevirtual 93, 3) := by decide +kernel
theorem kw_4_126 : (Jvm.Cond.methodLink "ParishUnionLaw" (93 : Nat) ({ cls := "ParishUnion", name := "order", desc := "(II)I" } : Jvm.MethodName)) ∈ gT := gT_of (tb_4 _ (List.mem_of_getElem? (i := 126) rfl)) rfl
theorem kw_4_129 : (Jvm.Cond.code ({ cls := "ParishUnion", name := "order", desc := "(II)I" } : Jvm.MethodName) prog_1_method_19_code (4 : Nat) (Option.some Jvm.ClassFile.FieldType.int)) ∈ gT := gT_of (tb_4 _ (List.mem_of_getElem? (i := 129) rfl)) rfl
theorem okX11_order : gQok yX11_order cX11_order 4 (Option.some Jvm.ClassFile.FieldType.int) 2 := ⟨kw_4_129, kw_1_1, by decide +kernel, by decide +kernel, by decide +kernel⟩
theorem kw_4_127 : (Jvm.Cond.instanceMethod ({ cls := "ParishUnion", name := "order", desc := "(II)I" } : Jvm.MethodName)) ∈ gT := gT_of (tb_4 _ (List.mem_of_getElem? (i := 127) rfl)) rfl
theorem kw_4_128 : (Jvm.Cond.selects "ParishUnion" ({ cls := "ParishUnion", name := "order", desc := "(II)I" } : Jvm.MethodName) ({ cls := "ParishUnion", name := "order", desc := "(II)I" } : Jvm.MethodName)) ∈ gT := gT_of (tb_4 _ (List.mem_of_getElem? (i := 128) rfl)) rfl
theorem dL_law_1079 : decode code 1079 = .ok (.aload_n 2, 1) := by decide +kernel
theorem dL_law_1080 : decode code 1080 = .ok (.aload_n 0, 1) := by decide +kernel
theorem dL_law_1081 : decode code 1081 = .ok (.iload_n 3, 1) := by decide +kernel
theorem dL_law_1082 : decode code 1082 = .ok (.iconst 1, 1) := by decide +kernel
theorem dL_law_1083 : decode code 1083 = .ok (.iadd, 1) := by decide +kernel
theorem dL_law_1084 : decode code 1084 = .ok (.iaload, 1) := by decide +kernel
theorem dL_law_1085 : decode code 1085 = .ok (.aload_n 0, 1) := by decide +kernel
theorem dL_law_1086 : decode code 1086 = .ok (.iload_n 3, 1) := by decide +kernel
theorem dL_law_1087 : decode code 1087 = .ok (.iconst 2, 1) := by decide +kernel
theorem dL_law_1088 : decode code 1088 = .ok (.iadd, 1) := by decide +kernel
theorem dL_law_1089 : decode code 1089 = .ok (.iaload, 1) := by decide +kernel
theorem dL_law_1090 : decode code 1090 = .ok (.invokevirtual 96, 3) := by decide +kernel
theorem kw_7_94 : (Jvm.Cond.methodLink "ParishUnionLaw" (96 : Nat) ({ cls := "ParishUnionModel", name := "order", desc := "(II)I" } : Jvm.MethodName)) ∈ gT := gT_of (tb_7 _ (List.mem_of_getElem? (i := 94) rfl)) rfl
theorem kw_7_97 : (Jvm.Cond.code ({ cls := "ParishUnionModel", name := "order", desc := "(II)I" } : Jvm.MethodName) prog_14_method_61_code (5 : Nat) (Option.some Jvm.ClassFile.FieldType.int)) ∈ gT := gT_of (tb_7 _ (List.mem_of_getElem? (i := 97) rfl)) rfl
theorem okX12_order : gQok yX12_order cX12_order 5 (Option.some Jvm.ClassFile.FieldType.int) 2 := ⟨kw_7_97, kw_1_13, by decide +kernel, by decide +kernel, by decide +kernel⟩
theorem kw_7_95 : (Jvm.Cond.instanceMethod ({ cls := "ParishUnionModel", name := "order", desc := "(II)I" } : Jvm.MethodName)) ∈ gT := gT_of (tb_7 _ (List.mem_of_getElem? (i := 95) rfl)) rfl
theorem kw_7_96 : (Jvm.Cond.selects "ParishUnionModel" ({ cls := "ParishUnionModel", name := "order", desc := "(II)I" } : Jvm.MethodName) ({ cls := "ParishUnionModel", name := "order", desc := "(II)I" } : Jvm.MethodName)) ∈ gT := gT_of (tb_7 _ (List.mem_of_getElem? (i := 96) rfl)) rfl
theorem dL_law_1093 : decode code 1093 = .ok (.if_icmp .eq 899, 3) := by decide +kernel
set_option maxRecDepth 100000 in
set_option maxHeartbeats 4000000 in
theorem law_case_17 {p : Program} {e : Env} {s : State} {m : MethodId} {below : List Frame} {meth : Method} {c : Code} {l : Launch} {D : va_G} {cA : Nat → ClassId} {b : Nat} {xs : Nat → Int32} (X : gCx p s m #[Value.ref b] meth c s.heap.size D cA "ParishUnionLaw" code 4) (hr : meth.sig.returnType = ret) (hb : b < s.heap.size ∧ va_X b 7 xs s s.heap) {M : gM} (hFr : gFr M) : G p l e room_1 s m #[Value.ref b] below meth c s.heap.size D cA 4 (lw_Z below #[Value.ref b] s) 206 87467 M 206 1065 [(3, gJ 0), (2, gA s.heap.size 190), (1, gA s.heap.size 0), (0, .ref b)] [] := by
  obtain ⟨f_0_0, f_0_1, f_0_2, f_0_3, f_0_4, f_0_5, f_0_6, f_0_7, f_0_8, f_0_9, f_1_0, f_1_1, f_1_2, f_1_3, f_1_4, f_1_5, f_1_6, f_1_7, f_1_8, f_1_9, f_1_10, f_1_11, f_1_12, f_1_13, f_1_14, f_1_15, f_2_0, f_2_1, f_5_0, f_7_0, f_9_0, f_9_1, f_9_2, f_9_3, f_9_4, f_9_5, f_15_0, f_15_1, f_15_2, f_15_3, f_15_4, f_15_5, f_15_6, f_15_7, f_15_8, f_15_9, f_23_0, f_23_1, f_26_0, f_26_1, f_26_2, f_26_3, f_87_0, f_87_1, f_87_2, f_87_3, f_87_4, f_153_0, f_153_1, f_153_2, f_153_3, f_153_4, f_159_0, f_190_0, f_190_1, f_190_2, f_190_3, f_190_4, f_190_5, f_190_6, f_190_7, f_190_8, f_190_9, f_190_10, f_190_11, f_190_12, f_190_13, f_190_14, f_190_15, f_190_16, f_190_17, f_190_18, f_190_19, f_190_20, f_190_21, f_190_22, f_190_23, rents, way, beds, frost0, rows0, rooms0, tape0, car0, hS⟩ := hFr
  obtain ⟨v0, e0, r0⟩ : ∃ z : Int, xs 0 = Int32.ofInt z ∧ -2147483648 ≤ z ∧ z ≤ 2147483647 := ⟨_, gi_of _, gi_rg _⟩
  obtain ⟨v1, e1, r1⟩ : ∃ z : Int, xs 1 = Int32.ofInt z ∧ -2147483648 ≤ z ∧ z ≤ 2147483647 := ⟨_, gi_of _, gi_rg _⟩
  obtain ⟨v2, e2, r2⟩ : ∃ z : Int, xs 2 = Int32.ofInt z ∧ -2147483648 ≤ z ∧ z ≤ 2147483647 := ⟨_, gi_of _, gi_rg _⟩
  obtain ⟨v3, e3, r3⟩ : ∃ z : Int, xs 3 = Int32.ofInt z ∧ -2147483648 ≤ z ∧ z ≤ 2147483647 := ⟨_, gi_of _, gi_rg _⟩
  obtain ⟨v4, e4, r4⟩ : ∃ z : Int, xs 4 = Int32.ofInt z ∧ -2147483648 ≤ z ∧ z ≤ 2147483647 := ⟨_, gi_of _, gi_rg _⟩
  obtain ⟨v5, e5, r5⟩ : ∃ z : Int, xs 5 = Int32.ofInt z ∧ -2147483648 ≤ z ∧ z ≤ 2147483647 := ⟨_, gi_of _, gi_rg _⟩
  obtain ⟨v6, e6, r6⟩ : ∃ z : Int, xs 6 = Int32.ofInt z ∧ -2147483648 ≤ z ∧ z ≤ 2147483647 := ⟨_, gi_of _, gi_rg _⟩
  refine g_aload_n (n := 1066) X 2 dL_law_1065 rfl rfl rfl ?_
  refine g_aload_n (n := 1067) X 3 dL_law_1066 rfl rfl rfl ?_
  refine g_iload_n (n := 1068) X 0 dL_law_1067 rfl rfl rfl ?_
  refine g_iconst (n := 1069) X dL_law_1068 rfl ?_
  refine g_iadd (n := 1070) (z := 1) X dL_law_1069 rfl rfl ?_
  refine g_scrld (n := 1071) (z := v1) X hb (by omega) (by omega) (by omega) dL_law_1070 rfl e1 ?_
  refine g_aload_n (n := 1072) X 3 dL_law_1071 rfl rfl rfl ?_
  refine g_iload_n (n := 1073) X 0 dL_law_1072 rfl rfl rfl ?_
  refine g_iconst (n := 1074) X dL_law_1073 rfl ?_
  refine g_iadd (n := 1075) (z := 2) X dL_law_1074 rfl rfl ?_
  refine g_scrld (n := 1076) (z := v2) X hb (by omega) (by omega) (by omega) dL_law_1075 rfl e2 ?_
  refine g_callVi (n := 1079) (As := [gJ v1, gJ v2]) (rest := []) (cs1 := 206) (ss1 := 87467) X (c_X11_order v1 v2 (by omega) (by omega) (by omega) f_0_0 f_1_10) okX11_order kw_4_126 ⟨kw_4_127, kw_4_128⟩ ⟨rfl, rfl⟩ ⟨Nat.le_of_ble_eq_true rfl, Nat.le_of_ble_eq_true rfl⟩ rfl (by omega) (by omega) lay_0 rfl rfl (Nat.le_of_ble_eq_true rfl) ⟨Nat.le_of_ble_eq_true rfl, Nat.le_of_ble_eq_true rfl⟩ rfl rfl dL_law_1076 rfl (fun z1 M2 P3 => ?_)
  obtain ⟨P3, F4⟩ := P3
  refine g_aload_n (n := 1080) X 1 dL_law_1079 rfl rfl rfl ?_
  refine g_aload_n (n := 1081) X 3 dL_law_1080 rfl rfl rfl ?_
  refine g_iload_n (n := 1082) X 0 dL_law_1081 rfl rfl rfl ?_
  refine g_iconst (n := 1083) X dL_law_1082 rfl ?_
  refine g_iadd (n := 1084) (z := 1) X dL_law_1083 rfl rfl ?_
  refine g_scrld (n := 1085) (z := v1) X hb (by omega) (by omega) (by omega) dL_law_1084 rfl e1 ?_
  refine g_aload_n (n := 1086) X 3 dL_law_1085 rfl rfl rfl ?_
  refine g_iload_n (n := 1087) X 0 dL_law_1086 rfl rfl rfl ?_
  refine g_iconst (n := 1088) X dL_law_1087 rfl ?_
  refine g_iadd (n := 1089) (z := 2) X dL_law_1088 rfl rfl ?_
  refine g_scrld (n := 1090) (z := v2) X hb (by omega) (by omega) (by omega) dL_law_1089 rfl e2 ?_
  refine g_callVi (n := 1093) (As := [gJ v1, gJ v2]) (rest := [gJ z1]) (cs1 := 206) (ss1 := 87467) X (c_X12_order v1 v2 (by omega) (by omega) (by omega) ((congrFun (F4 190) _).trans f_190_1) ((congrFun (F4 191) _).trans ((hS 1 (by omega) (by omega)).trans (by decide)))) okX12_order kw_7_94 ⟨kw_7_95, kw_7_96⟩ ⟨rfl, rfl⟩ ⟨Nat.le_of_ble_eq_true rfl, Nat.le_of_ble_eq_true rfl⟩ rfl (by omega) (by omega) lay_190 rfl rfl (Nat.le_of_ble_eq_true rfl) ⟨Nat.le_of_ble_eq_true rfl, Nat.le_of_ble_eq_true rfl⟩ rfl rfl dL_law_1090 rfl (fun z5 M6 P7 => ?_)
  obtain ⟨P7, F8⟩ := P7
  refine g_icmp_eq (n := 1096) (tgt := 1992) X dL_law_1093 (by decide) (by omega) (by omega) rfl (fun c9 => ?_) (fun c9 => by exfalso; omega)
  exact law_tail X hr hb (by omega) (by omega)
theorem dL_law_1098 : decode code 1098 = .ok (.aload_n 1, 1) := by decide +kernel
theorem dL_law_1099 : decode code 1099 = .ok (.aload_n 0, 1) := by decide +kernel
theorem dL_law_1100 : decode code 1100 = .ok (.iload_n 3, 1) := by decide +kernel
theorem dL_law_1101 : decode code 1101 = .ok (.iconst 1, 1) := by decide +kernel
theorem dL_law_1102 : decode code 1102 = .ok (.iadd, 1) := by decide +kernel
theorem dL_law_1103 : decode code 1103 = .ok (.iaload, 1) := by decide +kernel
theorem dL_law_1104 : decode code 1104 = .ok (.aload_n 0, 1) := by decide +kernel
theorem dL_law_1105 : decode code 1105 = .ok (.iload_n 3, 1) := by decide +kernel
theorem dL_law_1106 : decode code 1106 = .ok (.iconst 2, 1) := by decide +kernel
theorem dL_law_1107 : decode code 1107 = .ok (.iadd, 1) := by decide +kernel
theorem dL_law_1108 : decode code 1108 = .ok (.iaload, 1) := by decide +kernel
theorem dL_law_1109 : decode code 1109 = .ok (.aload_n 0, 1) := by decide +kernel
theorem dL_law_1110 : decode code 1110 = .ok (.iload_n 3, 1) := by decide +kernel
theorem dL_law_1111 : decode code 1111 = .ok (.iconst 3, 1) := by decide +kernel
theorem dL_law_1112 : decode code 1112 = .ok (.iadd, 1) := by decide +kernel
theorem dL_law_1113 : decode code 1113 = .ok (.iaload, 1) := by decide +kernel
theorem dL_law_1114 : decode code 1114 = .ok (.invokevirtual 97, 3) := by decide +kernel
theorem kw_4_135 : (Jvm.Cond.methodLink "ParishUnionLaw" (97 : Nat) ({ cls := "ParishUnion", name := "appeal", desc := "(III)I" } : Jvm.MethodName)) ∈ gT := gT_of (tb_4 _ (List.mem_of_getElem? (i := 135) rfl)) rfl
theorem kw_4_138 : (Jvm.Cond.code ({ cls := "ParishUnion", name := "appeal", desc := "(III)I" } : Jvm.MethodName) prog_1_method_20_code (4 : Nat) (Option.some Jvm.ClassFile.FieldType.int)) ∈ gT := gT_of (tb_4 _ (List.mem_of_getElem? (i := 138) rfl)) rfl
theorem okX11_appeal : gQok yX11_appeal cX11_appeal 4 (Option.some Jvm.ClassFile.FieldType.int) 3 := ⟨kw_4_138, kw_1_1, by decide +kernel, by decide +kernel, by decide +kernel⟩
theorem kw_4_136 : (Jvm.Cond.instanceMethod ({ cls := "ParishUnion", name := "appeal", desc := "(III)I" } : Jvm.MethodName)) ∈ gT := gT_of (tb_4 _ (List.mem_of_getElem? (i := 136) rfl)) rfl
theorem kw_4_137 : (Jvm.Cond.selects "ParishUnion" ({ cls := "ParishUnion", name := "appeal", desc := "(III)I" } : Jvm.MethodName) ({ cls := "ParishUnion", name := "appeal", desc := "(III)I" } : Jvm.MethodName)) ∈ gT := gT_of (tb_4 _ (List.mem_of_getElem? (i := 137) rfl)) rfl
theorem dL_law_1117 : decode code 1117 = .ok (.aload_n 2, 1) := by decide +kernel
theorem dL_law_1118 : decode code 1118 = .ok (.aload_n 0, 1) := by decide +kernel
theorem dL_law_1119 : decode code 1119 = .ok (.iload_n 3, 1) := by decide +kernel
theorem dL_law_1120 : decode code 1120 = .ok (.iconst 1, 1) := by decide +kernel
theorem dL_law_1121 : decode code 1121 = .ok (.iadd, 1) := by decide +kernel
theorem dL_law_1122 : decode code 1122 = .ok (.iaload, 1) := by decide +kernel
theorem dL_law_1123 : decode code 1123 = .ok (.aload_n 0, 1) := by decide +kernel
theorem dL_law_1124 : decode code 1124 = .ok (.iload_n 3, 1) := by decide +kernel
theorem dL_law_1125 : decode code 1125 = .ok (.iconst 2, 1) := by decide +kernel
theorem dL_law_1126 : decode code 1126 = .ok (.iadd, 1) := by decide +kernel
theorem dL_law_1127 : decode code 1127 = .ok (.iaload, 1) := by decide +kernel
theorem dL_law_1128 : decode code 1128 = .ok (.aload_n 0, 1) := by decide +kernel
theorem dL_law_1129 : decode code 1129 = .ok (.iload_n 3, 1) := by decide +kernel
theorem dL_law_1130 : decode code 1130 = .ok (.iconst 3, 1) := by decide +kernel
theorem dL_law_1131 : decode code 1131 = .ok (.iadd, 1) := by decide +kernel
theorem dL_law_1132 : decode code 1132 = .ok (.iaload, 1) := by decide +kernel
theorem dL_law_1133 : decode code 1133 = .ok (.invokevirtual 100, 3) := by decide +kernel
theorem kw_7_98 : (Jvm.Cond.methodLink "ParishUnionLaw" (100 : Nat) ({ cls := "ParishUnionModel", name := "appeal", desc := "(III)I" } : Jvm.MethodName)) ∈ gT := gT_of (tb_7 _ (List.mem_of_getElem? (i := 98) rfl)) rfl
theorem kw_7_101 : (Jvm.Cond.code ({ cls := "ParishUnionModel", name := "appeal", desc := "(III)I" } : Jvm.MethodName) prog_14_method_64_code (4 : Nat) (Option.some Jvm.ClassFile.FieldType.int)) ∈ gT := gT_of (tb_7 _ (List.mem_of_getElem? (i := 101) rfl)) rfl
theorem okX12_appeal : gQok yX12_appeal cX12_appeal 4 (Option.some Jvm.ClassFile.FieldType.int) 3 := ⟨kw_7_101, kw_1_13, by decide +kernel, by decide +kernel, by decide +kernel⟩
theorem kw_7_99 : (Jvm.Cond.instanceMethod ({ cls := "ParishUnionModel", name := "appeal", desc := "(III)I" } : Jvm.MethodName)) ∈ gT := gT_of (tb_7 _ (List.mem_of_getElem? (i := 99) rfl)) rfl
theorem kw_7_100 : (Jvm.Cond.selects "ParishUnionModel" ({ cls := "ParishUnionModel", name := "appeal", desc := "(III)I" } : Jvm.MethodName) ({ cls := "ParishUnionModel", name := "appeal", desc := "(III)I" } : Jvm.MethodName)) ∈ gT := gT_of (tb_7 _ (List.mem_of_getElem? (i := 100) rfl)) rfl
theorem dL_law_1136 : decode code 1136 = .ok (.if_icmp .eq 856, 3) := by decide +kernel
set_option maxRecDepth 100000 in
set_option maxHeartbeats 4000000 in
theorem law_case_18 {p : Program} {e : Env} {s : State} {m : MethodId} {below : List Frame} {meth : Method} {c : Code} {l : Launch} {D : va_G} {cA : Nat → ClassId} {b : Nat} {xs : Nat → Int32} (X : gCx p s m #[Value.ref b] meth c s.heap.size D cA "ParishUnionLaw" code 4) (hr : meth.sig.returnType = ret) (hb : b < s.heap.size ∧ va_X b 7 xs s s.heap) {M : gM} (hFr : gFr M) : G p l e room_1 s m #[Value.ref b] below meth c s.heap.size D cA 4 (lw_Z below #[Value.ref b] s) 206 87467 M 206 1098 [(3, gJ 0), (2, gA s.heap.size 190), (1, gA s.heap.size 0), (0, .ref b)] [] := by
  obtain ⟨f_0_0, f_0_1, f_0_2, f_0_3, f_0_4, f_0_5, f_0_6, f_0_7, f_0_8, f_0_9, f_1_0, f_1_1, f_1_2, f_1_3, f_1_4, f_1_5, f_1_6, f_1_7, f_1_8, f_1_9, f_1_10, f_1_11, f_1_12, f_1_13, f_1_14, f_1_15, f_2_0, f_2_1, f_5_0, f_7_0, f_9_0, f_9_1, f_9_2, f_9_3, f_9_4, f_9_5, f_15_0, f_15_1, f_15_2, f_15_3, f_15_4, f_15_5, f_15_6, f_15_7, f_15_8, f_15_9, f_23_0, f_23_1, f_26_0, f_26_1, f_26_2, f_26_3, f_87_0, f_87_1, f_87_2, f_87_3, f_87_4, f_153_0, f_153_1, f_153_2, f_153_3, f_153_4, f_159_0, f_190_0, f_190_1, f_190_2, f_190_3, f_190_4, f_190_5, f_190_6, f_190_7, f_190_8, f_190_9, f_190_10, f_190_11, f_190_12, f_190_13, f_190_14, f_190_15, f_190_16, f_190_17, f_190_18, f_190_19, f_190_20, f_190_21, f_190_22, f_190_23, rents, way, beds, frost0, rows0, rooms0, tape0, car0, hS⟩ := hFr
  obtain ⟨v0, e0, r0⟩ : ∃ z : Int, xs 0 = Int32.ofInt z ∧ -2147483648 ≤ z ∧ z ≤ 2147483647 := ⟨_, gi_of _, gi_rg _⟩
  obtain ⟨v1, e1, r1⟩ : ∃ z : Int, xs 1 = Int32.ofInt z ∧ -2147483648 ≤ z ∧ z ≤ 2147483647 := ⟨_, gi_of _, gi_rg _⟩
  obtain ⟨v2, e2, r2⟩ : ∃ z : Int, xs 2 = Int32.ofInt z ∧ -2147483648 ≤ z ∧ z ≤ 2147483647 := ⟨_, gi_of _, gi_rg _⟩
  obtain ⟨v3, e3, r3⟩ : ∃ z : Int, xs 3 = Int32.ofInt z ∧ -2147483648 ≤ z ∧ z ≤ 2147483647 := ⟨_, gi_of _, gi_rg _⟩
  obtain ⟨v4, e4, r4⟩ : ∃ z : Int, xs 4 = Int32.ofInt z ∧ -2147483648 ≤ z ∧ z ≤ 2147483647 := ⟨_, gi_of _, gi_rg _⟩
  obtain ⟨v5, e5, r5⟩ : ∃ z : Int, xs 5 = Int32.ofInt z ∧ -2147483648 ≤ z ∧ z ≤ 2147483647 := ⟨_, gi_of _, gi_rg _⟩
  obtain ⟨v6, e6, r6⟩ : ∃ z : Int, xs 6 = Int32.ofInt z ∧ -2147483648 ≤ z ∧ z ≤ 2147483647 := ⟨_, gi_of _, gi_rg _⟩
  refine g_aload_n (n := 1099) X 2 dL_law_1098 rfl rfl rfl ?_
  refine g_aload_n (n := 1100) X 3 dL_law_1099 rfl rfl rfl ?_
  refine g_iload_n (n := 1101) X 0 dL_law_1100 rfl rfl rfl ?_
  refine g_iconst (n := 1102) X dL_law_1101 rfl ?_
  refine g_iadd (n := 1103) (z := 1) X dL_law_1102 rfl rfl ?_
  refine g_scrld (n := 1104) (z := v1) X hb (by omega) (by omega) (by omega) dL_law_1103 rfl e1 ?_
  refine g_aload_n (n := 1105) X 3 dL_law_1104 rfl rfl rfl ?_
  refine g_iload_n (n := 1106) X 0 dL_law_1105 rfl rfl rfl ?_
  refine g_iconst (n := 1107) X dL_law_1106 rfl ?_
  refine g_iadd (n := 1108) (z := 2) X dL_law_1107 rfl rfl ?_
  refine g_scrld (n := 1109) (z := v2) X hb (by omega) (by omega) (by omega) dL_law_1108 rfl e2 ?_
  refine g_aload_n (n := 1110) X 3 dL_law_1109 rfl rfl rfl ?_
  refine g_iload_n (n := 1111) X 0 dL_law_1110 rfl rfl rfl ?_
  refine g_iconst (n := 1112) X dL_law_1111 rfl ?_
  refine g_iadd (n := 1113) (z := 3) X dL_law_1112 rfl rfl ?_
  refine g_scrld (n := 1114) (z := v3) X hb (by omega) (by omega) (by omega) dL_law_1113 rfl e3 ?_
  refine g_callVi (n := 1117) (As := [gJ v1, gJ v2, gJ v3]) (rest := []) (cs1 := 206) (ss1 := 87467) X (c_X11_appeal v1 v2 v3 (by omega) (by omega) (by omega) (by omega) f_0_0 f_1_5 f_9_5) okX11_appeal kw_4_135 ⟨kw_4_136, kw_4_137⟩ ⟨rfl, rfl⟩ ⟨Nat.le_of_ble_eq_true rfl, Nat.le_of_ble_eq_true rfl⟩ rfl (by omega) (by omega) lay_0 rfl rfl (Nat.le_of_ble_eq_true rfl) ⟨Nat.le_of_ble_eq_true rfl, Nat.le_of_ble_eq_true rfl⟩ rfl rfl dL_law_1114 rfl (fun z1 M2 P3 => ?_)
  obtain ⟨P3, F4⟩ := P3
  refine g_aload_n (n := 1118) X 1 dL_law_1117 rfl rfl rfl ?_
  refine g_aload_n (n := 1119) X 3 dL_law_1118 rfl rfl rfl ?_
  refine g_iload_n (n := 1120) X 0 dL_law_1119 rfl rfl rfl ?_
  refine g_iconst (n := 1121) X dL_law_1120 rfl ?_
  refine g_iadd (n := 1122) (z := 1) X dL_law_1121 rfl rfl ?_
  refine g_scrld (n := 1123) (z := v1) X hb (by omega) (by omega) (by omega) dL_law_1122 rfl e1 ?_
  refine g_aload_n (n := 1124) X 3 dL_law_1123 rfl rfl rfl ?_
  refine g_iload_n (n := 1125) X 0 dL_law_1124 rfl rfl rfl ?_
  refine g_iconst (n := 1126) X dL_law_1125 rfl ?_
  refine g_iadd (n := 1127) (z := 2) X dL_law_1126 rfl rfl ?_
  refine g_scrld (n := 1128) (z := v2) X hb (by omega) (by omega) (by omega) dL_law_1127 rfl e2 ?_
  refine g_aload_n (n := 1129) X 3 dL_law_1128 rfl rfl rfl ?_
  refine g_iload_n (n := 1130) X 0 dL_law_1129 rfl rfl rfl ?_
  refine g_iconst (n := 1131) X dL_law_1130 rfl ?_
  refine g_iadd (n := 1132) (z := 3) X dL_law_1131 rfl rfl ?_
  refine g_scrld (n := 1133) (z := v3) X hb (by omega) (by omega) (by omega) dL_law_1132 rfl e3 ?_
  refine g_callVi (n := 1136) (As := [gJ v1, gJ v2, gJ v3]) (rest := [gJ z1]) (cs1 := 206) (ss1 := 87467) X (c_X12_appeal v1 v2 v3 (by omega) (by omega) (by omega) (by omega) ((congrFun (F4 190) _).trans f_190_1) ((congrFun (F4 191) _).trans ((hS 5 (by omega) (by omega)).trans (by decide)))) okX12_appeal kw_7_98 ⟨kw_7_99, kw_7_100⟩ ⟨rfl, rfl⟩ ⟨Nat.le_of_ble_eq_true rfl, Nat.le_of_ble_eq_true rfl⟩ rfl (by omega) (by omega) lay_190 rfl rfl (Nat.le_of_ble_eq_true rfl) ⟨Nat.le_of_ble_eq_true rfl, Nat.le_of_ble_eq_true rfl⟩ rfl rfl dL_law_1133 rfl (fun z5 M6 P7 => ?_)
  obtain ⟨P7, F8⟩ := P7
  refine g_icmp_eq (n := 1139) (tgt := 1992) X dL_law_1136 (by decide) (by omega) (by omega) rfl (fun c9 => ?_) (fun c9 => by exfalso; omega)
  exact law_tail X hr hb (by omega) (by omega)
theorem dL_law_1141 : decode code 1141 = .ok (.aload_n 1, 1) := by decide +kernel
theorem dL_law_1142 : decode code 1142 = .ok (.aload_n 0, 1) := by decide +kernel
theorem dL_law_1143 : decode code 1143 = .ok (.iload_n 3, 1) := by decide +kernel
theorem dL_law_1144 : decode code 1144 = .ok (.iconst 1, 1) := by decide +kernel
theorem dL_law_1145 : decode code 1145 = .ok (.iadd, 1) := by decide +kernel
theorem dL_law_1146 : decode code 1146 = .ok (.iaload, 1) := by decide +kernel
theorem dL_law_1147 : decode code 1147 = .ok (.invokevirtual 101, 3) := by decide +kernel
theorem kw_4_147 : (Jvm.Cond.methodLink "ParishUnionLaw" (101 : Nat) ({ cls := "ParishUnion", name := "unlike", desc := "(I)I" } : Jvm.MethodName)) ∈ gT := gT_of (tb_4 _ (List.mem_of_getElem? (i := 147) rfl)) rfl
theorem kw_4_150 : (Jvm.Cond.code ({ cls := "ParishUnion", name := "unlike", desc := "(I)I" } : Jvm.MethodName) prog_1_method_21_code (4 : Nat) (Option.some Jvm.ClassFile.FieldType.int)) ∈ gT := gT_of (tb_4 _ (List.mem_of_getElem? (i := 150) rfl)) rfl
theorem okX11_unlike : gQok yX11_unlike cX11_unlike 4 (Option.some Jvm.ClassFile.FieldType.int) 1 := ⟨kw_4_150, kw_1_1, by decide +kernel, by decide +kernel, by decide +kernel⟩
theorem kw_4_148 : (Jvm.Cond.instanceMethod ({ cls := "ParishUnion", name := "unlike", desc := "(I)I" } : Jvm.MethodName)) ∈ gT := gT_of (tb_4 _ (List.mem_of_getElem? (i := 148) rfl)) rfl
theorem kw_4_149 : (Jvm.Cond.selects "ParishUnion" ({ cls := "ParishUnion", name := "unlike", desc := "(I)I" } : Jvm.MethodName) ({ cls := "ParishUnion", name := "unlike", desc := "(I)I" } : Jvm.MethodName)) ∈ gT := gT_of (tb_4 _ (List.mem_of_getElem? (i := 149) rfl)) rfl
theorem dL_law_1150 : decode code 1150 = .ok (.aload_n 2, 1) := by decide +kernel
theorem dL_law_1151 : decode code 1151 = .ok (.aload_n 0, 1) := by decide +kernel
theorem dL_law_1152 : decode code 1152 = .ok (.iload_n 3, 1) := by decide +kernel
theorem dL_law_1153 : decode code 1153 = .ok (.iconst 1, 1) := by decide +kernel
theorem dL_law_1154 : decode code 1154 = .ok (.iadd, 1) := by decide +kernel
theorem dL_law_1155 : decode code 1155 = .ok (.iaload, 1) := by decide +kernel
theorem dL_law_1156 : decode code 1156 = .ok (.invokevirtual 104, 3) := by decide +kernel
theorem kw_7_110 : (Jvm.Cond.methodLink "ParishUnionLaw" (104 : Nat) ({ cls := "ParishUnionModel", name := "unlike", desc := "(I)I" } : Jvm.MethodName)) ∈ gT := gT_of (tb_7 _ (List.mem_of_getElem? (i := 110) rfl)) rfl
theorem kw_7_113 : (Jvm.Cond.code ({ cls := "ParishUnionModel", name := "unlike", desc := "(I)I" } : Jvm.MethodName) prog_14_method_65_code (4 : Nat) (Option.some Jvm.ClassFile.FieldType.int)) ∈ gT := gT_of (tb_7 _ (List.mem_of_getElem? (i := 113) rfl)) rfl
theorem okX12_unlike : gQok yX12_unlike cX12_unlike 4 (Option.some Jvm.ClassFile.FieldType.int) 1 := ⟨kw_7_113, kw_1_13, by decide +kernel, by decide +kernel, by decide +kernel⟩
theorem kw_7_111 : (Jvm.Cond.instanceMethod ({ cls := "ParishUnionModel", name := "unlike", desc := "(I)I" } : Jvm.MethodName)) ∈ gT := gT_of (tb_7 _ (List.mem_of_getElem? (i := 111) rfl)) rfl
theorem kw_7_112 : (Jvm.Cond.selects "ParishUnionModel" ({ cls := "ParishUnionModel", name := "unlike", desc := "(I)I" } : Jvm.MethodName) ({ cls := "ParishUnionModel", name := "unlike", desc := "(I)I" } : Jvm.MethodName)) ∈ gT := gT_of (tb_7 _ (List.mem_of_getElem? (i := 112) rfl)) rfl
theorem dL_law_1159 : decode code 1159 = .ok (.if_icmp .eq 833, 3) := by decide +kernel
set_option maxRecDepth 100000 in
set_option maxHeartbeats 4000000 in
theorem law_case_19 {p : Program} {e : Env} {s : State} {m : MethodId} {below : List Frame} {meth : Method} {c : Code} {l : Launch} {D : va_G} {cA : Nat → ClassId} {b : Nat} {xs : Nat → Int32} (X : gCx p s m #[Value.ref b] meth c s.heap.size D cA "ParishUnionLaw" code 4) (hr : meth.sig.returnType = ret) (hb : b < s.heap.size ∧ va_X b 7 xs s s.heap) {M : gM} (hFr : gFr M) : G p l e room_1 s m #[Value.ref b] below meth c s.heap.size D cA 4 (lw_Z below #[Value.ref b] s) 206 87467 M 206 1141 [(3, gJ 0), (2, gA s.heap.size 190), (1, gA s.heap.size 0), (0, .ref b)] [] := by
  obtain ⟨f_0_0, f_0_1, f_0_2, f_0_3, f_0_4, f_0_5, f_0_6, f_0_7, f_0_8, f_0_9, f_1_0, f_1_1, f_1_2, f_1_3, f_1_4, f_1_5, f_1_6, f_1_7, f_1_8, f_1_9, f_1_10, f_1_11, f_1_12, f_1_13, f_1_14, f_1_15, f_2_0, f_2_1, f_5_0, f_7_0, f_9_0, f_9_1, f_9_2, f_9_3, f_9_4, f_9_5, f_15_0, f_15_1, f_15_2, f_15_3, f_15_4, f_15_5, f_15_6, f_15_7, f_15_8, f_15_9, f_23_0, f_23_1, f_26_0, f_26_1, f_26_2, f_26_3, f_87_0, f_87_1, f_87_2, f_87_3, f_87_4, f_153_0, f_153_1, f_153_2, f_153_3, f_153_4, f_159_0, f_190_0, f_190_1, f_190_2, f_190_3, f_190_4, f_190_5, f_190_6, f_190_7, f_190_8, f_190_9, f_190_10, f_190_11, f_190_12, f_190_13, f_190_14, f_190_15, f_190_16, f_190_17, f_190_18, f_190_19, f_190_20, f_190_21, f_190_22, f_190_23, rents, way, beds, frost0, rows0, rooms0, tape0, car0, hS⟩ := hFr
  obtain ⟨v0, e0, r0⟩ : ∃ z : Int, xs 0 = Int32.ofInt z ∧ -2147483648 ≤ z ∧ z ≤ 2147483647 := ⟨_, gi_of _, gi_rg _⟩
  obtain ⟨v1, e1, r1⟩ : ∃ z : Int, xs 1 = Int32.ofInt z ∧ -2147483648 ≤ z ∧ z ≤ 2147483647 := ⟨_, gi_of _, gi_rg _⟩
  obtain ⟨v2, e2, r2⟩ : ∃ z : Int, xs 2 = Int32.ofInt z ∧ -2147483648 ≤ z ∧ z ≤ 2147483647 := ⟨_, gi_of _, gi_rg _⟩
  obtain ⟨v3, e3, r3⟩ : ∃ z : Int, xs 3 = Int32.ofInt z ∧ -2147483648 ≤ z ∧ z ≤ 2147483647 := ⟨_, gi_of _, gi_rg _⟩
  obtain ⟨v4, e4, r4⟩ : ∃ z : Int, xs 4 = Int32.ofInt z ∧ -2147483648 ≤ z ∧ z ≤ 2147483647 := ⟨_, gi_of _, gi_rg _⟩
  obtain ⟨v5, e5, r5⟩ : ∃ z : Int, xs 5 = Int32.ofInt z ∧ -2147483648 ≤ z ∧ z ≤ 2147483647 := ⟨_, gi_of _, gi_rg _⟩
  obtain ⟨v6, e6, r6⟩ : ∃ z : Int, xs 6 = Int32.ofInt z ∧ -2147483648 ≤ z ∧ z ≤ 2147483647 := ⟨_, gi_of _, gi_rg _⟩
  refine g_aload_n (n := 1142) X 2 dL_law_1141 rfl rfl rfl ?_
  refine g_aload_n (n := 1143) X 3 dL_law_1142 rfl rfl rfl ?_
  refine g_iload_n (n := 1144) X 0 dL_law_1143 rfl rfl rfl ?_
  refine g_iconst (n := 1145) X dL_law_1144 rfl ?_
  refine g_iadd (n := 1146) (z := 1) X dL_law_1145 rfl rfl ?_
  refine g_scrld (n := 1147) (z := v1) X hb (by omega) (by omega) (by omega) dL_law_1146 rfl e1 ?_
  refine g_callVi (n := 1150) (As := [gJ v1]) (rest := []) (cs1 := 206) (ss1 := 87467) X (c_X11_unlike v1 (by omega) (by omega) f_0_0 f_0_1 f_1_12 f_1_13 f_1_11 f_1_5 f_9_5) okX11_unlike kw_4_147 ⟨kw_4_148, kw_4_149⟩ ⟨rfl, rfl⟩ ⟨Nat.le_of_ble_eq_true rfl, Nat.le_of_ble_eq_true rfl⟩ rfl (by omega) (by omega) lay_0 rfl rfl (Nat.le_of_ble_eq_true rfl) ⟨Nat.le_of_ble_eq_true rfl, Nat.le_of_ble_eq_true rfl⟩ rfl rfl dL_law_1147 rfl (fun z1 M2 P3 => ?_)
  obtain ⟨P3, F4⟩ := P3
  refine g_aload_n (n := 1151) X 1 dL_law_1150 rfl rfl rfl ?_
  refine g_aload_n (n := 1152) X 3 dL_law_1151 rfl rfl rfl ?_
  refine g_iload_n (n := 1153) X 0 dL_law_1152 rfl rfl rfl ?_
  refine g_iconst (n := 1154) X dL_law_1153 rfl ?_
  refine g_iadd (n := 1155) (z := 1) X dL_law_1154 rfl rfl ?_
  refine g_scrld (n := 1156) (z := v1) X hb (by omega) (by omega) (by omega) dL_law_1155 rfl e1 ?_
  refine g_callVi (n := 1159) (As := [gJ v1]) (rest := [gJ z1]) (cs1 := 206) (ss1 := 87467) X (c_X12_unlike v1 (by omega) (by omega) ((congrFun (F4 190 (by omega)) _).trans f_190_1) ((congrFun (F4 191 (by omega)) _).trans ((hS 3 (by omega) (by omega)).trans (by decide))) ((congrFun (F4 191 (by omega)) _).trans ((hS 5 (by omega) (by omega)).trans (by decide)))) okX12_unlike kw_7_110 ⟨kw_7_111, kw_7_112⟩ ⟨rfl, rfl⟩ ⟨Nat.le_of_ble_eq_true rfl, Nat.le_of_ble_eq_true rfl⟩ rfl (by omega) (by omega) lay_190 rfl rfl (Nat.le_of_ble_eq_true rfl) ⟨Nat.le_of_ble_eq_true rfl, Nat.le_of_ble_eq_true rfl⟩ rfl rfl dL_law_1156 rfl (fun z5 M6 P7 => ?_)
  obtain ⟨P7, F8⟩ := P7
  refine g_icmp_eq (n := 1162) (tgt := 1992) X dL_law_1159 (by decide) (by omega) (by omega) rfl (fun c9 => ?_) (fun c9 => by exfalso; omega)
  exact law_tail X hr hb (by omega) (by omega)
theorem dL_law_1164 : decode code 1164 = .ok (.aload_n 1, 1) := by decide +kernel
theorem dL_law_1165 : decode code 1165 = .ok (.aload_n 0, 1) := by decide +kernel
theorem dL_law_1166 : decode code 1166 = .ok (.iload_n 3, 1) := by decide +kernel
theorem dL_law_1167 : decode code 1167 = .ok (.iconst 1, 1) := by decide +kernel
theorem dL_law_1168 : decode code 1168 = .ok (.iadd, 1) := by decide +kernel
theorem dL_law_1169 : decode code 1169 = .ok (.iaload, 1) := by decide +kernel
theorem dL_law_1170 : decode code 1170 = .ok (.invokevirtual 105, 3) := by decide +kernel
theorem kw_4_151 : (Jvm.Cond.methodLink "ParishUnionLaw" (105 : Nat) ({ cls := "ParishUnion", name := "carry", desc := "(I)I" } : Jvm.MethodName)) ∈ gT := gT_of (tb_4 _ (List.mem_of_getElem? (i := 151) rfl)) rfl
theorem kw_4_154 : (Jvm.Cond.code ({ cls := "ParishUnion", name := "carry", desc := "(I)I" } : Jvm.MethodName) prog_1_method_22_code (4 : Nat) (Option.some Jvm.ClassFile.FieldType.int)) ∈ gT := gT_of (tb_4 _ (List.mem_of_getElem? (i := 154) rfl)) rfl
theorem okX11_carry : gQok yX11_carry cX11_carry 4 (Option.some Jvm.ClassFile.FieldType.int) 1 := ⟨kw_4_154, kw_1_1, by decide +kernel, by decide +kernel, by decide +kernel⟩
theorem kw_4_152 : (Jvm.Cond.instanceMethod ({ cls := "ParishUnion", name := "carry", desc := "(I)I" } : Jvm.MethodName)) ∈ gT := gT_of (tb_4 _ (List.mem_of_getElem? (i := 152) rfl)) rfl
theorem kw_4_153 : (Jvm.Cond.selects "ParishUnion" ({ cls := "ParishUnion", name := "carry", desc := "(I)I" } : Jvm.MethodName) ({ cls := "ParishUnion", name := "carry", desc := "(I)I" } : Jvm.MethodName)) ∈ gT := gT_of (tb_4 _ (List.mem_of_getElem? (i := 153) rfl)) rfl
theorem dL_law_1173 : decode code 1173 = .ok (.aload_n 2, 1) := by decide +kernel
theorem dL_law_1174 : decode code 1174 = .ok (.aload_n 0, 1) := by decide +kernel
theorem dL_law_1175 : decode code 1175 = .ok (.iload_n 3, 1) := by decide +kernel
theorem dL_law_1176 : decode code 1176 = .ok (.iconst 1, 1) := by decide +kernel
theorem dL_law_1177 : decode code 1177 = .ok (.iadd, 1) := by decide +kernel
theorem dL_law_1178 : decode code 1178 = .ok (.iaload, 1) := by decide +kernel
theorem dL_law_1179 : decode code 1179 = .ok (.invokevirtual 108, 3) := by decide +kernel
theorem kw_7_114 : (Jvm.Cond.methodLink "ParishUnionLaw" (108 : Nat) ({ cls := "ParishUnionModel", name := "carry", desc := "(I)I" } : Jvm.MethodName)) ∈ gT := gT_of (tb_7 _ (List.mem_of_getElem? (i := 114) rfl)) rfl
theorem kw_7_117 : (Jvm.Cond.code ({ cls := "ParishUnionModel", name := "carry", desc := "(I)I" } : Jvm.MethodName) prog_14_method_66_code (3 : Nat) (Option.some Jvm.ClassFile.FieldType.int)) ∈ gT := gT_of (tb_7 _ (List.mem_of_getElem? (i := 117) rfl)) rfl
theorem okX12_carry : gQok yX12_carry cX12_carry 3 (Option.some Jvm.ClassFile.FieldType.int) 1 := ⟨kw_7_117, kw_1_13, by decide +kernel, by decide +kernel, by decide +kernel⟩
theorem kw_7_115 : (Jvm.Cond.instanceMethod ({ cls := "ParishUnionModel", name := "carry", desc := "(I)I" } : Jvm.MethodName)) ∈ gT := gT_of (tb_7 _ (List.mem_of_getElem? (i := 115) rfl)) rfl
theorem kw_7_116 : (Jvm.Cond.selects "ParishUnionModel" ({ cls := "ParishUnionModel", name := "carry", desc := "(I)I" } : Jvm.MethodName) ({ cls := "ParishUnionModel", name := "carry", desc := "(I)I" } : Jvm.MethodName)) ∈ gT := gT_of (tb_7 _ (List.mem_of_getElem? (i := 116) rfl)) rfl
theorem dL_law_1182 : decode code 1182 = .ok (.if_icmp .eq 810, 3) := by decide +kernel
set_option maxRecDepth 100000 in
set_option maxHeartbeats 4000000 in
theorem law_case_20 {p : Program} {e : Env} {s : State} {m : MethodId} {below : List Frame} {meth : Method} {c : Code} {l : Launch} {D : va_G} {cA : Nat → ClassId} {b : Nat} {xs : Nat → Int32} (X : gCx p s m #[Value.ref b] meth c s.heap.size D cA "ParishUnionLaw" code 4) (hr : meth.sig.returnType = ret) (hb : b < s.heap.size ∧ va_X b 7 xs s s.heap) {M : gM} (hFr : gFr M) : G p l e room_1 s m #[Value.ref b] below meth c s.heap.size D cA 4 (lw_Z below #[Value.ref b] s) 206 87467 M 206 1164 [(3, gJ 0), (2, gA s.heap.size 190), (1, gA s.heap.size 0), (0, .ref b)] [] := by
  obtain ⟨f_0_0, f_0_1, f_0_2, f_0_3, f_0_4, f_0_5, f_0_6, f_0_7, f_0_8, f_0_9, f_1_0, f_1_1, f_1_2, f_1_3, f_1_4, f_1_5, f_1_6, f_1_7, f_1_8, f_1_9, f_1_10, f_1_11, f_1_12, f_1_13, f_1_14, f_1_15, f_2_0, f_2_1, f_5_0, f_7_0, f_9_0, f_9_1, f_9_2, f_9_3, f_9_4, f_9_5, f_15_0, f_15_1, f_15_2, f_15_3, f_15_4, f_15_5, f_15_6, f_15_7, f_15_8, f_15_9, f_23_0, f_23_1, f_26_0, f_26_1, f_26_2, f_26_3, f_87_0, f_87_1, f_87_2, f_87_3, f_87_4, f_153_0, f_153_1, f_153_2, f_153_3, f_153_4, f_159_0, f_190_0, f_190_1, f_190_2, f_190_3, f_190_4, f_190_5, f_190_6, f_190_7, f_190_8, f_190_9, f_190_10, f_190_11, f_190_12, f_190_13, f_190_14, f_190_15, f_190_16, f_190_17, f_190_18, f_190_19, f_190_20, f_190_21, f_190_22, f_190_23, rents, way, beds, frost0, rows0, rooms0, tape0, car0, hS⟩ := hFr
  obtain ⟨v0, e0, r0⟩ : ∃ z : Int, xs 0 = Int32.ofInt z ∧ -2147483648 ≤ z ∧ z ≤ 2147483647 := ⟨_, gi_of _, gi_rg _⟩
  obtain ⟨v1, e1, r1⟩ : ∃ z : Int, xs 1 = Int32.ofInt z ∧ -2147483648 ≤ z ∧ z ≤ 2147483647 := ⟨_, gi_of _, gi_rg _⟩
  obtain ⟨v2, e2, r2⟩ : ∃ z : Int, xs 2 = Int32.ofInt z ∧ -2147483648 ≤ z ∧ z ≤ 2147483647 := ⟨_, gi_of _, gi_rg _⟩
  obtain ⟨v3, e3, r3⟩ : ∃ z : Int, xs 3 = Int32.ofInt z ∧ -2147483648 ≤ z ∧ z ≤ 2147483647 := ⟨_, gi_of _, gi_rg _⟩
  obtain ⟨v4, e4, r4⟩ : ∃ z : Int, xs 4 = Int32.ofInt z ∧ -2147483648 ≤ z ∧ z ≤ 2147483647 := ⟨_, gi_of _, gi_rg _⟩
  obtain ⟨v5, e5, r5⟩ : ∃ z : Int, xs 5 = Int32.ofInt z ∧ -2147483648 ≤ z ∧ z ≤ 2147483647 := ⟨_, gi_of _, gi_rg _⟩
  obtain ⟨v6, e6, r6⟩ : ∃ z : Int, xs 6 = Int32.ofInt z ∧ -2147483648 ≤ z ∧ z ≤ 2147483647 := ⟨_, gi_of _, gi_rg _⟩
  refine g_aload_n (n := 1165) X 2 dL_law_1164 rfl rfl rfl ?_
  refine g_aload_n (n := 1166) X 3 dL_law_1165 rfl rfl rfl ?_
  refine g_iload_n (n := 1167) X 0 dL_law_1166 rfl rfl rfl ?_
  refine g_iconst (n := 1168) X dL_law_1167 rfl ?_
  refine g_iadd (n := 1169) (z := 1) X dL_law_1168 rfl rfl ?_
  refine g_scrld (n := 1170) (z := v1) X hb (by omega) (by omega) (by omega) dL_law_1169 rfl e1 ?_
  refine g_callVi (n := 1173) (As := [gJ v1]) (rest := []) (cs1 := 206) (ss1 := 87467) X (c_X11_carry v1 (by omega) (by omega) f_0_0 f_1_5 f_9_5) okX11_carry kw_4_151 ⟨kw_4_152, kw_4_153⟩ ⟨rfl, rfl⟩ ⟨Nat.le_of_ble_eq_true rfl, Nat.le_of_ble_eq_true rfl⟩ rfl (by omega) (by omega) lay_0 rfl rfl (Nat.le_of_ble_eq_true rfl) ⟨Nat.le_of_ble_eq_true rfl, Nat.le_of_ble_eq_true rfl⟩ rfl rfl dL_law_1170 rfl (fun z1 M2 P3 => ?_)
  obtain ⟨P3, F4⟩ := P3
  refine g_aload_n (n := 1174) X 1 dL_law_1173 rfl rfl rfl ?_
  refine g_aload_n (n := 1175) X 3 dL_law_1174 rfl rfl rfl ?_
  refine g_iload_n (n := 1176) X 0 dL_law_1175 rfl rfl rfl ?_
  refine g_iconst (n := 1177) X dL_law_1176 rfl ?_
  refine g_iadd (n := 1178) (z := 1) X dL_law_1177 rfl rfl ?_
  refine g_scrld (n := 1179) (z := v1) X hb (by omega) (by omega) (by omega) dL_law_1178 rfl e1 ?_
  refine g_callVi (n := 1182) (As := [gJ v1]) (rest := [gJ z1]) (cs1 := 206) (ss1 := 87467) X (c_X12_carry v1 (by omega) (by omega) ((congrFun (F4 190) _).trans f_190_1) ((congrFun (F4 191) _).trans ((hS 5 (by omega) (by omega)).trans (by decide)))) okX12_carry kw_7_114 ⟨kw_7_115, kw_7_116⟩ ⟨rfl, rfl⟩ ⟨Nat.le_of_ble_eq_true rfl, Nat.le_of_ble_eq_true rfl⟩ rfl (by omega) (by omega) lay_190 rfl rfl (Nat.le_of_ble_eq_true rfl) ⟨Nat.le_of_ble_eq_true rfl, Nat.le_of_ble_eq_true rfl⟩ rfl rfl dL_law_1179 rfl (fun z5 M6 P7 => ?_)
  obtain ⟨P7, F8⟩ := P7
  refine g_icmp_eq (n := 1185) (tgt := 1992) X dL_law_1182 (by decide) (by omega) (by omega) rfl (fun c9 => ?_) (fun c9 => by exfalso; omega)
  exact law_tail X hr hb (by omega) (by omega)
theorem dL_law_1187 : decode code 1187 = .ok (.aload_n 1, 1) := by decide +kernel
theorem dL_law_1188 : decode code 1188 = .ok (.aload_n 0, 1) := by decide +kernel
theorem dL_law_1189 : decode code 1189 = .ok (.iload_n 3, 1) := by decide +kernel
theorem dL_law_1190 : decode code 1190 = .ok (.iconst 1, 1) := by decide +kernel
theorem dL_law_1191 : decode code 1191 = .ok (.iadd, 1) := by decide +kernel
theorem dL_law_1192 : decode code 1192 = .ok (.iaload, 1) := by decide +kernel
theorem dL_law_1193 : decode code 1193 = .ok (.aload_n 0, 1) := by decide +kernel
theorem dL_law_1194 : decode code 1194 = .ok (.iload_n 3, 1) := by decide +kernel
theorem dL_law_1195 : decode code 1195 = .ok (.iconst 2, 1) := by decide +kernel
theorem dL_law_1196 : decode code 1196 = .ok (.iadd, 1) := by decide +kernel
theorem dL_law_1197 : decode code 1197 = .ok (.iaload, 1) := by decide +kernel
theorem dL_law_1198 : decode code 1198 = .ok (.invokevirtual 109, 3) := by decide +kernel
theorem kw_4_155 : (Jvm.Cond.methodLink "ParishUnionLaw" (109 : Nat) ({ cls := "ParishUnion", name := "house", desc := "(II)I" } : Jvm.MethodName)) ∈ gT := gT_of (tb_4 _ (List.mem_of_getElem? (i := 155) rfl)) rfl
theorem kw_4_158 : (Jvm.Cond.code ({ cls := "ParishUnion", name := "house", desc := "(II)I" } : Jvm.MethodName) prog_1_method_23_code (5 : Nat) (Option.some Jvm.ClassFile.FieldType.int)) ∈ gT := gT_of (tb_4 _ (List.mem_of_getElem? (i := 158) rfl)) rfl
theorem okX11_house : gQok yX11_house cX11_house 5 (Option.some Jvm.ClassFile.FieldType.int) 2 := ⟨kw_4_158, kw_1_1, by decide +kernel, by decide +kernel, by decide +kernel⟩
theorem kw_4_156 : (Jvm.Cond.instanceMethod ({ cls := "ParishUnion", name := "house", desc := "(II)I" } : Jvm.MethodName)) ∈ gT := gT_of (tb_4 _ (List.mem_of_getElem? (i := 156) rfl)) rfl
theorem kw_4_157 : (Jvm.Cond.selects "ParishUnion" ({ cls := "ParishUnion", name := "house", desc := "(II)I" } : Jvm.MethodName) ({ cls := "ParishUnion", name := "house", desc := "(II)I" } : Jvm.MethodName)) ∈ gT := gT_of (tb_4 _ (List.mem_of_getElem? (i := 157) rfl)) rfl
theorem dL_law_1201 : decode code 1201 = .ok (.aload_n 2, 1) := by decide +kernel
theorem dL_law_1202 : decode code 1202 = .ok (.aload_n 0, 1) := by decide +kernel
theorem dL_law_1203 : decode code 1203 = .ok (.iload_n 3, 1) := by decide +kernel
theorem dL_law_1204 : decode code 1204 = .ok (.iconst 1, 1) := by decide +kernel
theorem dL_law_1205 : decode code 1205 = .ok (.iadd, 1) := by decide +kernel
theorem dL_law_1206 : decode code 1206 = .ok (.iaload, 1) := by decide +kernel
theorem dL_law_1207 : decode code 1207 = .ok (.aload_n 0, 1) := by decide +kernel
theorem dL_law_1208 : decode code 1208 = .ok (.iload_n 3, 1) := by decide +kernel
theorem dL_law_1209 : decode code 1209 = .ok (.iconst 2, 1) := by decide +kernel
theorem dL_law_1210 : decode code 1210 = .ok (.iadd, 1) := by decide +kernel
theorem dL_law_1211 : decode code 1211 = .ok (.iaload, 1) := by decide +kernel
theorem dL_law_1212 : decode code 1212 = .ok (.invokevirtual 112, 3) := by decide +kernel
theorem kw_7_118 : (Jvm.Cond.methodLink "ParishUnionLaw" (112 : Nat) ({ cls := "ParishUnionModel", name := "house", desc := "(II)I" } : Jvm.MethodName)) ∈ gT := gT_of (tb_7 _ (List.mem_of_getElem? (i := 118) rfl)) rfl
theorem kw_7_121 : (Jvm.Cond.code ({ cls := "ParishUnionModel", name := "house", desc := "(II)I" } : Jvm.MethodName) prog_14_method_67_code (5 : Nat) (Option.some Jvm.ClassFile.FieldType.int)) ∈ gT := gT_of (tb_7 _ (List.mem_of_getElem? (i := 121) rfl)) rfl
theorem okX12_house : gQok yX12_house cX12_house 5 (Option.some Jvm.ClassFile.FieldType.int) 2 := ⟨kw_7_121, kw_1_13, by decide +kernel, by decide +kernel, by decide +kernel⟩
theorem kw_7_119 : (Jvm.Cond.instanceMethod ({ cls := "ParishUnionModel", name := "house", desc := "(II)I" } : Jvm.MethodName)) ∈ gT := gT_of (tb_7 _ (List.mem_of_getElem? (i := 119) rfl)) rfl
theorem kw_7_120 : (Jvm.Cond.selects "ParishUnionModel" ({ cls := "ParishUnionModel", name := "house", desc := "(II)I" } : Jvm.MethodName) ({ cls := "ParishUnionModel", name := "house", desc := "(II)I" } : Jvm.MethodName)) ∈ gT := gT_of (tb_7 _ (List.mem_of_getElem? (i := 120) rfl)) rfl
theorem dL_law_1215 : decode code 1215 = .ok (.if_icmp .eq 777, 3) := by decide +kernel
set_option maxRecDepth 100000 in
set_option maxHeartbeats 4000000 in
theorem law_case_21 {p : Program} {e : Env} {s : State} {m : MethodId} {below : List Frame} {meth : Method} {c : Code} {l : Launch} {D : va_G} {cA : Nat → ClassId} {b : Nat} {xs : Nat → Int32} (X : gCx p s m #[Value.ref b] meth c s.heap.size D cA "ParishUnionLaw" code 4) (hr : meth.sig.returnType = ret) (hb : b < s.heap.size ∧ va_X b 7 xs s s.heap) {M : gM} (hFr : gFr M) : G p l e room_1 s m #[Value.ref b] below meth c s.heap.size D cA 4 (lw_Z below #[Value.ref b] s) 206 87467 M 206 1187 [(3, gJ 0), (2, gA s.heap.size 190), (1, gA s.heap.size 0), (0, .ref b)] [] := by
  obtain ⟨f_0_0, f_0_1, f_0_2, f_0_3, f_0_4, f_0_5, f_0_6, f_0_7, f_0_8, f_0_9, f_1_0, f_1_1, f_1_2, f_1_3, f_1_4, f_1_5, f_1_6, f_1_7, f_1_8, f_1_9, f_1_10, f_1_11, f_1_12, f_1_13, f_1_14, f_1_15, f_2_0, f_2_1, f_5_0, f_7_0, f_9_0, f_9_1, f_9_2, f_9_3, f_9_4, f_9_5, f_15_0, f_15_1, f_15_2, f_15_3, f_15_4, f_15_5, f_15_6, f_15_7, f_15_8, f_15_9, f_23_0, f_23_1, f_26_0, f_26_1, f_26_2, f_26_3, f_87_0, f_87_1, f_87_2, f_87_3, f_87_4, f_153_0, f_153_1, f_153_2, f_153_3, f_153_4, f_159_0, f_190_0, f_190_1, f_190_2, f_190_3, f_190_4, f_190_5, f_190_6, f_190_7, f_190_8, f_190_9, f_190_10, f_190_11, f_190_12, f_190_13, f_190_14, f_190_15, f_190_16, f_190_17, f_190_18, f_190_19, f_190_20, f_190_21, f_190_22, f_190_23, rents, way, beds, frost0, rows0, rooms0, tape0, car0, hS⟩ := hFr
  obtain ⟨v0, e0, r0⟩ : ∃ z : Int, xs 0 = Int32.ofInt z ∧ -2147483648 ≤ z ∧ z ≤ 2147483647 := ⟨_, gi_of _, gi_rg _⟩
  obtain ⟨v1, e1, r1⟩ : ∃ z : Int, xs 1 = Int32.ofInt z ∧ -2147483648 ≤ z ∧ z ≤ 2147483647 := ⟨_, gi_of _, gi_rg _⟩
  obtain ⟨v2, e2, r2⟩ : ∃ z : Int, xs 2 = Int32.ofInt z ∧ -2147483648 ≤ z ∧ z ≤ 2147483647 := ⟨_, gi_of _, gi_rg _⟩
  obtain ⟨v3, e3, r3⟩ : ∃ z : Int, xs 3 = Int32.ofInt z ∧ -2147483648 ≤ z ∧ z ≤ 2147483647 := ⟨_, gi_of _, gi_rg _⟩
  obtain ⟨v4, e4, r4⟩ : ∃ z : Int, xs 4 = Int32.ofInt z ∧ -2147483648 ≤ z ∧ z ≤ 2147483647 := ⟨_, gi_of _, gi_rg _⟩
  obtain ⟨v5, e5, r5⟩ : ∃ z : Int, xs 5 = Int32.ofInt z ∧ -2147483648 ≤ z ∧ z ≤ 2147483647 := ⟨_, gi_of _, gi_rg _⟩
  obtain ⟨v6, e6, r6⟩ : ∃ z : Int, xs 6 = Int32.ofInt z ∧ -2147483648 ≤ z ∧ z ≤ 2147483647 := ⟨_, gi_of _, gi_rg _⟩
  refine g_aload_n (n := 1188) X 2 dL_law_1187 rfl rfl rfl ?_
  refine g_aload_n (n := 1189) X 3 dL_law_1188 rfl rfl rfl ?_
  refine g_iload_n (n := 1190) X 0 dL_law_1189 rfl rfl rfl ?_
  refine g_iconst (n := 1191) X dL_law_1190 rfl ?_
  refine g_iadd (n := 1192) (z := 1) X dL_law_1191 rfl rfl ?_
  refine g_scrld (n := 1193) (z := v1) X hb (by omega) (by omega) (by omega) dL_law_1192 rfl e1 ?_
  refine g_aload_n (n := 1194) X 3 dL_law_1193 rfl rfl rfl ?_
  refine g_iload_n (n := 1195) X 0 dL_law_1194 rfl rfl rfl ?_
  refine g_iconst (n := 1196) X dL_law_1195 rfl ?_
  refine g_iadd (n := 1197) (z := 2) X dL_law_1196 rfl rfl ?_
  refine g_scrld (n := 1198) (z := v2) X hb (by omega) (by omega) (by omega) dL_law_1197 rfl e2 ?_
  refine g_callVi (n := 1201) (As := [gJ v1, gJ v2]) (rest := []) (cs1 := 206) (ss1 := 87467) X (c_X11_house v1 v2 (by omega) (by omega) (by omega) f_0_0 f_1_6 f_15_8 f_15_0 beds) okX11_house kw_4_155 ⟨kw_4_156, kw_4_157⟩ ⟨rfl, rfl⟩ ⟨Nat.le_of_ble_eq_true rfl, Nat.le_of_ble_eq_true rfl⟩ rfl (by omega) (by omega) lay_0 rfl rfl (Nat.le_of_ble_eq_true rfl) ⟨Nat.le_of_ble_eq_true rfl, Nat.le_of_ble_eq_true rfl⟩ rfl rfl dL_law_1198 rfl (fun z1 M2 P3 => ?_)
  obtain ⟨P3, F4⟩ := P3
  refine g_aload_n (n := 1202) X 1 dL_law_1201 rfl rfl rfl ?_
  refine g_aload_n (n := 1203) X 3 dL_law_1202 rfl rfl rfl ?_
  refine g_iload_n (n := 1204) X 0 dL_law_1203 rfl rfl rfl ?_
  refine g_iconst (n := 1205) X dL_law_1204 rfl ?_
  refine g_iadd (n := 1206) (z := 1) X dL_law_1205 rfl rfl ?_
  refine g_scrld (n := 1207) (z := v1) X hb (by omega) (by omega) (by omega) dL_law_1206 rfl e1 ?_
  refine g_aload_n (n := 1208) X 3 dL_law_1207 rfl rfl rfl ?_
  refine g_iload_n (n := 1209) X 0 dL_law_1208 rfl rfl rfl ?_
  refine g_iconst (n := 1210) X dL_law_1209 rfl ?_
  refine g_iadd (n := 1211) (z := 2) X dL_law_1210 rfl rfl ?_
  refine g_scrld (n := 1212) (z := v2) X hb (by omega) (by omega) (by omega) dL_law_1211 rfl e2 ?_
  refine g_callVi (n := 1215) (As := [gJ v1, gJ v2]) (rest := [gJ z1]) (cs1 := 206) (ss1 := 87467) X (c_X12_house v1 v2 (by omega) (by omega) (by omega) ((congrFun (F4 190 (by omega) (by omega)) _).trans f_190_1) (fun i h0 h1 => (congrFun ((F4 191 (by omega) (by omega)).trans rfl) i).trans (hS i h0 h1))) okX12_house kw_7_118 ⟨kw_7_119, kw_7_120⟩ ⟨rfl, rfl⟩ ⟨Nat.le_of_ble_eq_true rfl, Nat.le_of_ble_eq_true rfl⟩ rfl (by omega) (by omega) lay_190 rfl rfl (Nat.le_of_ble_eq_true rfl) ⟨Nat.le_of_ble_eq_true rfl, Nat.le_of_ble_eq_true rfl⟩ rfl rfl dL_law_1212 rfl (fun z5 M6 P7 => ?_)
  obtain ⟨P7, F8⟩ := P7
  refine g_icmp_eq (n := 1218) (tgt := 1992) X dL_law_1215 (by decide) (by omega) (by omega) rfl (fun c9 => ?_) (fun c9 => by exfalso; omega)
  exact law_tail X hr hb (by omega) (by omega)
theorem dL_law_1220 : decode code 1220 = .ok (.aload_n 1, 1) := by decide +kernel
theorem dL_law_1221 : decode code 1221 = .ok (.aload_n 0, 1) := by decide +kernel
theorem dL_law_1222 : decode code 1222 = .ok (.iload_n 3, 1) := by decide +kernel
theorem dL_law_1223 : decode code 1223 = .ok (.iconst 1, 1) := by decide +kernel
theorem dL_law_1224 : decode code 1224 = .ok (.iadd, 1) := by decide +kernel
theorem dL_law_1225 : decode code 1225 = .ok (.iaload, 1) := by decide +kernel
theorem dL_law_1226 : decode code 1226 = .ok (.invokevirtual 113, 3) := by decide +kernel
theorem kw_4_159 : (Jvm.Cond.methodLink "ParishUnionLaw" (113 : Nat) ({ cls := "ParishUnion", name := "price", desc := "(I)I" } : Jvm.MethodName)) ∈ gT := gT_of (tb_4 _ (List.mem_of_getElem? (i := 159) rfl)) rfl
theorem kw_4_162 : (Jvm.Cond.code ({ cls := "ParishUnion", name := "price", desc := "(I)I" } : Jvm.MethodName) prog_1_method_24_code (3 : Nat) (Option.some Jvm.ClassFile.FieldType.int)) ∈ gT := gT_of (tb_4 _ (List.mem_of_getElem? (i := 162) rfl)) rfl
theorem okX11_price : gQok yX11_price cX11_price 3 (Option.some Jvm.ClassFile.FieldType.int) 1 := ⟨kw_4_162, kw_1_1, by decide +kernel, by decide +kernel, by decide +kernel⟩
theorem kw_4_160 : (Jvm.Cond.instanceMethod ({ cls := "ParishUnion", name := "price", desc := "(I)I" } : Jvm.MethodName)) ∈ gT := gT_of (tb_4 _ (List.mem_of_getElem? (i := 160) rfl)) rfl
theorem kw_4_161 : (Jvm.Cond.selects "ParishUnion" ({ cls := "ParishUnion", name := "price", desc := "(I)I" } : Jvm.MethodName) ({ cls := "ParishUnion", name := "price", desc := "(I)I" } : Jvm.MethodName)) ∈ gT := gT_of (tb_4 _ (List.mem_of_getElem? (i := 161) rfl)) rfl
theorem dL_law_1229 : decode code 1229 = .ok (.aload_n 2, 1) := by decide +kernel
theorem dL_law_1230 : decode code 1230 = .ok (.aload_n 0, 1) := by decide +kernel
theorem dL_law_1231 : decode code 1231 = .ok (.iload_n 3, 1) := by decide +kernel
theorem dL_law_1232 : decode code 1232 = .ok (.iconst 1, 1) := by decide +kernel
theorem dL_law_1233 : decode code 1233 = .ok (.iadd, 1) := by decide +kernel
theorem dL_law_1234 : decode code 1234 = .ok (.iaload, 1) := by decide +kernel
theorem dL_law_1235 : decode code 1235 = .ok (.invokevirtual 116, 3) := by decide +kernel
theorem kw_7_122 : (Jvm.Cond.methodLink "ParishUnionLaw" (116 : Nat) ({ cls := "ParishUnionModel", name := "price", desc := "(I)I" } : Jvm.MethodName)) ∈ gT := gT_of (tb_7 _ (List.mem_of_getElem? (i := 122) rfl)) rfl
theorem kw_7_125 : (Jvm.Cond.code ({ cls := "ParishUnionModel", name := "price", desc := "(I)I" } : Jvm.MethodName) prog_14_method_68_code (3 : Nat) (Option.some Jvm.ClassFile.FieldType.int)) ∈ gT := gT_of (tb_7 _ (List.mem_of_getElem? (i := 125) rfl)) rfl
theorem okX12_price : gQok yX12_price cX12_price 3 (Option.some Jvm.ClassFile.FieldType.int) 1 := ⟨kw_7_125, kw_1_13, by decide +kernel, by decide +kernel, by decide +kernel⟩
theorem kw_7_123 : (Jvm.Cond.instanceMethod ({ cls := "ParishUnionModel", name := "price", desc := "(I)I" } : Jvm.MethodName)) ∈ gT := gT_of (tb_7 _ (List.mem_of_getElem? (i := 123) rfl)) rfl
theorem kw_7_124 : (Jvm.Cond.selects "ParishUnionModel" ({ cls := "ParishUnionModel", name := "price", desc := "(I)I" } : Jvm.MethodName) ({ cls := "ParishUnionModel", name := "price", desc := "(I)I" } : Jvm.MethodName)) ∈ gT := gT_of (tb_7 _ (List.mem_of_getElem? (i := 124) rfl)) rfl
theorem dL_law_1238 : decode code 1238 = .ok (.if_icmp .eq 754, 3) := by decide +kernel
set_option maxRecDepth 100000 in
set_option maxHeartbeats 4000000 in
theorem law_case_22 {p : Program} {e : Env} {s : State} {m : MethodId} {below : List Frame} {meth : Method} {c : Code} {l : Launch} {D : va_G} {cA : Nat → ClassId} {b : Nat} {xs : Nat → Int32} (X : gCx p s m #[Value.ref b] meth c s.heap.size D cA "ParishUnionLaw" code 4) (hr : meth.sig.returnType = ret) (hb : b < s.heap.size ∧ va_X b 7 xs s s.heap) {M : gM} (hFr : gFr M) : G p l e room_1 s m #[Value.ref b] below meth c s.heap.size D cA 4 (lw_Z below #[Value.ref b] s) 206 87467 M 206 1220 [(3, gJ 0), (2, gA s.heap.size 190), (1, gA s.heap.size 0), (0, .ref b)] [] := by
  obtain ⟨f_0_0, f_0_1, f_0_2, f_0_3, f_0_4, f_0_5, f_0_6, f_0_7, f_0_8, f_0_9, f_1_0, f_1_1, f_1_2, f_1_3, f_1_4, f_1_5, f_1_6, f_1_7, f_1_8, f_1_9, f_1_10, f_1_11, f_1_12, f_1_13, f_1_14, f_1_15, f_2_0, f_2_1, f_5_0, f_7_0, f_9_0, f_9_1, f_9_2, f_9_3, f_9_4, f_9_5, f_15_0, f_15_1, f_15_2, f_15_3, f_15_4, f_15_5, f_15_6, f_15_7, f_15_8, f_15_9, f_23_0, f_23_1, f_26_0, f_26_1, f_26_2, f_26_3, f_87_0, f_87_1, f_87_2, f_87_3, f_87_4, f_153_0, f_153_1, f_153_2, f_153_3, f_153_4, f_159_0, f_190_0, f_190_1, f_190_2, f_190_3, f_190_4, f_190_5, f_190_6, f_190_7, f_190_8, f_190_9, f_190_10, f_190_11, f_190_12, f_190_13, f_190_14, f_190_15, f_190_16, f_190_17, f_190_18, f_190_19, f_190_20, f_190_21, f_190_22, f_190_23, rents, way, beds, frost0, rows0, rooms0, tape0, car0, hS⟩ := hFr
  obtain ⟨v0, e0, r0⟩ : ∃ z : Int, xs 0 = Int32.ofInt z ∧ -2147483648 ≤ z ∧ z ≤ 2147483647 := ⟨_, gi_of _, gi_rg _⟩
  obtain ⟨v1, e1, r1⟩ : ∃ z : Int, xs 1 = Int32.ofInt z ∧ -2147483648 ≤ z ∧ z ≤ 2147483647 := ⟨_, gi_of _, gi_rg _⟩
  obtain ⟨v2, e2, r2⟩ : ∃ z : Int, xs 2 = Int32.ofInt z ∧ -2147483648 ≤ z ∧ z ≤ 2147483647 := ⟨_, gi_of _, gi_rg _⟩
  obtain ⟨v3, e3, r3⟩ : ∃ z : Int, xs 3 = Int32.ofInt z ∧ -2147483648 ≤ z ∧ z ≤ 2147483647 := ⟨_, gi_of _, gi_rg _⟩
  obtain ⟨v4, e4, r4⟩ : ∃ z : Int, xs 4 = Int32.ofInt z ∧ -2147483648 ≤ z ∧ z ≤ 2147483647 := ⟨_, gi_of _, gi_rg _⟩
  obtain ⟨v5, e5, r5⟩ : ∃ z : Int, xs 5 = Int32.ofInt z ∧ -2147483648 ≤ z ∧ z ≤ 2147483647 := ⟨_, gi_of _, gi_rg _⟩
  obtain ⟨v6, e6, r6⟩ : ∃ z : Int, xs 6 = Int32.ofInt z ∧ -2147483648 ≤ z ∧ z ≤ 2147483647 := ⟨_, gi_of _, gi_rg _⟩
  refine g_aload_n (n := 1221) X 2 dL_law_1220 rfl rfl rfl ?_
  refine g_aload_n (n := 1222) X 3 dL_law_1221 rfl rfl rfl ?_
  refine g_iload_n (n := 1223) X 0 dL_law_1222 rfl rfl rfl ?_
  refine g_iconst (n := 1224) X dL_law_1223 rfl ?_
  refine g_iadd (n := 1225) (z := 1) X dL_law_1224 rfl rfl ?_
  refine g_scrld (n := 1226) (z := v1) X hb (by omega) (by omega) (by omega) dL_law_1225 rfl e1 ?_
  refine g_callVi (n := 1229) (As := [gJ v1]) (rest := []) (cs1 := 206) (ss1 := 87467) X (c_X11_price v1 (by omega) (by omega) f_0_0 f_1_6 f_15_9) okX11_price kw_4_159 ⟨kw_4_160, kw_4_161⟩ ⟨rfl, rfl⟩ ⟨Nat.le_of_ble_eq_true rfl, Nat.le_of_ble_eq_true rfl⟩ rfl (by omega) (by omega) lay_0 rfl rfl (Nat.le_of_ble_eq_true rfl) ⟨Nat.le_of_ble_eq_true rfl, Nat.le_of_ble_eq_true rfl⟩ rfl rfl dL_law_1226 rfl (fun z1 M2 P3 => ?_)
  obtain ⟨P3, F4⟩ := P3
  refine g_aload_n (n := 1230) X 1 dL_law_1229 rfl rfl rfl ?_
  refine g_aload_n (n := 1231) X 3 dL_law_1230 rfl rfl rfl ?_
  refine g_iload_n (n := 1232) X 0 dL_law_1231 rfl rfl rfl ?_
  refine g_iconst (n := 1233) X dL_law_1232 rfl ?_
  refine g_iadd (n := 1234) (z := 1) X dL_law_1233 rfl rfl ?_
  refine g_scrld (n := 1235) (z := v1) X hb (by omega) (by omega) (by omega) dL_law_1234 rfl e1 ?_
  refine g_callVi (n := 1238) (As := [gJ v1]) (rest := [gJ z1]) (cs1 := 206) (ss1 := 87467) X (c_X12_price v1 (by omega) (by omega) ((congrFun (F4 190 (by omega)) _).trans f_190_1) ((congrFun (F4 191 (by omega)) _).trans ((hS 9 (by omega) (by omega)).trans (by decide)))) okX12_price kw_7_122 ⟨kw_7_123, kw_7_124⟩ ⟨rfl, rfl⟩ ⟨Nat.le_of_ble_eq_true rfl, Nat.le_of_ble_eq_true rfl⟩ rfl (by omega) (by omega) lay_190 rfl rfl (Nat.le_of_ble_eq_true rfl) ⟨Nat.le_of_ble_eq_true rfl, Nat.le_of_ble_eq_true rfl⟩ rfl rfl dL_law_1235 rfl (fun z5 M6 P7 => ?_)
  obtain ⟨P7, F8⟩ := P7
  refine g_icmp_eq (n := 1241) (tgt := 1992) X dL_law_1238 (by decide) (by omega) (by omega) rfl (fun c9 => ?_) (fun c9 => by exfalso; omega)
  exact law_tail X hr hb (by omega) (by omega)
theorem dL_law_1243 : decode code 1243 = .ok (.aload_n 1, 1) := by decide +kernel
theorem dL_law_1244 : decode code 1244 = .ok (.aload_n 0, 1) := by decide +kernel
theorem dL_law_1245 : decode code 1245 = .ok (.iload_n 3, 1) := by decide +kernel
theorem dL_law_1246 : decode code 1246 = .ok (.iconst 1, 1) := by decide +kernel
theorem dL_law_1247 : decode code 1247 = .ok (.iadd, 1) := by decide +kernel
theorem dL_law_1248 : decode code 1248 = .ok (.iaload, 1) := by decide +kernel
theorem dL_law_1249 : decode code 1249 = .ok (.aload_n 0, 1) := by decide +kernel
theorem dL_law_1250 : decode code 1250 = .ok (.iload_n 3, 1) := by decide +kernel
theorem dL_law_1251 : decode code 1251 = .ok (.iconst 2, 1) := by decide +kernel
theorem dL_law_1252 : decode code 1252 = .ok (.iadd, 1) := by decide +kernel
theorem dL_law_1253 : decode code 1253 = .ok (.iaload, 1) := by decide +kernel
theorem dL_law_1254 : decode code 1254 = .ok (.invokevirtual 117, 3) := by decide +kernel
theorem kw_4_163 : (Jvm.Cond.methodLink "ParishUnionLaw" (117 : Nat) ({ cls := "ParishUnion", name := "frost", desc := "(II)I" } : Jvm.MethodName)) ∈ gT := gT_of (tb_4 _ (List.mem_of_getElem? (i := 163) rfl)) rfl
theorem kw_4_166 : (Jvm.Cond.code ({ cls := "ParishUnion", name := "frost", desc := "(II)I" } : Jvm.MethodName) prog_1_method_25_code (4 : Nat) (Option.some Jvm.ClassFile.FieldType.int)) ∈ gT := gT_of (tb_4 _ (List.mem_of_getElem? (i := 166) rfl)) rfl
theorem okX11_frost : gQok yX11_frost cX11_frost 4 (Option.some Jvm.ClassFile.FieldType.int) 2 := ⟨kw_4_166, kw_1_1, by decide +kernel, by decide +kernel, by decide +kernel⟩
theorem kw_4_164 : (Jvm.Cond.instanceMethod ({ cls := "ParishUnion", name := "frost", desc := "(II)I" } : Jvm.MethodName)) ∈ gT := gT_of (tb_4 _ (List.mem_of_getElem? (i := 164) rfl)) rfl
theorem kw_4_165 : (Jvm.Cond.selects "ParishUnion" ({ cls := "ParishUnion", name := "frost", desc := "(II)I" } : Jvm.MethodName) ({ cls := "ParishUnion", name := "frost", desc := "(II)I" } : Jvm.MethodName)) ∈ gT := gT_of (tb_4 _ (List.mem_of_getElem? (i := 165) rfl)) rfl
theorem dL_law_1257 : decode code 1257 = .ok (.aload_n 2, 1) := by decide +kernel
theorem dL_law_1258 : decode code 1258 = .ok (.aload_n 0, 1) := by decide +kernel
theorem dL_law_1259 : decode code 1259 = .ok (.iload_n 3, 1) := by decide +kernel
theorem dL_law_1260 : decode code 1260 = .ok (.iconst 1, 1) := by decide +kernel
theorem dL_law_1261 : decode code 1261 = .ok (.iadd, 1) := by decide +kernel
theorem dL_law_1262 : decode code 1262 = .ok (.iaload, 1) := by decide +kernel
theorem dL_law_1263 : decode code 1263 = .ok (.aload_n 0, 1) := by decide +kernel
theorem dL_law_1264 : decode code 1264 = .ok (.iload_n 3, 1) := by decide +kernel
theorem dL_law_1265 : decode code 1265 = .ok (.iconst 2, 1) := by decide +kernel
theorem dL_law_1266 : decode code 1266 = .ok (.iadd, 1) := by decide +kernel
theorem dL_law_1267 : decode code 1267 = .ok (.iaload, 1) := by decide +kernel
theorem dL_law_1268 : decode code 1268 = .ok (.invokevirtual 120, 3) := by decide +kernel
theorem kw_7_126 : (Jvm.Cond.methodLink "ParishUnionLaw" (120 : Nat) ({ cls := "ParishUnionModel", name := "frost", desc := "(II)I" } : Jvm.MethodName)) ∈ gT := gT_of (tb_7 _ (List.mem_of_getElem? (i := 126) rfl)) rfl
theorem kw_7_129 : (Jvm.Cond.code ({ cls := "ParishUnionModel", name := "frost", desc := "(II)I" } : Jvm.MethodName) prog_14_method_69_code (4 : Nat) (Option.some Jvm.ClassFile.FieldType.int)) ∈ gT := gT_of (tb_7 _ (List.mem_of_getElem? (i := 129) rfl)) rfl
theorem okX12_frost : gQok yX12_frost cX12_frost 4 (Option.some Jvm.ClassFile.FieldType.int) 2 := ⟨kw_7_129, kw_1_13, by decide +kernel, by decide +kernel, by decide +kernel⟩
theorem kw_7_127 : (Jvm.Cond.instanceMethod ({ cls := "ParishUnionModel", name := "frost", desc := "(II)I" } : Jvm.MethodName)) ∈ gT := gT_of (tb_7 _ (List.mem_of_getElem? (i := 127) rfl)) rfl
theorem kw_7_128 : (Jvm.Cond.selects "ParishUnionModel" ({ cls := "ParishUnionModel", name := "frost", desc := "(II)I" } : Jvm.MethodName) ({ cls := "ParishUnionModel", name := "frost", desc := "(II)I" } : Jvm.MethodName)) ∈ gT := gT_of (tb_7 _ (List.mem_of_getElem? (i := 128) rfl)) rfl
theorem dL_law_1271 : decode code 1271 = .ok (.if_icmp .eq 721, 3) := by decide +kernel
set_option maxRecDepth 100000 in
set_option maxHeartbeats 4000000 in
theorem law_case_23 {p : Program} {e : Env} {s : State} {m : MethodId} {below : List Frame} {meth : Method} {c : Code} {l : Launch} {D : va_G} {cA : Nat → ClassId} {b : Nat} {xs : Nat → Int32} (X : gCx p s m #[Value.ref b] meth c s.heap.size D cA "ParishUnionLaw" code 4) (hr : meth.sig.returnType = ret) (hb : b < s.heap.size ∧ va_X b 7 xs s s.heap) {M : gM} (hFr : gFr M) : G p l e room_1 s m #[Value.ref b] below meth c s.heap.size D cA 4 (lw_Z below #[Value.ref b] s) 206 87467 M 206 1243 [(3, gJ 0), (2, gA s.heap.size 190), (1, gA s.heap.size 0), (0, .ref b)] [] := by
  obtain ⟨f_0_0, f_0_1, f_0_2, f_0_3, f_0_4, f_0_5, f_0_6, f_0_7, f_0_8, f_0_9, f_1_0, f_1_1, f_1_2, f_1_3, f_1_4, f_1_5, f_1_6, f_1_7, f_1_8, f_1_9, f_1_10, f_1_11, f_1_12, f_1_13, f_1_14, f_1_15, f_2_0, f_2_1, f_5_0, f_7_0, f_9_0, f_9_1, f_9_2, f_9_3, f_9_4, f_9_5, f_15_0, f_15_1, f_15_2, f_15_3, f_15_4, f_15_5, f_15_6, f_15_7, f_15_8, f_15_9, f_23_0, f_23_1, f_26_0, f_26_1, f_26_2, f_26_3, f_87_0, f_87_1, f_87_2, f_87_3, f_87_4, f_153_0, f_153_1, f_153_2, f_153_3, f_153_4, f_159_0, f_190_0, f_190_1, f_190_2, f_190_3, f_190_4, f_190_5, f_190_6, f_190_7, f_190_8, f_190_9, f_190_10, f_190_11, f_190_12, f_190_13, f_190_14, f_190_15, f_190_16, f_190_17, f_190_18, f_190_19, f_190_20, f_190_21, f_190_22, f_190_23, rents, way, beds, frost0, rows0, rooms0, tape0, car0, hS⟩ := hFr
  obtain ⟨v0, e0, r0⟩ : ∃ z : Int, xs 0 = Int32.ofInt z ∧ -2147483648 ≤ z ∧ z ≤ 2147483647 := ⟨_, gi_of _, gi_rg _⟩
  obtain ⟨v1, e1, r1⟩ : ∃ z : Int, xs 1 = Int32.ofInt z ∧ -2147483648 ≤ z ∧ z ≤ 2147483647 := ⟨_, gi_of _, gi_rg _⟩
  obtain ⟨v2, e2, r2⟩ : ∃ z : Int, xs 2 = Int32.ofInt z ∧ -2147483648 ≤ z ∧ z ≤ 2147483647 := ⟨_, gi_of _, gi_rg _⟩
  obtain ⟨v3, e3, r3⟩ : ∃ z : Int, xs 3 = Int32.ofInt z ∧ -2147483648 ≤ z ∧ z ≤ 2147483647 := ⟨_, gi_of _, gi_rg _⟩
  obtain ⟨v4, e4, r4⟩ : ∃ z : Int, xs 4 = Int32.ofInt z ∧ -2147483648 ≤ z ∧ z ≤ 2147483647 := ⟨_, gi_of _, gi_rg _⟩
  obtain ⟨v5, e5, r5⟩ : ∃ z : Int, xs 5 = Int32.ofInt z ∧ -2147483648 ≤ z ∧ z ≤ 2147483647 := ⟨_, gi_of _, gi_rg _⟩
  obtain ⟨v6, e6, r6⟩ : ∃ z : Int, xs 6 = Int32.ofInt z ∧ -2147483648 ≤ z ∧ z ≤ 2147483647 := ⟨_, gi_of _, gi_rg _⟩
  refine g_aload_n (n := 1244) X 2 dL_law_1243 rfl rfl rfl ?_
  refine g_aload_n (n := 1245) X 3 dL_law_1244 rfl rfl rfl ?_
  refine g_iload_n (n := 1246) X 0 dL_law_1245 rfl rfl rfl ?_
  refine g_iconst (n := 1247) X dL_law_1246 rfl ?_
  refine g_iadd (n := 1248) (z := 1) X dL_law_1247 rfl rfl ?_
  refine g_scrld (n := 1249) (z := v1) X hb (by omega) (by omega) (by omega) dL_law_1248 rfl e1 ?_
  refine g_aload_n (n := 1250) X 3 dL_law_1249 rfl rfl rfl ?_
  refine g_iload_n (n := 1251) X 0 dL_law_1250 rfl rfl rfl ?_
  refine g_iconst (n := 1252) X dL_law_1251 rfl ?_
  refine g_iadd (n := 1253) (z := 2) X dL_law_1252 rfl rfl ?_
  refine g_scrld (n := 1254) (z := v2) X hb (by omega) (by omega) (by omega) dL_law_1253 rfl e2 ?_
  refine g_callVi (n := 1257) (As := [gJ v1, gJ v2]) (rest := []) (cs1 := 206) (ss1 := 87467) X (c_X11_frost v1 v2 (by omega) (by omega) (by omega) f_0_0 f_1_6 f_1_15 f_15_1 frost0) okX11_frost kw_4_163 ⟨kw_4_164, kw_4_165⟩ ⟨rfl, rfl⟩ ⟨Nat.le_of_ble_eq_true rfl, Nat.le_of_ble_eq_true rfl⟩ rfl (by omega) (by omega) lay_0 rfl rfl (Nat.le_of_ble_eq_true rfl) ⟨Nat.le_of_ble_eq_true rfl, Nat.le_of_ble_eq_true rfl⟩ rfl rfl dL_law_1254 rfl (fun z1 M2 P3 => ?_)
  obtain ⟨P3, F4⟩ := P3
  refine g_aload_n (n := 1258) X 1 dL_law_1257 rfl rfl rfl ?_
  refine g_aload_n (n := 1259) X 3 dL_law_1258 rfl rfl rfl ?_
  refine g_iload_n (n := 1260) X 0 dL_law_1259 rfl rfl rfl ?_
  refine g_iconst (n := 1261) X dL_law_1260 rfl ?_
  refine g_iadd (n := 1262) (z := 1) X dL_law_1261 rfl rfl ?_
  refine g_scrld (n := 1263) (z := v1) X hb (by omega) (by omega) (by omega) dL_law_1262 rfl e1 ?_
  refine g_aload_n (n := 1264) X 3 dL_law_1263 rfl rfl rfl ?_
  refine g_iload_n (n := 1265) X 0 dL_law_1264 rfl rfl rfl ?_
  refine g_iconst (n := 1266) X dL_law_1265 rfl ?_
  refine g_iadd (n := 1267) (z := 2) X dL_law_1266 rfl rfl ?_
  refine g_scrld (n := 1268) (z := v2) X hb (by omega) (by omega) (by omega) dL_law_1267 rfl e2 ?_
  refine g_callVi (n := 1271) (As := [gJ v1, gJ v2]) (rest := [gJ z1]) (cs1 := 206) (ss1 := 87467) X (c_X12_frost v1 v2 (by omega) (by omega) (by omega) ((congrFun (F4 190 (by omega)) _).trans f_190_1) (fun i h0 h1 => (congrFun ((F4 191 (by omega)).trans rfl) i).trans (hS i h0 h1))) okX12_frost kw_7_126 ⟨kw_7_127, kw_7_128⟩ ⟨rfl, rfl⟩ ⟨Nat.le_of_ble_eq_true rfl, Nat.le_of_ble_eq_true rfl⟩ rfl (by omega) (by omega) lay_190 rfl rfl (Nat.le_of_ble_eq_true rfl) ⟨Nat.le_of_ble_eq_true rfl, Nat.le_of_ble_eq_true rfl⟩ rfl rfl dL_law_1268 rfl (fun z5 M6 P7 => ?_)
  obtain ⟨P7, F8⟩ := P7
  refine g_icmp_eq (n := 1274) (tgt := 1992) X dL_law_1271 (by decide) (by omega) (by omega) rfl (fun c9 => ?_) (fun c9 => by exfalso; omega)
  exact law_tail X hr hb (by omega) (by omega)
theorem dL_law_1276 : decode code 1276 = .ok (.aload_n 1, 1) := by decide +kernel
theorem dL_law_1277 : decode code 1277 = .ok (.aload_n 0, 1) := by decide +kernel
theorem dL_law_1278 : decode code 1278 = .ok (.iload_n 3, 1) := by decide +kernel
theorem dL_law_1279 : decode code 1279 = .ok (.iconst 1, 1) := by decide +kernel
theorem dL_law_1280 : decode code 1280 = .ok (.iadd, 1) := by decide +kernel
theorem dL_law_1281 : decode code 1281 = .ok (.iaload, 1) := by decide +kernel
theorem dL_law_1282 : decode code 1282 = .ok (.aload_n 0, 1) := by decide +kernel
theorem dL_law_1283 : decode code 1283 = .ok (.iload_n 3, 1) := by decide +kernel
theorem dL_law_1284 : decode code 1284 = .ok (.iconst 2, 1) := by decide +kernel
theorem dL_law_1285 : decode code 1285 = .ok (.iadd, 1) := by decide +kernel
theorem dL_law_1286 : decode code 1286 = .ok (.iaload, 1) := by decide +kernel
theorem dL_law_1287 : decode code 1287 = .ok (.invokevirtual 121, 3) := by decide +kernel
theorem kw_4_167 : (Jvm.Cond.methodLink "ParishUnionLaw" (121 : Nat) ({ cls := "ParishUnion", name := "heard", desc := "(II)I" } : Jvm.MethodName)) ∈ gT := gT_of (tb_4 _ (List.mem_of_getElem? (i := 167) rfl)) rfl
theorem kw_4_170 : (Jvm.Cond.code ({ cls := "ParishUnion", name := "heard", desc := "(II)I" } : Jvm.MethodName) prog_1_method_26_code (3 : Nat) (Option.some Jvm.ClassFile.FieldType.int)) ∈ gT := gT_of (tb_4 _ (List.mem_of_getElem? (i := 170) rfl)) rfl
theorem okX11_heard : gQok yX11_heard cX11_heard 3 (Option.some Jvm.ClassFile.FieldType.int) 2 := ⟨kw_4_170, kw_1_1, by decide +kernel, by decide +kernel, by decide +kernel⟩
theorem kw_4_168 : (Jvm.Cond.instanceMethod ({ cls := "ParishUnion", name := "heard", desc := "(II)I" } : Jvm.MethodName)) ∈ gT := gT_of (tb_4 _ (List.mem_of_getElem? (i := 168) rfl)) rfl
theorem kw_4_169 : (Jvm.Cond.selects "ParishUnion" ({ cls := "ParishUnion", name := "heard", desc := "(II)I" } : Jvm.MethodName) ({ cls := "ParishUnion", name := "heard", desc := "(II)I" } : Jvm.MethodName)) ∈ gT := gT_of (tb_4 _ (List.mem_of_getElem? (i := 169) rfl)) rfl
theorem dL_law_1290 : decode code 1290 = .ok (.aload_n 2, 1) := by decide +kernel
theorem dL_law_1291 : decode code 1291 = .ok (.aload_n 0, 1) := by decide +kernel
theorem dL_law_1292 : decode code 1292 = .ok (.iload_n 3, 1) := by decide +kernel
theorem dL_law_1293 : decode code 1293 = .ok (.iconst 1, 1) := by decide +kernel
theorem dL_law_1294 : decode code 1294 = .ok (.iadd, 1) := by decide +kernel
theorem dL_law_1295 : decode code 1295 = .ok (.iaload, 1) := by decide +kernel
theorem dL_law_1296 : decode code 1296 = .ok (.aload_n 0, 1) := by decide +kernel
theorem dL_law_1297 : decode code 1297 = .ok (.iload_n 3, 1) := by decide +kernel
theorem dL_law_1298 : decode code 1298 = .ok (.iconst 2, 1) := by decide +kernel
theorem dL_law_1299 : decode code 1299 = .ok (.iadd, 1) := by decide +kernel
theorem dL_law_1300 : decode code 1300 = .ok (.iaload, 1) := by decide +kernel
theorem dL_law_1301 : decode code 1301 = .ok (.invokevirtual 124, 3) := by decide +kernel
theorem kw_7_130 : (Jvm.Cond.methodLink "ParishUnionLaw" (124 : Nat) ({ cls := "ParishUnionModel", name := "heard", desc := "(II)I" } : Jvm.MethodName)) ∈ gT := gT_of (tb_7 _ (List.mem_of_getElem? (i := 130) rfl)) rfl
theorem kw_7_133 : (Jvm.Cond.code ({ cls := "ParishUnionModel", name := "heard", desc := "(II)I" } : Jvm.MethodName) prog_14_method_71_code (3 : Nat) (Option.some Jvm.ClassFile.FieldType.int)) ∈ gT := gT_of (tb_7 _ (List.mem_of_getElem? (i := 133) rfl)) rfl
theorem okX12_heard : gQok yX12_heard cX12_heard 3 (Option.some Jvm.ClassFile.FieldType.int) 2 := ⟨kw_7_133, kw_1_13, by decide +kernel, by decide +kernel, by decide +kernel⟩
theorem kw_7_131 : (Jvm.Cond.instanceMethod ({ cls := "ParishUnionModel", name := "heard", desc := "(II)I" } : Jvm.MethodName)) ∈ gT := gT_of (tb_7 _ (List.mem_of_getElem? (i := 131) rfl)) rfl
theorem kw_7_132 : (Jvm.Cond.selects "ParishUnionModel" ({ cls := "ParishUnionModel", name := "heard", desc := "(II)I" } : Jvm.MethodName) ({ cls := "ParishUnionModel", name := "heard", desc := "(II)I" } : Jvm.MethodName)) ∈ gT := gT_of (tb_7 _ (List.mem_of_getElem? (i := 132) rfl)) rfl
theorem dL_law_1304 : decode code 1304 = .ok (.if_icmp .eq 688, 3) := by decide +kernel
set_option maxRecDepth 100000 in
set_option maxHeartbeats 4000000 in
theorem law_case_24 {p : Program} {e : Env} {s : State} {m : MethodId} {below : List Frame} {meth : Method} {c : Code} {l : Launch} {D : va_G} {cA : Nat → ClassId} {b : Nat} {xs : Nat → Int32} (X : gCx p s m #[Value.ref b] meth c s.heap.size D cA "ParishUnionLaw" code 4) (hr : meth.sig.returnType = ret) (hb : b < s.heap.size ∧ va_X b 7 xs s s.heap) {M : gM} (hFr : gFr M) : G p l e room_1 s m #[Value.ref b] below meth c s.heap.size D cA 4 (lw_Z below #[Value.ref b] s) 206 87467 M 206 1276 [(3, gJ 0), (2, gA s.heap.size 190), (1, gA s.heap.size 0), (0, .ref b)] [] := by
  obtain ⟨f_0_0, f_0_1, f_0_2, f_0_3, f_0_4, f_0_5, f_0_6, f_0_7, f_0_8, f_0_9, f_1_0, f_1_1, f_1_2, f_1_3, f_1_4, f_1_5, f_1_6, f_1_7, f_1_8, f_1_9, f_1_10, f_1_11, f_1_12, f_1_13, f_1_14, f_1_15, f_2_0, f_2_1, f_5_0, f_7_0, f_9_0, f_9_1, f_9_2, f_9_3, f_9_4, f_9_5, f_15_0, f_15_1, f_15_2, f_15_3, f_15_4, f_15_5, f_15_6, f_15_7, f_15_8, f_15_9, f_23_0, f_23_1, f_26_0, f_26_1, f_26_2, f_26_3, f_87_0, f_87_1, f_87_2, f_87_3, f_87_4, f_153_0, f_153_1, f_153_2, f_153_3, f_153_4, f_159_0, f_190_0, f_190_1, f_190_2, f_190_3, f_190_4, f_190_5, f_190_6, f_190_7, f_190_8, f_190_9, f_190_10, f_190_11, f_190_12, f_190_13, f_190_14, f_190_15, f_190_16, f_190_17, f_190_18, f_190_19, f_190_20, f_190_21, f_190_22, f_190_23, rents, way, beds, frost0, rows0, rooms0, tape0, car0, hS⟩ := hFr
  obtain ⟨v0, e0, r0⟩ : ∃ z : Int, xs 0 = Int32.ofInt z ∧ -2147483648 ≤ z ∧ z ≤ 2147483647 := ⟨_, gi_of _, gi_rg _⟩
  obtain ⟨v1, e1, r1⟩ : ∃ z : Int, xs 1 = Int32.ofInt z ∧ -2147483648 ≤ z ∧ z ≤ 2147483647 := ⟨_, gi_of _, gi_rg _⟩
  obtain ⟨v2, e2, r2⟩ : ∃ z : Int, xs 2 = Int32.ofInt z ∧ -2147483648 ≤ z ∧ z ≤ 2147483647 := ⟨_, gi_of _, gi_rg _⟩
  obtain ⟨v3, e3, r3⟩ : ∃ z : Int, xs 3 = Int32.ofInt z ∧ -2147483648 ≤ z ∧ z ≤ 2147483647 := ⟨_, gi_of _, gi_rg _⟩
  obtain ⟨v4, e4, r4⟩ : ∃ z : Int, xs 4 = Int32.ofInt z ∧ -2147483648 ≤ z ∧ z ≤ 2147483647 := ⟨_, gi_of _, gi_rg _⟩
  obtain ⟨v5, e5, r5⟩ : ∃ z : Int, xs 5 = Int32.ofInt z ∧ -2147483648 ≤ z ∧ z ≤ 2147483647 := ⟨_, gi_of _, gi_rg _⟩
  obtain ⟨v6, e6, r6⟩ : ∃ z : Int, xs 6 = Int32.ofInt z ∧ -2147483648 ≤ z ∧ z ≤ 2147483647 := ⟨_, gi_of _, gi_rg _⟩
  refine g_aload_n (n := 1277) X 2 dL_law_1276 rfl rfl rfl ?_
  refine g_aload_n (n := 1278) X 3 dL_law_1277 rfl rfl rfl ?_
  refine g_iload_n (n := 1279) X 0 dL_law_1278 rfl rfl rfl ?_
  refine g_iconst (n := 1280) X dL_law_1279 rfl ?_
  refine g_iadd (n := 1281) (z := 1) X dL_law_1280 rfl rfl ?_
  refine g_scrld (n := 1282) (z := v1) X hb (by omega) (by omega) (by omega) dL_law_1281 rfl e1 ?_
  refine g_aload_n (n := 1283) X 3 dL_law_1282 rfl rfl rfl ?_
  refine g_iload_n (n := 1284) X 0 dL_law_1283 rfl rfl rfl ?_
  refine g_iconst (n := 1285) X dL_law_1284 rfl ?_
  refine g_iadd (n := 1286) (z := 2) X dL_law_1285 rfl rfl ?_
  refine g_scrld (n := 1287) (z := v2) X hb (by omega) (by omega) (by omega) dL_law_1286 rfl e2 ?_
  refine g_callVi (n := 1290) (As := [gJ v1, gJ v2]) (rest := []) (cs1 := 206) (ss1 := 87467) X (c_X11_heard v1 v2 (by omega) (by omega) (by omega) f_0_0 f_1_0 f_2_1 f_1_15 f_1_7 f_23_0 way) okX11_heard kw_4_167 ⟨kw_4_168, kw_4_169⟩ ⟨rfl, rfl⟩ ⟨Nat.le_of_ble_eq_true rfl, Nat.le_of_ble_eq_true rfl⟩ rfl (by omega) (by omega) lay_0 rfl rfl (Nat.le_of_ble_eq_true rfl) ⟨Nat.le_of_ble_eq_true rfl, Nat.le_of_ble_eq_true rfl⟩ rfl rfl dL_law_1287 rfl (fun z1 M2 P3 => ?_)
  obtain ⟨P3, F4⟩ := P3
  refine g_aload_n (n := 1291) X 1 dL_law_1290 rfl rfl rfl ?_
  refine g_aload_n (n := 1292) X 3 dL_law_1291 rfl rfl rfl ?_
  refine g_iload_n (n := 1293) X 0 dL_law_1292 rfl rfl rfl ?_
  refine g_iconst (n := 1294) X dL_law_1293 rfl ?_
  refine g_iadd (n := 1295) (z := 1) X dL_law_1294 rfl rfl ?_
  refine g_scrld (n := 1296) (z := v1) X hb (by omega) (by omega) (by omega) dL_law_1295 rfl e1 ?_
  refine g_aload_n (n := 1297) X 3 dL_law_1296 rfl rfl rfl ?_
  refine g_iload_n (n := 1298) X 0 dL_law_1297 rfl rfl rfl ?_
  refine g_iconst (n := 1299) X dL_law_1298 rfl ?_
  refine g_iadd (n := 1300) (z := 2) X dL_law_1299 rfl rfl ?_
  refine g_scrld (n := 1301) (z := v2) X hb (by omega) (by omega) (by omega) dL_law_1300 rfl e2 ?_
  refine g_callVi (n := 1304) (As := [gJ v1, gJ v2]) (rest := [gJ z1]) (cs1 := 206) (ss1 := 87467) X (c_X12_heard v1 v2 (by omega) (by omega) (by omega) ((congrFun (F4 190) _).trans f_190_1) (fun i h0 h1 => (congrFun ((F4 191).trans rfl) i).trans (hS i h0 h1))) okX12_heard kw_7_130 ⟨kw_7_131, kw_7_132⟩ ⟨rfl, rfl⟩ ⟨Nat.le_of_ble_eq_true rfl, Nat.le_of_ble_eq_true rfl⟩ rfl (by omega) (by omega) lay_190 rfl rfl (Nat.le_of_ble_eq_true rfl) ⟨Nat.le_of_ble_eq_true rfl, Nat.le_of_ble_eq_true rfl⟩ rfl rfl dL_law_1301 rfl (fun z5 M6 P7 => ?_)
  obtain ⟨P7, F8⟩ := P7
  refine g_icmp_eq (n := 1307) (tgt := 1992) X dL_law_1304 (by decide) (by omega) (by omega) rfl (fun c9 => ?_) (fun c9 => by exfalso; omega)
  exact law_tail X hr hb (by omega) (by omega)
theorem dL_law_1309 : decode code 1309 = .ok (.aload_n 1, 1) := by decide +kernel
theorem dL_law_1310 : decode code 1310 = .ok (.aload_n 0, 1) := by decide +kernel
theorem dL_law_1311 : decode code 1311 = .ok (.iload_n 3, 1) := by decide +kernel
theorem dL_law_1312 : decode code 1312 = .ok (.iconst 1, 1) := by decide +kernel
theorem dL_law_1313 : decode code 1313 = .ok (.iadd, 1) := by decide +kernel
theorem dL_law_1314 : decode code 1314 = .ok (.iaload, 1) := by decide +kernel
theorem dL_law_1315 : decode code 1315 = .ok (.invokevirtual 125, 3) := by decide +kernel
theorem kw_4_181 : (Jvm.Cond.methodLink "ParishUnionLaw" (125 : Nat) ({ cls := "ParishUnion", name := "week", desc := "(I)I" } : Jvm.MethodName)) ∈ gT := gT_of (tb_4 _ (List.mem_of_getElem? (i := 181) rfl)) rfl
theorem kw_4_184 : (Jvm.Cond.code ({ cls := "ParishUnion", name := "week", desc := "(I)I" } : Jvm.MethodName) prog_1_method_27_code (2 : Nat) (Option.some Jvm.ClassFile.FieldType.int)) ∈ gT := gT_of (tb_4 _ (List.mem_of_getElem? (i := 184) rfl)) rfl
theorem okX11_week : gQok yX11_week cX11_week 2 (Option.some Jvm.ClassFile.FieldType.int) 1 := ⟨kw_4_184, kw_1_1, by decide +kernel, by decide +kernel, by decide +kernel⟩
theorem kw_4_182 : (Jvm.Cond.instanceMethod ({ cls := "ParishUnion", name := "week", desc := "(I)I" } : Jvm.MethodName)) ∈ gT := gT_of (tb_4 _ (List.mem_of_getElem? (i := 182) rfl)) rfl
theorem kw_4_183 : (Jvm.Cond.selects "ParishUnion" ({ cls := "ParishUnion", name := "week", desc := "(I)I" } : Jvm.MethodName) ({ cls := "ParishUnion", name := "week", desc := "(I)I" } : Jvm.MethodName)) ∈ gT := gT_of (tb_4 _ (List.mem_of_getElem? (i := 183) rfl)) rfl
theorem dL_law_1318 : decode code 1318 = .ok (.aload_n 2, 1) := by decide +kernel
theorem dL_law_1319 : decode code 1319 = .ok (.aload_n 0, 1) := by decide +kernel
theorem dL_law_1320 : decode code 1320 = .ok (.iload_n 3, 1) := by decide +kernel
theorem dL_law_1321 : decode code 1321 = .ok (.iconst 1, 1) := by decide +kernel
theorem dL_law_1322 : decode code 1322 = .ok (.iadd, 1) := by decide +kernel
theorem dL_law_1323 : decode code 1323 = .ok (.iaload, 1) := by decide +kernel
theorem dL_law_1324 : decode code 1324 = .ok (.invokevirtual 128, 3) := by decide +kernel
theorem kw_7_138 : (Jvm.Cond.methodLink "ParishUnionLaw" (128 : Nat) ({ cls := "ParishUnionModel", name := "week", desc := "(I)I" } : Jvm.MethodName)) ∈ gT := gT_of (tb_7 _ (List.mem_of_getElem? (i := 138) rfl)) rfl
theorem kw_7_141 : (Jvm.Cond.code ({ cls := "ParishUnionModel", name := "week", desc := "(I)I" } : Jvm.MethodName) prog_14_method_78_code (3 : Nat) (Option.some Jvm.ClassFile.FieldType.int)) ∈ gT := gT_of (tb_7 _ (List.mem_of_getElem? (i := 141) rfl)) rfl
theorem okX12_week : gQok yX12_week cX12_week 3 (Option.some Jvm.ClassFile.FieldType.int) 1 := ⟨kw_7_141, kw_1_13, by decide +kernel, by decide +kernel, by decide +kernel⟩
theorem kw_7_139 : (Jvm.Cond.instanceMethod ({ cls := "ParishUnionModel", name := "week", desc := "(I)I" } : Jvm.MethodName)) ∈ gT := gT_of (tb_7 _ (List.mem_of_getElem? (i := 139) rfl)) rfl
theorem kw_7_140 : (Jvm.Cond.selects "ParishUnionModel" ({ cls := "ParishUnionModel", name := "week", desc := "(I)I" } : Jvm.MethodName) ({ cls := "ParishUnionModel", name := "week", desc := "(I)I" } : Jvm.MethodName)) ∈ gT := gT_of (tb_7 _ (List.mem_of_getElem? (i := 140) rfl)) rfl
theorem dL_law_1327 : decode code 1327 = .ok (.if_icmp .eq 665, 3) := by decide +kernel
set_option maxRecDepth 100000 in
set_option maxHeartbeats 4000000 in
theorem law_case_25 {p : Program} {e : Env} {s : State} {m : MethodId} {below : List Frame} {meth : Method} {c : Code} {l : Launch} {D : va_G} {cA : Nat → ClassId} {b : Nat} {xs : Nat → Int32} (X : gCx p s m #[Value.ref b] meth c s.heap.size D cA "ParishUnionLaw" code 4) (hr : meth.sig.returnType = ret) (hb : b < s.heap.size ∧ va_X b 7 xs s s.heap) {M : gM} (hFr : gFr M) : G p l e room_1 s m #[Value.ref b] below meth c s.heap.size D cA 4 (lw_Z below #[Value.ref b] s) 206 87467 M 206 1309 [(3, gJ 0), (2, gA s.heap.size 190), (1, gA s.heap.size 0), (0, .ref b)] [] := by
  obtain ⟨f_0_0, f_0_1, f_0_2, f_0_3, f_0_4, f_0_5, f_0_6, f_0_7, f_0_8, f_0_9, f_1_0, f_1_1, f_1_2, f_1_3, f_1_4, f_1_5, f_1_6, f_1_7, f_1_8, f_1_9, f_1_10, f_1_11, f_1_12, f_1_13, f_1_14, f_1_15, f_2_0, f_2_1, f_5_0, f_7_0, f_9_0, f_9_1, f_9_2, f_9_3, f_9_4, f_9_5, f_15_0, f_15_1, f_15_2, f_15_3, f_15_4, f_15_5, f_15_6, f_15_7, f_15_8, f_15_9, f_23_0, f_23_1, f_26_0, f_26_1, f_26_2, f_26_3, f_87_0, f_87_1, f_87_2, f_87_3, f_87_4, f_153_0, f_153_1, f_153_2, f_153_3, f_153_4, f_159_0, f_190_0, f_190_1, f_190_2, f_190_3, f_190_4, f_190_5, f_190_6, f_190_7, f_190_8, f_190_9, f_190_10, f_190_11, f_190_12, f_190_13, f_190_14, f_190_15, f_190_16, f_190_17, f_190_18, f_190_19, f_190_20, f_190_21, f_190_22, f_190_23, rents, way, beds, frost0, rows0, rooms0, tape0, car0, hS⟩ := hFr
  obtain ⟨v0, e0, r0⟩ : ∃ z : Int, xs 0 = Int32.ofInt z ∧ -2147483648 ≤ z ∧ z ≤ 2147483647 := ⟨_, gi_of _, gi_rg _⟩
  obtain ⟨v1, e1, r1⟩ : ∃ z : Int, xs 1 = Int32.ofInt z ∧ -2147483648 ≤ z ∧ z ≤ 2147483647 := ⟨_, gi_of _, gi_rg _⟩
  obtain ⟨v2, e2, r2⟩ : ∃ z : Int, xs 2 = Int32.ofInt z ∧ -2147483648 ≤ z ∧ z ≤ 2147483647 := ⟨_, gi_of _, gi_rg _⟩
  obtain ⟨v3, e3, r3⟩ : ∃ z : Int, xs 3 = Int32.ofInt z ∧ -2147483648 ≤ z ∧ z ≤ 2147483647 := ⟨_, gi_of _, gi_rg _⟩
  obtain ⟨v4, e4, r4⟩ : ∃ z : Int, xs 4 = Int32.ofInt z ∧ -2147483648 ≤ z ∧ z ≤ 2147483647 := ⟨_, gi_of _, gi_rg _⟩
  obtain ⟨v5, e5, r5⟩ : ∃ z : Int, xs 5 = Int32.ofInt z ∧ -2147483648 ≤ z ∧ z ≤ 2147483647 := ⟨_, gi_of _, gi_rg _⟩
  obtain ⟨v6, e6, r6⟩ : ∃ z : Int, xs 6 = Int32.ofInt z ∧ -2147483648 ≤ z ∧ z ≤ 2147483647 := ⟨_, gi_of _, gi_rg _⟩
  refine g_aload_n (n := 1310) X 2 dL_law_1309 rfl rfl rfl ?_
  refine g_aload_n (n := 1311) X 3 dL_law_1310 rfl rfl rfl ?_
  refine g_iload_n (n := 1312) X 0 dL_law_1311 rfl rfl rfl ?_
  refine g_iconst (n := 1313) X dL_law_1312 rfl ?_
  refine g_iadd (n := 1314) (z := 1) X dL_law_1313 rfl rfl ?_
  refine g_scrld (n := 1315) (z := v1) X hb (by omega) (by omega) (by omega) dL_law_1314 rfl e1 ?_
  refine g_callVi (n := 1318) (As := [gJ v1]) (rest := []) (cs1 := 206) (ss1 := 87467) X (c_X11_week v1 (by omega) (by omega) f_0_0 f_0_1 f_1_12 f_1_11 f_1_15 f_1_10 f_1_13 f_1_7 f_1_6 f_15_1 f_23_0 f_23_1 frost0) okX11_week kw_4_181 ⟨kw_4_182, kw_4_183⟩ ⟨rfl, rfl⟩ ⟨Nat.le_of_ble_eq_true rfl, Nat.le_of_ble_eq_true rfl⟩ rfl (by omega) (by omega) lay_0 rfl rfl (Nat.le_of_ble_eq_true rfl) ⟨Nat.le_of_ble_eq_true rfl, Nat.le_of_ble_eq_true rfl⟩ rfl rfl dL_law_1315 rfl (fun z1 M2 P3 => ?_)
  obtain ⟨P3, F4⟩ := P3
  refine g_aload_n (n := 1319) X 1 dL_law_1318 rfl rfl rfl ?_
  refine g_aload_n (n := 1320) X 3 dL_law_1319 rfl rfl rfl ?_
  refine g_iload_n (n := 1321) X 0 dL_law_1320 rfl rfl rfl ?_
  refine g_iconst (n := 1322) X dL_law_1321 rfl ?_
  refine g_iadd (n := 1323) (z := 1) X dL_law_1322 rfl rfl ?_
  refine g_scrld (n := 1324) (z := v1) X hb (by omega) (by omega) (by omega) dL_law_1323 rfl e1 ?_
  refine g_callVi (n := 1327) (As := [gJ v1]) (rest := [gJ z1]) (cs1 := 206) (ss1 := 87467) X (c_X12_week v1 (by omega) (by omega) ((congrFun (F4 190 (by omega) (by omega) (by omega) (by omega)) _).trans f_190_1) ((congrFun (F4 191 (by omega) (by omega) (by omega) (by omega)) _).trans ((hS 0 (by omega) (by omega)).trans (by decide))) ((congrFun (F4 191 (by omega) (by omega) (by omega) (by omega)) _).trans ((hS 1 (by omega) (by omega)).trans (by decide))) ((congrFun (F4 191 (by omega) (by omega) (by omega) (by omega)) _).trans ((hS 4 (by omega) (by omega)).trans (by decide)))) okX12_week kw_7_138 ⟨kw_7_139, kw_7_140⟩ ⟨rfl, rfl⟩ ⟨Nat.le_of_ble_eq_true rfl, Nat.le_of_ble_eq_true rfl⟩ rfl (by omega) (by omega) lay_190 rfl rfl (Nat.le_of_ble_eq_true rfl) ⟨Nat.le_of_ble_eq_true rfl, Nat.le_of_ble_eq_true rfl⟩ rfl rfl dL_law_1324 rfl (fun z5 M6 P7 => ?_)
  obtain ⟨P7, F8⟩ := P7
  refine g_icmp_eq (n := 1330) (tgt := 1992) X dL_law_1327 (by decide) (by omega) (by omega) rfl (fun c9 => ?_) (fun c9 => by exfalso; omega)
  exact law_tail X hr hb (by omega) (by omega)
theorem dL_law_1332 : decode code 1332 = .ok (.aload_n 1, 1) := by decide +kernel
theorem dL_law_1333 : decode code 1333 = .ok (.aload_n 0, 1) := by decide +kernel
theorem dL_law_1334 : decode code 1334 = .ok (.iload_n 3, 1) := by decide +kernel
theorem dL_law_1335 : decode code 1335 = .ok (.iconst 1, 1) := by decide +kernel
theorem dL_law_1336 : decode code 1336 = .ok (.iadd, 1) := by decide +kernel
theorem dL_law_1337 : decode code 1337 = .ok (.iaload, 1) := by decide +kernel
theorem dL_law_1338 : decode code 1338 = .ok (.aload_n 0, 1) := by decide +kernel
theorem dL_law_1339 : decode code 1339 = .ok (.iload_n 3, 1) := by decide +kernel
theorem dL_law_1340 : decode code 1340 = .ok (.iconst 2, 1) := by decide +kernel
theorem dL_law_1341 : decode code 1341 = .ok (.iadd, 1) := by decide +kernel
theorem dL_law_1342 : decode code 1342 = .ok (.iaload, 1) := by decide +kernel
theorem dL_law_1343 : decode code 1343 = .ok (.invokevirtual 129, 3) := by decide +kernel
theorem kw_5_7 : (Jvm.Cond.methodLink "ParishUnionLaw" (129 : Nat) ({ cls := "ParishUnion", name := "gone", desc := "(II)I" } : Jvm.MethodName)) ∈ gT := gT_of (tb_5 _ (List.mem_of_getElem? (i := 7) rfl)) rfl
theorem kw_5_10 : (Jvm.Cond.code ({ cls := "ParishUnion", name := "gone", desc := "(II)I" } : Jvm.MethodName) prog_1_method_28_code (3 : Nat) (Option.some Jvm.ClassFile.FieldType.int)) ∈ gT := gT_of (tb_5 _ (List.mem_of_getElem? (i := 10) rfl)) rfl
theorem okX11_gone : gQok yX11_gone cX11_gone 3 (Option.some Jvm.ClassFile.FieldType.int) 2 := ⟨kw_5_10, kw_1_1, by decide +kernel, by decide +kernel, by decide +kernel⟩
theorem kw_5_8 : (Jvm.Cond.instanceMethod ({ cls := "ParishUnion", name := "gone", desc := "(II)I" } : Jvm.MethodName)) ∈ gT := gT_of (tb_5 _ (List.mem_of_getElem? (i := 8) rfl)) rfl
theorem kw_5_9 : (Jvm.Cond.selects "ParishUnion" ({ cls := "ParishUnion", name := "gone", desc := "(II)I" } : Jvm.MethodName) ({ cls := "ParishUnion", name := "gone", desc := "(II)I" } : Jvm.MethodName)) ∈ gT := gT_of (tb_5 _ (List.mem_of_getElem? (i := 9) rfl)) rfl
theorem dL_law_1346 : decode code 1346 = .ok (.aload_n 2, 1) := by decide +kernel
theorem dL_law_1347 : decode code 1347 = .ok (.aload_n 0, 1) := by decide +kernel
theorem dL_law_1348 : decode code 1348 = .ok (.iload_n 3, 1) := by decide +kernel
theorem dL_law_1349 : decode code 1349 = .ok (.iconst 1, 1) := by decide +kernel
theorem dL_law_1350 : decode code 1350 = .ok (.iadd, 1) := by decide +kernel
theorem dL_law_1351 : decode code 1351 = .ok (.iaload, 1) := by decide +kernel
theorem dL_law_1352 : decode code 1352 = .ok (.aload_n 0, 1) := by decide +kernel
theorem dL_law_1353 : decode code 1353 = .ok (.iload_n 3, 1) := by decide +kernel
theorem dL_law_1354 : decode code 1354 = .ok (.iconst 2, 1) := by decide +kernel
theorem dL_law_1355 : decode code 1355 = .ok (.iadd, 1) := by decide +kernel
theorem dL_law_1356 : decode code 1356 = .ok (.iaload, 1) := by decide +kernel
theorem dL_law_1357 : decode code 1357 = .ok (.invokevirtual 132, 3) := by decide +kernel
theorem kw_7_166 : (Jvm.Cond.methodLink "ParishUnionLaw" (132 : Nat) ({ cls := "ParishUnionModel", name := "gone", desc := "(II)I" } : Jvm.MethodName)) ∈ gT := gT_of (tb_7 _ (List.mem_of_getElem? (i := 166) rfl)) rfl
theorem kw_7_169 : (Jvm.Cond.code ({ cls := "ParishUnionModel", name := "gone", desc := "(II)I" } : Jvm.MethodName) prog_14_method_80_code (3 : Nat) (Option.some Jvm.ClassFile.FieldType.int)) ∈ gT := gT_of (tb_7 _ (List.mem_of_getElem? (i := 169) rfl)) rfl
theorem okX12_gone : gQok yX12_gone cX12_gone 3 (Option.some Jvm.ClassFile.FieldType.int) 2 := ⟨kw_7_169, kw_1_13, by decide +kernel, by decide +kernel, by decide +kernel⟩
theorem kw_7_167 : (Jvm.Cond.instanceMethod ({ cls := "ParishUnionModel", name := "gone", desc := "(II)I" } : Jvm.MethodName)) ∈ gT := gT_of (tb_7 _ (List.mem_of_getElem? (i := 167) rfl)) rfl
theorem kw_7_168 : (Jvm.Cond.selects "ParishUnionModel" ({ cls := "ParishUnionModel", name := "gone", desc := "(II)I" } : Jvm.MethodName) ({ cls := "ParishUnionModel", name := "gone", desc := "(II)I" } : Jvm.MethodName)) ∈ gT := gT_of (tb_7 _ (List.mem_of_getElem? (i := 168) rfl)) rfl
theorem dL_law_1360 : decode code 1360 = .ok (.if_icmp .eq 632, 3) := by decide +kernel
set_option maxRecDepth 100000 in
set_option maxHeartbeats 4000000 in
theorem law_case_26 {p : Program} {e : Env} {s : State} {m : MethodId} {below : List Frame} {meth : Method} {c : Code} {l : Launch} {D : va_G} {cA : Nat → ClassId} {b : Nat} {xs : Nat → Int32} (X : gCx p s m #[Value.ref b] meth c s.heap.size D cA "ParishUnionLaw" code 4) (hr : meth.sig.returnType = ret) (hb : b < s.heap.size ∧ va_X b 7 xs s s.heap) {M : gM} (hFr : gFr M) : G p l e room_1 s m #[Value.ref b] below meth c s.heap.size D cA 4 (lw_Z below #[Value.ref b] s) 206 87467 M 206 1332 [(3, gJ 0), (2, gA s.heap.size 190), (1, gA s.heap.size 0), (0, .ref b)] [] := by
  obtain ⟨f_0_0, f_0_1, f_0_2, f_0_3, f_0_4, f_0_5, f_0_6, f_0_7, f_0_8, f_0_9, f_1_0, f_1_1, f_1_2, f_1_3, f_1_4, f_1_5, f_1_6, f_1_7, f_1_8, f_1_9, f_1_10, f_1_11, f_1_12, f_1_13, f_1_14, f_1_15, f_2_0, f_2_1, f_5_0, f_7_0, f_9_0, f_9_1, f_9_2, f_9_3, f_9_4, f_9_5, f_15_0, f_15_1, f_15_2, f_15_3, f_15_4, f_15_5, f_15_6, f_15_7, f_15_8, f_15_9, f_23_0, f_23_1, f_26_0, f_26_1, f_26_2, f_26_3, f_87_0, f_87_1, f_87_2, f_87_3, f_87_4, f_153_0, f_153_1, f_153_2, f_153_3, f_153_4, f_159_0, f_190_0, f_190_1, f_190_2, f_190_3, f_190_4, f_190_5, f_190_6, f_190_7, f_190_8, f_190_9, f_190_10, f_190_11, f_190_12, f_190_13, f_190_14, f_190_15, f_190_16, f_190_17, f_190_18, f_190_19, f_190_20, f_190_21, f_190_22, f_190_23, rents, way, beds, frost0, rows0, rooms0, tape0, car0, hS⟩ := hFr
  obtain ⟨v0, e0, r0⟩ : ∃ z : Int, xs 0 = Int32.ofInt z ∧ -2147483648 ≤ z ∧ z ≤ 2147483647 := ⟨_, gi_of _, gi_rg _⟩
  obtain ⟨v1, e1, r1⟩ : ∃ z : Int, xs 1 = Int32.ofInt z ∧ -2147483648 ≤ z ∧ z ≤ 2147483647 := ⟨_, gi_of _, gi_rg _⟩
  obtain ⟨v2, e2, r2⟩ : ∃ z : Int, xs 2 = Int32.ofInt z ∧ -2147483648 ≤ z ∧ z ≤ 2147483647 := ⟨_, gi_of _, gi_rg _⟩
  obtain ⟨v3, e3, r3⟩ : ∃ z : Int, xs 3 = Int32.ofInt z ∧ -2147483648 ≤ z ∧ z ≤ 2147483647 := ⟨_, gi_of _, gi_rg _⟩
  obtain ⟨v4, e4, r4⟩ : ∃ z : Int, xs 4 = Int32.ofInt z ∧ -2147483648 ≤ z ∧ z ≤ 2147483647 := ⟨_, gi_of _, gi_rg _⟩
  obtain ⟨v5, e5, r5⟩ : ∃ z : Int, xs 5 = Int32.ofInt z ∧ -2147483648 ≤ z ∧ z ≤ 2147483647 := ⟨_, gi_of _, gi_rg _⟩
  obtain ⟨v6, e6, r6⟩ : ∃ z : Int, xs 6 = Int32.ofInt z ∧ -2147483648 ≤ z ∧ z ≤ 2147483647 := ⟨_, gi_of _, gi_rg _⟩
  refine g_aload_n (n := 1333) X 2 dL_law_1332 rfl rfl rfl ?_
  refine g_aload_n (n := 1334) X 3 dL_law_1333 rfl rfl rfl ?_
  refine g_iload_n (n := 1335) X 0 dL_law_1334 rfl rfl rfl ?_
  refine g_iconst (n := 1336) X dL_law_1335 rfl ?_
  refine g_iadd (n := 1337) (z := 1) X dL_law_1336 rfl rfl ?_
  refine g_scrld (n := 1338) (z := v1) X hb (by omega) (by omega) (by omega) dL_law_1337 rfl e1 ?_
  refine g_aload_n (n := 1339) X 3 dL_law_1338 rfl rfl rfl ?_
  refine g_iload_n (n := 1340) X 0 dL_law_1339 rfl rfl rfl ?_
  refine g_iconst (n := 1341) X dL_law_1340 rfl ?_
  refine g_iadd (n := 1342) (z := 2) X dL_law_1341 rfl rfl ?_
  refine g_scrld (n := 1343) (z := v2) X hb (by omega) (by omega) (by omega) dL_law_1342 rfl e2 ?_
  refine g_callVi (n := 1346) (As := [gJ v1, gJ v2]) (rest := []) (cs1 := 206) (ss1 := 87467) X (c_X11_gone v1 v2 (by omega) (by omega) (by omega) f_0_0 f_1_15) okX11_gone kw_5_7 ⟨kw_5_8, kw_5_9⟩ ⟨rfl, rfl⟩ ⟨Nat.le_of_ble_eq_true rfl, Nat.le_of_ble_eq_true rfl⟩ rfl (by omega) (by omega) lay_0 rfl rfl (Nat.le_of_ble_eq_true rfl) ⟨Nat.le_of_ble_eq_true rfl, Nat.le_of_ble_eq_true rfl⟩ rfl rfl dL_law_1343 rfl (fun z1 M2 P3 => ?_)
  obtain ⟨P3, F4⟩ := P3
  refine g_aload_n (n := 1347) X 1 dL_law_1346 rfl rfl rfl ?_
  refine g_aload_n (n := 1348) X 3 dL_law_1347 rfl rfl rfl ?_
  refine g_iload_n (n := 1349) X 0 dL_law_1348 rfl rfl rfl ?_
  refine g_iconst (n := 1350) X dL_law_1349 rfl ?_
  refine g_iadd (n := 1351) (z := 1) X dL_law_1350 rfl rfl ?_
  refine g_scrld (n := 1352) (z := v1) X hb (by omega) (by omega) (by omega) dL_law_1351 rfl e1 ?_
  refine g_aload_n (n := 1353) X 3 dL_law_1352 rfl rfl rfl ?_
  refine g_iload_n (n := 1354) X 0 dL_law_1353 rfl rfl rfl ?_
  refine g_iconst (n := 1355) X dL_law_1354 rfl ?_
  refine g_iadd (n := 1356) (z := 2) X dL_law_1355 rfl rfl ?_
  refine g_scrld (n := 1357) (z := v2) X hb (by omega) (by omega) (by omega) dL_law_1356 rfl e2 ?_
  refine g_callVi (n := 1360) (As := [gJ v1, gJ v2]) (rest := [gJ z1]) (cs1 := 206) (ss1 := 87467) X (c_X12_gone v1 v2 (by omega) (by omega) (by omega) ((congrFun (F4 190) _).trans f_190_1) ((congrFun (F4 191) _).trans ((hS 0 (by omega) (by omega)).trans (by decide)))) okX12_gone kw_7_166 ⟨kw_7_167, kw_7_168⟩ ⟨rfl, rfl⟩ ⟨Nat.le_of_ble_eq_true rfl, Nat.le_of_ble_eq_true rfl⟩ rfl (by omega) (by omega) lay_190 rfl rfl (Nat.le_of_ble_eq_true rfl) ⟨Nat.le_of_ble_eq_true rfl, Nat.le_of_ble_eq_true rfl⟩ rfl rfl dL_law_1357 rfl (fun z5 M6 P7 => ?_)
  obtain ⟨P7, F8⟩ := P7
  refine g_icmp_eq (n := 1363) (tgt := 1992) X dL_law_1360 (by decide) (by omega) (by omega) rfl (fun c9 => ?_) (fun c9 => by exfalso; omega)
  exact law_tail X hr hb (by omega) (by omega)
theorem dL_law_1365 : decode code 1365 = .ok (.aload_n 1, 1) := by decide +kernel
theorem dL_law_1366 : decode code 1366 = .ok (.aload_n 0, 1) := by decide +kernel
theorem dL_law_1367 : decode code 1367 = .ok (.iload_n 3, 1) := by decide +kernel
theorem dL_law_1368 : decode code 1368 = .ok (.iconst 1, 1) := by decide +kernel
theorem dL_law_1369 : decode code 1369 = .ok (.iadd, 1) := by decide +kernel
theorem dL_law_1370 : decode code 1370 = .ok (.iaload, 1) := by decide +kernel
theorem dL_law_1371 : decode code 1371 = .ok (.aload_n 0, 1) := by decide +kernel
theorem dL_law_1372 : decode code 1372 = .ok (.iload_n 3, 1) := by decide +kernel
theorem dL_law_1373 : decode code 1373 = .ok (.iconst 2, 1) := by decide +kernel
theorem dL_law_1374 : decode code 1374 = .ok (.iadd, 1) := by decide +kernel
theorem dL_law_1375 : decode code 1375 = .ok (.iaload, 1) := by decide +kernel
theorem dL_law_1376 : decode code 1376 = .ok (.aload_n 0, 1) := by decide +kernel
theorem dL_law_1377 : decode code 1377 = .ok (.iload_n 3, 1) := by decide +kernel
theorem dL_law_1378 : decode code 1378 = .ok (.iconst 3, 1) := by decide +kernel
theorem dL_law_1379 : decode code 1379 = .ok (.iadd, 1) := by decide +kernel
theorem dL_law_1380 : decode code 1380 = .ok (.iaload, 1) := by decide +kernel
theorem dL_law_1381 : decode code 1381 = .ok (.invokevirtual 133, 3) := by decide +kernel
theorem kw_5_20 : (Jvm.Cond.methodLink "ParishUnionLaw" (133 : Nat) ({ cls := "ParishUnion", name := "was", desc := "(III)I" } : Jvm.MethodName)) ∈ gT := gT_of (tb_5 _ (List.mem_of_getElem? (i := 20) rfl)) rfl
theorem kw_5_23 : (Jvm.Cond.code ({ cls := "ParishUnion", name := "was", desc := "(III)I" } : Jvm.MethodName) prog_1_method_29_code (5 : Nat) (Option.some Jvm.ClassFile.FieldType.int)) ∈ gT := gT_of (tb_5 _ (List.mem_of_getElem? (i := 23) rfl)) rfl
theorem okX11_was : gQok yX11_was cX11_was 5 (Option.some Jvm.ClassFile.FieldType.int) 3 := ⟨kw_5_23, kw_1_1, by decide +kernel, by decide +kernel, by decide +kernel⟩
theorem kw_5_21 : (Jvm.Cond.instanceMethod ({ cls := "ParishUnion", name := "was", desc := "(III)I" } : Jvm.MethodName)) ∈ gT := gT_of (tb_5 _ (List.mem_of_getElem? (i := 21) rfl)) rfl
theorem kw_5_22 : (Jvm.Cond.selects "ParishUnion" ({ cls := "ParishUnion", name := "was", desc := "(III)I" } : Jvm.MethodName) ({ cls := "ParishUnion", name := "was", desc := "(III)I" } : Jvm.MethodName)) ∈ gT := gT_of (tb_5 _ (List.mem_of_getElem? (i := 22) rfl)) rfl
theorem dL_law_1384 : decode code 1384 = .ok (.aload_n 2, 1) := by decide +kernel
theorem dL_law_1385 : decode code 1385 = .ok (.aload_n 0, 1) := by decide +kernel
theorem dL_law_1386 : decode code 1386 = .ok (.iload_n 3, 1) := by decide +kernel
theorem dL_law_1387 : decode code 1387 = .ok (.iconst 1, 1) := by decide +kernel
theorem dL_law_1388 : decode code 1388 = .ok (.iadd, 1) := by decide +kernel
theorem dL_law_1389 : decode code 1389 = .ok (.iaload, 1) := by decide +kernel
theorem dL_law_1390 : decode code 1390 = .ok (.aload_n 0, 1) := by decide +kernel
theorem dL_law_1391 : decode code 1391 = .ok (.iload_n 3, 1) := by decide +kernel
theorem dL_law_1392 : decode code 1392 = .ok (.iconst 2, 1) := by decide +kernel
theorem dL_law_1393 : decode code 1393 = .ok (.iadd, 1) := by decide +kernel
theorem dL_law_1394 : decode code 1394 = .ok (.iaload, 1) := by decide +kernel
theorem dL_law_1395 : decode code 1395 = .ok (.aload_n 0, 1) := by decide +kernel
theorem dL_law_1396 : decode code 1396 = .ok (.iload_n 3, 1) := by decide +kernel
theorem dL_law_1397 : decode code 1397 = .ok (.iconst 3, 1) := by decide +kernel
theorem dL_law_1398 : decode code 1398 = .ok (.iadd, 1) := by decide +kernel
theorem dL_law_1399 : decode code 1399 = .ok (.iaload, 1) := by decide +kernel
theorem dL_law_1400 : decode code 1400 = .ok (.invokevirtual 136, 3) := by decide +kernel
theorem kw_7_178 : (Jvm.Cond.methodLink "ParishUnionLaw" (136 : Nat) ({ cls := "ParishUnionModel", name := "was", desc := "(III)I" } : Jvm.MethodName)) ∈ gT := gT_of (tb_7 _ (List.mem_of_getElem? (i := 178) rfl)) rfl
theorem kw_7_181 : (Jvm.Cond.code ({ cls := "ParishUnionModel", name := "was", desc := "(III)I" } : Jvm.MethodName) prog_14_method_81_code (4 : Nat) (Option.some Jvm.ClassFile.FieldType.int)) ∈ gT := gT_of (tb_7 _ (List.mem_of_getElem? (i := 181) rfl)) rfl
theorem okX12_was : gQok yX12_was cX12_was 4 (Option.some Jvm.ClassFile.FieldType.int) 3 := ⟨kw_7_181, kw_1_13, by decide +kernel, by decide +kernel, by decide +kernel⟩
theorem kw_7_179 : (Jvm.Cond.instanceMethod ({ cls := "ParishUnionModel", name := "was", desc := "(III)I" } : Jvm.MethodName)) ∈ gT := gT_of (tb_7 _ (List.mem_of_getElem? (i := 179) rfl)) rfl
theorem kw_7_180 : (Jvm.Cond.selects "ParishUnionModel" ({ cls := "ParishUnionModel", name := "was", desc := "(III)I" } : Jvm.MethodName) ({ cls := "ParishUnionModel", name := "was", desc := "(III)I" } : Jvm.MethodName)) ∈ gT := gT_of (tb_7 _ (List.mem_of_getElem? (i := 180) rfl)) rfl
theorem dL_law_1403 : decode code 1403 = .ok (.if_icmp .eq 589, 3) := by decide +kernel
set_option maxRecDepth 100000 in
set_option maxHeartbeats 4000000 in
theorem law_case_27 {p : Program} {e : Env} {s : State} {m : MethodId} {below : List Frame} {meth : Method} {c : Code} {l : Launch} {D : va_G} {cA : Nat → ClassId} {b : Nat} {xs : Nat → Int32} (X : gCx p s m #[Value.ref b] meth c s.heap.size D cA "ParishUnionLaw" code 4) (hr : meth.sig.returnType = ret) (hb : b < s.heap.size ∧ va_X b 7 xs s s.heap) {M : gM} (hFr : gFr M) : G p l e room_1 s m #[Value.ref b] below meth c s.heap.size D cA 4 (lw_Z below #[Value.ref b] s) 206 87467 M 206 1365 [(3, gJ 0), (2, gA s.heap.size 190), (1, gA s.heap.size 0), (0, .ref b)] [] := by
  obtain ⟨f_0_0, f_0_1, f_0_2, f_0_3, f_0_4, f_0_5, f_0_6, f_0_7, f_0_8, f_0_9, f_1_0, f_1_1, f_1_2, f_1_3, f_1_4, f_1_5, f_1_6, f_1_7, f_1_8, f_1_9, f_1_10, f_1_11, f_1_12, f_1_13, f_1_14, f_1_15, f_2_0, f_2_1, f_5_0, f_7_0, f_9_0, f_9_1, f_9_2, f_9_3, f_9_4, f_9_5, f_15_0, f_15_1, f_15_2, f_15_3, f_15_4, f_15_5, f_15_6, f_15_7, f_15_8, f_15_9, f_23_0, f_23_1, f_26_0, f_26_1, f_26_2, f_26_3, f_87_0, f_87_1, f_87_2, f_87_3, f_87_4, f_153_0, f_153_1, f_153_2, f_153_3, f_153_4, f_159_0, f_190_0, f_190_1, f_190_2, f_190_3, f_190_4, f_190_5, f_190_6, f_190_7, f_190_8, f_190_9, f_190_10, f_190_11, f_190_12, f_190_13, f_190_14, f_190_15, f_190_16, f_190_17, f_190_18, f_190_19, f_190_20, f_190_21, f_190_22, f_190_23, rents, way, beds, frost0, rows0, rooms0, tape0, car0, hS⟩ := hFr
  obtain ⟨v0, e0, r0⟩ : ∃ z : Int, xs 0 = Int32.ofInt z ∧ -2147483648 ≤ z ∧ z ≤ 2147483647 := ⟨_, gi_of _, gi_rg _⟩
  obtain ⟨v1, e1, r1⟩ : ∃ z : Int, xs 1 = Int32.ofInt z ∧ -2147483648 ≤ z ∧ z ≤ 2147483647 := ⟨_, gi_of _, gi_rg _⟩
  obtain ⟨v2, e2, r2⟩ : ∃ z : Int, xs 2 = Int32.ofInt z ∧ -2147483648 ≤ z ∧ z ≤ 2147483647 := ⟨_, gi_of _, gi_rg _⟩
  obtain ⟨v3, e3, r3⟩ : ∃ z : Int, xs 3 = Int32.ofInt z ∧ -2147483648 ≤ z ∧ z ≤ 2147483647 := ⟨_, gi_of _, gi_rg _⟩
  obtain ⟨v4, e4, r4⟩ : ∃ z : Int, xs 4 = Int32.ofInt z ∧ -2147483648 ≤ z ∧ z ≤ 2147483647 := ⟨_, gi_of _, gi_rg _⟩
  obtain ⟨v5, e5, r5⟩ : ∃ z : Int, xs 5 = Int32.ofInt z ∧ -2147483648 ≤ z ∧ z ≤ 2147483647 := ⟨_, gi_of _, gi_rg _⟩
  obtain ⟨v6, e6, r6⟩ : ∃ z : Int, xs 6 = Int32.ofInt z ∧ -2147483648 ≤ z ∧ z ≤ 2147483647 := ⟨_, gi_of _, gi_rg _⟩
  refine g_aload_n (n := 1366) X 2 dL_law_1365 rfl rfl rfl ?_
  refine g_aload_n (n := 1367) X 3 dL_law_1366 rfl rfl rfl ?_
  refine g_iload_n (n := 1368) X 0 dL_law_1367 rfl rfl rfl ?_
  refine g_iconst (n := 1369) X dL_law_1368 rfl ?_
  refine g_iadd (n := 1370) (z := 1) X dL_law_1369 rfl rfl ?_
  refine g_scrld (n := 1371) (z := v1) X hb (by omega) (by omega) (by omega) dL_law_1370 rfl e1 ?_
  refine g_aload_n (n := 1372) X 3 dL_law_1371 rfl rfl rfl ?_
  refine g_iload_n (n := 1373) X 0 dL_law_1372 rfl rfl rfl ?_
  refine g_iconst (n := 1374) X dL_law_1373 rfl ?_
  refine g_iadd (n := 1375) (z := 2) X dL_law_1374 rfl rfl ?_
  refine g_scrld (n := 1376) (z := v2) X hb (by omega) (by omega) (by omega) dL_law_1375 rfl e2 ?_
  refine g_aload_n (n := 1377) X 3 dL_law_1376 rfl rfl rfl ?_
  refine g_iload_n (n := 1378) X 0 dL_law_1377 rfl rfl rfl ?_
  refine g_iconst (n := 1379) X dL_law_1378 rfl ?_
  refine g_iadd (n := 1380) (z := 3) X dL_law_1379 rfl rfl ?_
  refine g_scrld (n := 1381) (z := v3) X hb (by omega) (by omega) (by omega) dL_law_1380 rfl e3 ?_
  refine g_callVi (n := 1384) (As := [gJ v1, gJ v2, gJ v3]) (rest := []) (cs1 := 206) (ss1 := 87467) X (c_X11_was v1 v2 v3 (by omega) (by omega) (by omega) (by omega) f_0_0 f_1_10) okX11_was kw_5_20 ⟨kw_5_21, kw_5_22⟩ ⟨rfl, rfl⟩ ⟨Nat.le_of_ble_eq_true rfl, Nat.le_of_ble_eq_true rfl⟩ rfl (by omega) (by omega) lay_0 rfl rfl (Nat.le_of_ble_eq_true rfl) ⟨Nat.le_of_ble_eq_true rfl, Nat.le_of_ble_eq_true rfl⟩ rfl rfl dL_law_1381 rfl (fun z1 M2 P3 => ?_)
  obtain ⟨P3, F4⟩ := P3
  refine g_aload_n (n := 1385) X 1 dL_law_1384 rfl rfl rfl ?_
  refine g_aload_n (n := 1386) X 3 dL_law_1385 rfl rfl rfl ?_
  refine g_iload_n (n := 1387) X 0 dL_law_1386 rfl rfl rfl ?_
  refine g_iconst (n := 1388) X dL_law_1387 rfl ?_
  refine g_iadd (n := 1389) (z := 1) X dL_law_1388 rfl rfl ?_
  refine g_scrld (n := 1390) (z := v1) X hb (by omega) (by omega) (by omega) dL_law_1389 rfl e1 ?_
  refine g_aload_n (n := 1391) X 3 dL_law_1390 rfl rfl rfl ?_
  refine g_iload_n (n := 1392) X 0 dL_law_1391 rfl rfl rfl ?_
  refine g_iconst (n := 1393) X dL_law_1392 rfl ?_
  refine g_iadd (n := 1394) (z := 2) X dL_law_1393 rfl rfl ?_
  refine g_scrld (n := 1395) (z := v2) X hb (by omega) (by omega) (by omega) dL_law_1394 rfl e2 ?_
  refine g_aload_n (n := 1396) X 3 dL_law_1395 rfl rfl rfl ?_
  refine g_iload_n (n := 1397) X 0 dL_law_1396 rfl rfl rfl ?_
  refine g_iconst (n := 1398) X dL_law_1397 rfl ?_
  refine g_iadd (n := 1399) (z := 3) X dL_law_1398 rfl rfl ?_
  refine g_scrld (n := 1400) (z := v3) X hb (by omega) (by omega) (by omega) dL_law_1399 rfl e3 ?_
  refine g_callVi (n := 1403) (As := [gJ v1, gJ v2, gJ v3]) (rest := [gJ z1]) (cs1 := 206) (ss1 := 87467) X (c_X12_was v1 v2 v3 (by omega) (by omega) (by omega) (by omega) ((congrFun (F4 190) _).trans f_190_1) ((congrFun (F4 191) _).trans ((hS 0 (by omega) (by omega)).trans (by decide)))) okX12_was kw_7_178 ⟨kw_7_179, kw_7_180⟩ ⟨rfl, rfl⟩ ⟨Nat.le_of_ble_eq_true rfl, Nat.le_of_ble_eq_true rfl⟩ rfl (by omega) (by omega) lay_190 rfl rfl (Nat.le_of_ble_eq_true rfl) ⟨Nat.le_of_ble_eq_true rfl, Nat.le_of_ble_eq_true rfl⟩ rfl rfl dL_law_1400 rfl (fun z5 M6 P7 => ?_)
  obtain ⟨P7, F8⟩ := P7
  refine g_icmp_eq (n := 1406) (tgt := 1992) X dL_law_1403 (by decide) (by omega) (by omega) rfl (fun c9 => ?_) (fun c9 => by exfalso; omega)
  exact law_tail X hr hb (by omega) (by omega)
theorem dL_law_1408 : decode code 1408 = .ok (.aload_n 1, 1) := by decide +kernel
theorem dL_law_1409 : decode code 1409 = .ok (.aload_n 0, 1) := by decide +kernel
theorem dL_law_1410 : decode code 1410 = .ok (.iload_n 3, 1) := by decide +kernel
theorem dL_law_1411 : decode code 1411 = .ok (.iconst 1, 1) := by decide +kernel
theorem dL_law_1412 : decode code 1412 = .ok (.iadd, 1) := by decide +kernel
theorem dL_law_1413 : decode code 1413 = .ok (.iaload, 1) := by decide +kernel
theorem dL_law_1414 : decode code 1414 = .ok (.aload_n 0, 1) := by decide +kernel
theorem dL_law_1415 : decode code 1415 = .ok (.iload_n 3, 1) := by decide +kernel
theorem dL_law_1416 : decode code 1416 = .ok (.iconst 2, 1) := by decide +kernel
theorem dL_law_1417 : decode code 1417 = .ok (.iadd, 1) := by decide +kernel
theorem dL_law_1418 : decode code 1418 = .ok (.iaload, 1) := by decide +kernel
theorem dL_law_1419 : decode code 1419 = .ok (.aload_n 0, 1) := by decide +kernel
theorem dL_law_1420 : decode code 1420 = .ok (.iload_n 3, 1) := by decide +kernel
theorem dL_law_1421 : decode code 1421 = .ok (.iconst 3, 1) := by decide +kernel
theorem dL_law_1422 : decode code 1422 = .ok (.iadd, 1) := by decide +kernel
theorem dL_law_1423 : decode code 1423 = .ok (.iaload, 1) := by decide +kernel
theorem dL_law_1424 : decode code 1424 = .ok (.invokevirtual 137, 3) := by decide +kernel
theorem kw_5_51 : (Jvm.Cond.methodLink "ParishUnionLaw" (137 : Nat) ({ cls := "ParishUnion", name := "share", desc := "(III)I" } : Jvm.MethodName)) ∈ gT := gT_of (tb_5 _ (List.mem_of_getElem? (i := 51) rfl)) rfl
theorem kw_5_54 : (Jvm.Cond.code ({ cls := "ParishUnion", name := "share", desc := "(III)I" } : Jvm.MethodName) prog_1_method_30_code (4 : Nat) (Option.some Jvm.ClassFile.FieldType.int)) ∈ gT := gT_of (tb_5 _ (List.mem_of_getElem? (i := 54) rfl)) rfl
theorem okX11_share : gQok yX11_share cX11_share 4 (Option.some Jvm.ClassFile.FieldType.int) 3 := ⟨kw_5_54, kw_1_1, by decide +kernel, by decide +kernel, by decide +kernel⟩
theorem kw_5_52 : (Jvm.Cond.instanceMethod ({ cls := "ParishUnion", name := "share", desc := "(III)I" } : Jvm.MethodName)) ∈ gT := gT_of (tb_5 _ (List.mem_of_getElem? (i := 52) rfl)) rfl
theorem kw_5_53 : (Jvm.Cond.selects "ParishUnion" ({ cls := "ParishUnion", name := "share", desc := "(III)I" } : Jvm.MethodName) ({ cls := "ParishUnion", name := "share", desc := "(III)I" } : Jvm.MethodName)) ∈ gT := gT_of (tb_5 _ (List.mem_of_getElem? (i := 53) rfl)) rfl
theorem dL_law_1427 : decode code 1427 = .ok (.aload_n 2, 1) := by decide +kernel
theorem dL_law_1428 : decode code 1428 = .ok (.aload_n 0, 1) := by decide +kernel
theorem dL_law_1429 : decode code 1429 = .ok (.iload_n 3, 1) := by decide +kernel
theorem dL_law_1430 : decode code 1430 = .ok (.iconst 1, 1) := by decide +kernel
theorem dL_law_1431 : decode code 1431 = .ok (.iadd, 1) := by decide +kernel
theorem dL_law_1432 : decode code 1432 = .ok (.iaload, 1) := by decide +kernel
theorem dL_law_1433 : decode code 1433 = .ok (.aload_n 0, 1) := by decide +kernel
theorem dL_law_1434 : decode code 1434 = .ok (.iload_n 3, 1) := by decide +kernel
theorem dL_law_1435 : decode code 1435 = .ok (.iconst 2, 1) := by decide +kernel
theorem dL_law_1436 : decode code 1436 = .ok (.iadd, 1) := by decide +kernel
theorem dL_law_1437 : decode code 1437 = .ok (.iaload, 1) := by decide +kernel
theorem dL_law_1438 : decode code 1438 = .ok (.aload_n 0, 1) := by decide +kernel
theorem dL_law_1439 : decode code 1439 = .ok (.iload_n 3, 1) := by decide +kernel
theorem dL_law_1440 : decode code 1440 = .ok (.iconst 3, 1) := by decide +kernel
theorem dL_law_1441 : decode code 1441 = .ok (.iadd, 1) := by decide +kernel
theorem dL_law_1442 : decode code 1442 = .ok (.iaload, 1) := by decide +kernel
theorem dL_law_1443 : decode code 1443 = .ok (.invokevirtual 140, 3) := by decide +kernel
theorem kw_7_182 : (Jvm.Cond.methodLink "ParishUnionLaw" (140 : Nat) ({ cls := "ParishUnionModel", name := "share", desc := "(III)I" } : Jvm.MethodName)) ∈ gT := gT_of (tb_7 _ (List.mem_of_getElem? (i := 182) rfl)) rfl
theorem kw_7_185 : (Jvm.Cond.code ({ cls := "ParishUnionModel", name := "share", desc := "(III)I" } : Jvm.MethodName) prog_14_method_83_code (4 : Nat) (Option.some Jvm.ClassFile.FieldType.int)) ∈ gT := gT_of (tb_7 _ (List.mem_of_getElem? (i := 185) rfl)) rfl
theorem okX12_share : gQok yX12_share cX12_share 4 (Option.some Jvm.ClassFile.FieldType.int) 3 := ⟨kw_7_185, kw_1_13, by decide +kernel, by decide +kernel, by decide +kernel⟩
theorem kw_7_183 : (Jvm.Cond.instanceMethod ({ cls := "ParishUnionModel", name := "share", desc := "(III)I" } : Jvm.MethodName)) ∈ gT := gT_of (tb_7 _ (List.mem_of_getElem? (i := 183) rfl)) rfl
theorem kw_7_184 : (Jvm.Cond.selects "ParishUnionModel" ({ cls := "ParishUnionModel", name := "share", desc := "(III)I" } : Jvm.MethodName) ({ cls := "ParishUnionModel", name := "share", desc := "(III)I" } : Jvm.MethodName)) ∈ gT := gT_of (tb_7 _ (List.mem_of_getElem? (i := 184) rfl)) rfl
theorem dL_law_1446 : decode code 1446 = .ok (.if_icmp .eq 546, 3) := by decide +kernel
set_option maxRecDepth 100000 in
set_option maxHeartbeats 4000000 in
theorem law_case_28 {p : Program} {e : Env} {s : State} {m : MethodId} {below : List Frame} {meth : Method} {c : Code} {l : Launch} {D : va_G} {cA : Nat → ClassId} {b : Nat} {xs : Nat → Int32} (X : gCx p s m #[Value.ref b] meth c s.heap.size D cA "ParishUnionLaw" code 4) (hr : meth.sig.returnType = ret) (hb : b < s.heap.size ∧ va_X b 7 xs s s.heap) {M : gM} (hFr : gFr M) : G p l e room_1 s m #[Value.ref b] below meth c s.heap.size D cA 4 (lw_Z below #[Value.ref b] s) 206 87467 M 206 1408 [(3, gJ 0), (2, gA s.heap.size 190), (1, gA s.heap.size 0), (0, .ref b)] [] := by
  obtain ⟨f_0_0, f_0_1, f_0_2, f_0_3, f_0_4, f_0_5, f_0_6, f_0_7, f_0_8, f_0_9, f_1_0, f_1_1, f_1_2, f_1_3, f_1_4, f_1_5, f_1_6, f_1_7, f_1_8, f_1_9, f_1_10, f_1_11, f_1_12, f_1_13, f_1_14, f_1_15, f_2_0, f_2_1, f_5_0, f_7_0, f_9_0, f_9_1, f_9_2, f_9_3, f_9_4, f_9_5, f_15_0, f_15_1, f_15_2, f_15_3, f_15_4, f_15_5, f_15_6, f_15_7, f_15_8, f_15_9, f_23_0, f_23_1, f_26_0, f_26_1, f_26_2, f_26_3, f_87_0, f_87_1, f_87_2, f_87_3, f_87_4, f_153_0, f_153_1, f_153_2, f_153_3, f_153_4, f_159_0, f_190_0, f_190_1, f_190_2, f_190_3, f_190_4, f_190_5, f_190_6, f_190_7, f_190_8, f_190_9, f_190_10, f_190_11, f_190_12, f_190_13, f_190_14, f_190_15, f_190_16, f_190_17, f_190_18, f_190_19, f_190_20, f_190_21, f_190_22, f_190_23, rents, way, beds, frost0, rows0, rooms0, tape0, car0, hS⟩ := hFr
  obtain ⟨v0, e0, r0⟩ : ∃ z : Int, xs 0 = Int32.ofInt z ∧ -2147483648 ≤ z ∧ z ≤ 2147483647 := ⟨_, gi_of _, gi_rg _⟩
  obtain ⟨v1, e1, r1⟩ : ∃ z : Int, xs 1 = Int32.ofInt z ∧ -2147483648 ≤ z ∧ z ≤ 2147483647 := ⟨_, gi_of _, gi_rg _⟩
  obtain ⟨v2, e2, r2⟩ : ∃ z : Int, xs 2 = Int32.ofInt z ∧ -2147483648 ≤ z ∧ z ≤ 2147483647 := ⟨_, gi_of _, gi_rg _⟩
  obtain ⟨v3, e3, r3⟩ : ∃ z : Int, xs 3 = Int32.ofInt z ∧ -2147483648 ≤ z ∧ z ≤ 2147483647 := ⟨_, gi_of _, gi_rg _⟩
  obtain ⟨v4, e4, r4⟩ : ∃ z : Int, xs 4 = Int32.ofInt z ∧ -2147483648 ≤ z ∧ z ≤ 2147483647 := ⟨_, gi_of _, gi_rg _⟩
  obtain ⟨v5, e5, r5⟩ : ∃ z : Int, xs 5 = Int32.ofInt z ∧ -2147483648 ≤ z ∧ z ≤ 2147483647 := ⟨_, gi_of _, gi_rg _⟩
  obtain ⟨v6, e6, r6⟩ : ∃ z : Int, xs 6 = Int32.ofInt z ∧ -2147483648 ≤ z ∧ z ≤ 2147483647 := ⟨_, gi_of _, gi_rg _⟩
  refine g_aload_n (n := 1409) X 2 dL_law_1408 rfl rfl rfl ?_
  refine g_aload_n (n := 1410) X 3 dL_law_1409 rfl rfl rfl ?_
  refine g_iload_n (n := 1411) X 0 dL_law_1410 rfl rfl rfl ?_
  refine g_iconst (n := 1412) X dL_law_1411 rfl ?_
  refine g_iadd (n := 1413) (z := 1) X dL_law_1412 rfl rfl ?_
  refine g_scrld (n := 1414) (z := v1) X hb (by omega) (by omega) (by omega) dL_law_1413 rfl e1 ?_
  refine g_aload_n (n := 1415) X 3 dL_law_1414 rfl rfl rfl ?_
  refine g_iload_n (n := 1416) X 0 dL_law_1415 rfl rfl rfl ?_
  refine g_iconst (n := 1417) X dL_law_1416 rfl ?_
  refine g_iadd (n := 1418) (z := 2) X dL_law_1417 rfl rfl ?_
  refine g_scrld (n := 1419) (z := v2) X hb (by omega) (by omega) (by omega) dL_law_1418 rfl e2 ?_
  refine g_aload_n (n := 1420) X 3 dL_law_1419 rfl rfl rfl ?_
  refine g_iload_n (n := 1421) X 0 dL_law_1420 rfl rfl rfl ?_
  refine g_iconst (n := 1422) X dL_law_1421 rfl ?_
  refine g_iadd (n := 1423) (z := 3) X dL_law_1422 rfl rfl ?_
  refine g_scrld (n := 1424) (z := v3) X hb (by omega) (by omega) (by omega) dL_law_1423 rfl e3 ?_
  refine g_callVi (n := 1427) (As := [gJ v1, gJ v2, gJ v3]) (rest := []) (cs1 := 206) (ss1 := 87467) X (c_X11_share v1 v2 v3 (by omega) (by omega) (by omega) (by omega) f_0_0 f_1_15) okX11_share kw_5_51 ⟨kw_5_52, kw_5_53⟩ ⟨rfl, rfl⟩ ⟨Nat.le_of_ble_eq_true rfl, Nat.le_of_ble_eq_true rfl⟩ rfl (by omega) (by omega) lay_0 rfl rfl (Nat.le_of_ble_eq_true rfl) ⟨Nat.le_of_ble_eq_true rfl, Nat.le_of_ble_eq_true rfl⟩ rfl rfl dL_law_1424 rfl (fun z1 M2 P3 => ?_)
  obtain ⟨P3, F4⟩ := P3
  refine g_aload_n (n := 1428) X 1 dL_law_1427 rfl rfl rfl ?_
  refine g_aload_n (n := 1429) X 3 dL_law_1428 rfl rfl rfl ?_
  refine g_iload_n (n := 1430) X 0 dL_law_1429 rfl rfl rfl ?_
  refine g_iconst (n := 1431) X dL_law_1430 rfl ?_
  refine g_iadd (n := 1432) (z := 1) X dL_law_1431 rfl rfl ?_
  refine g_scrld (n := 1433) (z := v1) X hb (by omega) (by omega) (by omega) dL_law_1432 rfl e1 ?_
  refine g_aload_n (n := 1434) X 3 dL_law_1433 rfl rfl rfl ?_
  refine g_iload_n (n := 1435) X 0 dL_law_1434 rfl rfl rfl ?_
  refine g_iconst (n := 1436) X dL_law_1435 rfl ?_
  refine g_iadd (n := 1437) (z := 2) X dL_law_1436 rfl rfl ?_
  refine g_scrld (n := 1438) (z := v2) X hb (by omega) (by omega) (by omega) dL_law_1437 rfl e2 ?_
  refine g_aload_n (n := 1439) X 3 dL_law_1438 rfl rfl rfl ?_
  refine g_iload_n (n := 1440) X 0 dL_law_1439 rfl rfl rfl ?_
  refine g_iconst (n := 1441) X dL_law_1440 rfl ?_
  refine g_iadd (n := 1442) (z := 3) X dL_law_1441 rfl rfl ?_
  refine g_scrld (n := 1443) (z := v3) X hb (by omega) (by omega) (by omega) dL_law_1442 rfl e3 ?_
  refine g_callVi (n := 1446) (As := [gJ v1, gJ v2, gJ v3]) (rest := [gJ z1]) (cs1 := 206) (ss1 := 87467) X (c_X12_share v1 v2 v3 (by omega) (by omega) (by omega) (by omega) ((congrFun (F4 190) _).trans f_190_1) ((congrFun (F4 191) _).trans ((hS 0 (by omega) (by omega)).trans (by decide)))) okX12_share kw_7_182 ⟨kw_7_183, kw_7_184⟩ ⟨rfl, rfl⟩ ⟨Nat.le_of_ble_eq_true rfl, Nat.le_of_ble_eq_true rfl⟩ rfl (by omega) (by omega) lay_190 rfl rfl (Nat.le_of_ble_eq_true rfl) ⟨Nat.le_of_ble_eq_true rfl, Nat.le_of_ble_eq_true rfl⟩ rfl rfl dL_law_1443 rfl (fun z5 M6 P7 => ?_)
  obtain ⟨P7, F8⟩ := P7
  refine g_icmp_eq (n := 1449) (tgt := 1992) X dL_law_1446 (by decide) (by omega) (by omega) rfl (fun c9 => ?_) (fun c9 => by exfalso; omega)
  exact law_tail X hr hb (by omega) (by omega)
theorem dL_law_1451 : decode code 1451 = .ok (.aload_n 1, 1) := by decide +kernel
theorem dL_law_1452 : decode code 1452 = .ok (.aload_n 0, 1) := by decide +kernel
theorem dL_law_1453 : decode code 1453 = .ok (.iload_n 3, 1) := by decide +kernel
theorem dL_law_1454 : decode code 1454 = .ok (.iconst 1, 1) := by decide +kernel
theorem dL_law_1455 : decode code 1455 = .ok (.iadd, 1) := by decide +kernel
theorem dL_law_1456 : decode code 1456 = .ok (.iaload, 1) := by decide +kernel
theorem dL_law_1457 : decode code 1457 = .ok (.aload_n 0, 1) := by decide +kernel
theorem dL_law_1458 : decode code 1458 = .ok (.iload_n 3, 1) := by decide +kernel
theorem dL_law_1459 : decode code 1459 = .ok (.iconst 2, 1) := by decide +kernel
theorem dL_law_1460 : decode code 1460 = .ok (.iadd, 1) := by decide +kernel
theorem dL_law_1461 : decode code 1461 = .ok (.iaload, 1) := by decide +kernel
theorem dL_law_1462 : decode code 1462 = .ok (.aload_n 0, 1) := by decide +kernel
theorem dL_law_1463 : decode code 1463 = .ok (.iload_n 3, 1) := by decide +kernel
theorem dL_law_1464 : decode code 1464 = .ok (.iconst 3, 1) := by decide +kernel
theorem dL_law_1465 : decode code 1465 = .ok (.iadd, 1) := by decide +kernel
theorem dL_law_1466 : decode code 1466 = .ok (.iaload, 1) := by decide +kernel
theorem dL_law_1467 : decode code 1467 = .ok (.invokevirtual 141, 3) := by decide +kernel
theorem kw_5_74 : (Jvm.Cond.methodLink "ParishUnionLaw" (141 : Nat) ({ cls := "ParishUnion", name := "sink", desc := "(III)I" } : Jvm.MethodName)) ∈ gT := gT_of (tb_5 _ (List.mem_of_getElem? (i := 74) rfl)) rfl
theorem kw_5_77 : (Jvm.Cond.code ({ cls := "ParishUnion", name := "sink", desc := "(III)I" } : Jvm.MethodName) prog_1_method_31_code (6 : Nat) (Option.some Jvm.ClassFile.FieldType.int)) ∈ gT := gT_of (tb_5 _ (List.mem_of_getElem? (i := 77) rfl)) rfl
theorem okX11_sink : gQok yX11_sink cX11_sink 6 (Option.some Jvm.ClassFile.FieldType.int) 3 := ⟨kw_5_77, kw_1_1, by decide +kernel, by decide +kernel, by decide +kernel⟩
theorem kw_5_75 : (Jvm.Cond.instanceMethod ({ cls := "ParishUnion", name := "sink", desc := "(III)I" } : Jvm.MethodName)) ∈ gT := gT_of (tb_5 _ (List.mem_of_getElem? (i := 75) rfl)) rfl
theorem kw_5_76 : (Jvm.Cond.selects "ParishUnion" ({ cls := "ParishUnion", name := "sink", desc := "(III)I" } : Jvm.MethodName) ({ cls := "ParishUnion", name := "sink", desc := "(III)I" } : Jvm.MethodName)) ∈ gT := gT_of (tb_5 _ (List.mem_of_getElem? (i := 76) rfl)) rfl
theorem dL_law_1470 : decode code 1470 = .ok (.aload_n 2, 1) := by decide +kernel
theorem dL_law_1471 : decode code 1471 = .ok (.aload_n 0, 1) := by decide +kernel
theorem dL_law_1472 : decode code 1472 = .ok (.iload_n 3, 1) := by decide +kernel
theorem dL_law_1473 : decode code 1473 = .ok (.iconst 1, 1) := by decide +kernel
theorem dL_law_1474 : decode code 1474 = .ok (.iadd, 1) := by decide +kernel
theorem dL_law_1475 : decode code 1475 = .ok (.iaload, 1) := by decide +kernel
theorem dL_law_1476 : decode code 1476 = .ok (.aload_n 0, 1) := by decide +kernel
theorem dL_law_1477 : decode code 1477 = .ok (.iload_n 3, 1) := by decide +kernel
theorem dL_law_1478 : decode code 1478 = .ok (.iconst 2, 1) := by decide +kernel
theorem dL_law_1479 : decode code 1479 = .ok (.iadd, 1) := by decide +kernel
theorem dL_law_1480 : decode code 1480 = .ok (.iaload, 1) := by decide +kernel
theorem dL_law_1481 : decode code 1481 = .ok (.aload_n 0, 1) := by decide +kernel
theorem dL_law_1482 : decode code 1482 = .ok (.iload_n 3, 1) := by decide +kernel
theorem dL_law_1483 : decode code 1483 = .ok (.iconst 3, 1) := by decide +kernel
theorem dL_law_1484 : decode code 1484 = .ok (.iadd, 1) := by decide +kernel
theorem dL_law_1485 : decode code 1485 = .ok (.iaload, 1) := by decide +kernel
theorem dL_law_1486 : decode code 1486 = .ok (.invokevirtual 144, 3) := by decide +kernel
theorem kw_7_192 : (Jvm.Cond.methodLink "ParishUnionLaw" (144 : Nat) ({ cls := "ParishUnionModel", name := "sink", desc := "(III)I" } : Jvm.MethodName)) ∈ gT := gT_of (tb_7 _ (List.mem_of_getElem? (i := 192) rfl)) rfl
theorem kw_7_195 : (Jvm.Cond.code ({ cls := "ParishUnionModel", name := "sink", desc := "(III)I" } : Jvm.MethodName) prog_14_method_84_code (6 : Nat) (Option.some Jvm.ClassFile.FieldType.int)) ∈ gT := gT_of (tb_7 _ (List.mem_of_getElem? (i := 195) rfl)) rfl
theorem okX12_sink : gQok yX12_sink cX12_sink 6 (Option.some Jvm.ClassFile.FieldType.int) 3 := ⟨kw_7_195, kw_1_13, by decide +kernel, by decide +kernel, by decide +kernel⟩
theorem kw_7_193 : (Jvm.Cond.instanceMethod ({ cls := "ParishUnionModel", name := "sink", desc := "(III)I" } : Jvm.MethodName)) ∈ gT := gT_of (tb_7 _ (List.mem_of_getElem? (i := 193) rfl)) rfl
theorem kw_7_194 : (Jvm.Cond.selects "ParishUnionModel" ({ cls := "ParishUnionModel", name := "sink", desc := "(III)I" } : Jvm.MethodName) ({ cls := "ParishUnionModel", name := "sink", desc := "(III)I" } : Jvm.MethodName)) ∈ gT := gT_of (tb_7 _ (List.mem_of_getElem? (i := 194) rfl)) rfl
theorem dL_law_1489 : decode code 1489 = .ok (.if_icmp .eq 503, 3) := by decide +kernel
set_option maxRecDepth 100000 in
set_option maxHeartbeats 4000000 in
theorem law_case_29 {p : Program} {e : Env} {s : State} {m : MethodId} {below : List Frame} {meth : Method} {c : Code} {l : Launch} {D : va_G} {cA : Nat → ClassId} {b : Nat} {xs : Nat → Int32} (X : gCx p s m #[Value.ref b] meth c s.heap.size D cA "ParishUnionLaw" code 4) (hr : meth.sig.returnType = ret) (hb : b < s.heap.size ∧ va_X b 7 xs s s.heap) {M : gM} (hFr : gFr M) : G p l e room_1 s m #[Value.ref b] below meth c s.heap.size D cA 4 (lw_Z below #[Value.ref b] s) 206 87467 M 206 1451 [(3, gJ 0), (2, gA s.heap.size 190), (1, gA s.heap.size 0), (0, .ref b)] [] := by
  obtain ⟨f_0_0, f_0_1, f_0_2, f_0_3, f_0_4, f_0_5, f_0_6, f_0_7, f_0_8, f_0_9, f_1_0, f_1_1, f_1_2, f_1_3, f_1_4, f_1_5, f_1_6, f_1_7, f_1_8, f_1_9, f_1_10, f_1_11, f_1_12, f_1_13, f_1_14, f_1_15, f_2_0, f_2_1, f_5_0, f_7_0, f_9_0, f_9_1, f_9_2, f_9_3, f_9_4, f_9_5, f_15_0, f_15_1, f_15_2, f_15_3, f_15_4, f_15_5, f_15_6, f_15_7, f_15_8, f_15_9, f_23_0, f_23_1, f_26_0, f_26_1, f_26_2, f_26_3, f_87_0, f_87_1, f_87_2, f_87_3, f_87_4, f_153_0, f_153_1, f_153_2, f_153_3, f_153_4, f_159_0, f_190_0, f_190_1, f_190_2, f_190_3, f_190_4, f_190_5, f_190_6, f_190_7, f_190_8, f_190_9, f_190_10, f_190_11, f_190_12, f_190_13, f_190_14, f_190_15, f_190_16, f_190_17, f_190_18, f_190_19, f_190_20, f_190_21, f_190_22, f_190_23, rents, way, beds, frost0, rows0, rooms0, tape0, car0, hS⟩ := hFr
  obtain ⟨v0, e0, r0⟩ : ∃ z : Int, xs 0 = Int32.ofInt z ∧ -2147483648 ≤ z ∧ z ≤ 2147483647 := ⟨_, gi_of _, gi_rg _⟩
  obtain ⟨v1, e1, r1⟩ : ∃ z : Int, xs 1 = Int32.ofInt z ∧ -2147483648 ≤ z ∧ z ≤ 2147483647 := ⟨_, gi_of _, gi_rg _⟩
  obtain ⟨v2, e2, r2⟩ : ∃ z : Int, xs 2 = Int32.ofInt z ∧ -2147483648 ≤ z ∧ z ≤ 2147483647 := ⟨_, gi_of _, gi_rg _⟩
  obtain ⟨v3, e3, r3⟩ : ∃ z : Int, xs 3 = Int32.ofInt z ∧ -2147483648 ≤ z ∧ z ≤ 2147483647 := ⟨_, gi_of _, gi_rg _⟩
  obtain ⟨v4, e4, r4⟩ : ∃ z : Int, xs 4 = Int32.ofInt z ∧ -2147483648 ≤ z ∧ z ≤ 2147483647 := ⟨_, gi_of _, gi_rg _⟩
  obtain ⟨v5, e5, r5⟩ : ∃ z : Int, xs 5 = Int32.ofInt z ∧ -2147483648 ≤ z ∧ z ≤ 2147483647 := ⟨_, gi_of _, gi_rg _⟩
  obtain ⟨v6, e6, r6⟩ : ∃ z : Int, xs 6 = Int32.ofInt z ∧ -2147483648 ≤ z ∧ z ≤ 2147483647 := ⟨_, gi_of _, gi_rg _⟩
  refine g_aload_n (n := 1452) X 2 dL_law_1451 rfl rfl rfl ?_
  refine g_aload_n (n := 1453) X 3 dL_law_1452 rfl rfl rfl ?_
  refine g_iload_n (n := 1454) X 0 dL_law_1453 rfl rfl rfl ?_
  refine g_iconst (n := 1455) X dL_law_1454 rfl ?_
  refine g_iadd (n := 1456) (z := 1) X dL_law_1455 rfl rfl ?_
  refine g_scrld (n := 1457) (z := v1) X hb (by omega) (by omega) (by omega) dL_law_1456 rfl e1 ?_
  refine g_aload_n (n := 1458) X 3 dL_law_1457 rfl rfl rfl ?_
  refine g_iload_n (n := 1459) X 0 dL_law_1458 rfl rfl rfl ?_
  refine g_iconst (n := 1460) X dL_law_1459 rfl ?_
  refine g_iadd (n := 1461) (z := 2) X dL_law_1460 rfl rfl ?_
  refine g_scrld (n := 1462) (z := v2) X hb (by omega) (by omega) (by omega) dL_law_1461 rfl e2 ?_
  refine g_aload_n (n := 1463) X 3 dL_law_1462 rfl rfl rfl ?_
  refine g_iload_n (n := 1464) X 0 dL_law_1463 rfl rfl rfl ?_
  refine g_iconst (n := 1465) X dL_law_1464 rfl ?_
  refine g_iadd (n := 1466) (z := 3) X dL_law_1465 rfl rfl ?_
  refine g_scrld (n := 1467) (z := v3) X hb (by omega) (by omega) (by omega) dL_law_1466 rfl e3 ?_
  refine g_callVi (n := 1470) (As := [gJ v1, gJ v2, gJ v3]) (rest := []) (cs1 := 206) (ss1 := 87467) X (c_X11_sink v1 v2 v3 (by omega) (by omega) (by omega) (by omega) f_0_0 f_1_15) okX11_sink kw_5_74 ⟨kw_5_75, kw_5_76⟩ ⟨rfl, rfl⟩ ⟨Nat.le_of_ble_eq_true rfl, Nat.le_of_ble_eq_true rfl⟩ rfl (by omega) (by omega) lay_0 rfl rfl (Nat.le_of_ble_eq_true rfl) ⟨Nat.le_of_ble_eq_true rfl, Nat.le_of_ble_eq_true rfl⟩ rfl rfl dL_law_1467 rfl (fun z1 M2 P3 => ?_)
  obtain ⟨P3, F4⟩ := P3
  refine g_aload_n (n := 1471) X 1 dL_law_1470 rfl rfl rfl ?_
  refine g_aload_n (n := 1472) X 3 dL_law_1471 rfl rfl rfl ?_
  refine g_iload_n (n := 1473) X 0 dL_law_1472 rfl rfl rfl ?_
  refine g_iconst (n := 1474) X dL_law_1473 rfl ?_
  refine g_iadd (n := 1475) (z := 1) X dL_law_1474 rfl rfl ?_
  refine g_scrld (n := 1476) (z := v1) X hb (by omega) (by omega) (by omega) dL_law_1475 rfl e1 ?_
  refine g_aload_n (n := 1477) X 3 dL_law_1476 rfl rfl rfl ?_
  refine g_iload_n (n := 1478) X 0 dL_law_1477 rfl rfl rfl ?_
  refine g_iconst (n := 1479) X dL_law_1478 rfl ?_
  refine g_iadd (n := 1480) (z := 2) X dL_law_1479 rfl rfl ?_
  refine g_scrld (n := 1481) (z := v2) X hb (by omega) (by omega) (by omega) dL_law_1480 rfl e2 ?_
  refine g_aload_n (n := 1482) X 3 dL_law_1481 rfl rfl rfl ?_
  refine g_iload_n (n := 1483) X 0 dL_law_1482 rfl rfl rfl ?_
  refine g_iconst (n := 1484) X dL_law_1483 rfl ?_
  refine g_iadd (n := 1485) (z := 3) X dL_law_1484 rfl rfl ?_
  refine g_scrld (n := 1486) (z := v3) X hb (by omega) (by omega) (by omega) dL_law_1485 rfl e3 ?_
  refine g_callVi (n := 1489) (As := [gJ v1, gJ v2, gJ v3]) (rest := [gJ z1]) (cs1 := 206) (ss1 := 87467) X (c_X12_sink v1 v2 v3 (by omega) (by omega) (by omega) (by omega) ((congrFun (F4 190) _).trans f_190_1) ((congrFun (F4 191) _).trans ((hS 0 (by omega) (by omega)).trans (by decide)))) okX12_sink kw_7_192 ⟨kw_7_193, kw_7_194⟩ ⟨rfl, rfl⟩ ⟨Nat.le_of_ble_eq_true rfl, Nat.le_of_ble_eq_true rfl⟩ rfl (by omega) (by omega) lay_190 rfl rfl (Nat.le_of_ble_eq_true rfl) ⟨Nat.le_of_ble_eq_true rfl, Nat.le_of_ble_eq_true rfl⟩ rfl rfl dL_law_1486 rfl (fun z5 M6 P7 => ?_)
  obtain ⟨P7, F8⟩ := P7
  refine g_icmp_eq (n := 1492) (tgt := 1992) X dL_law_1489 (by decide) (by omega) (by omega) rfl (fun c9 => ?_) (fun c9 => by exfalso; omega)
  exact law_tail X hr hb (by omega) (by omega)
theorem dL_law_1494 : decode code 1494 = .ok (.aload_n 1, 1) := by decide +kernel
theorem dL_law_1495 : decode code 1495 = .ok (.aload_n 0, 1) := by decide +kernel
theorem dL_law_1496 : decode code 1496 = .ok (.iload_n 3, 1) := by decide +kernel
theorem dL_law_1497 : decode code 1497 = .ok (.iconst 1, 1) := by decide +kernel
theorem dL_law_1498 : decode code 1498 = .ok (.iadd, 1) := by decide +kernel
theorem dL_law_1499 : decode code 1499 = .ok (.iaload, 1) := by decide +kernel
theorem dL_law_1500 : decode code 1500 = .ok (.aload_n 0, 1) := by decide +kernel
theorem dL_law_1501 : decode code 1501 = .ok (.iload_n 3, 1) := by decide +kernel
theorem dL_law_1502 : decode code 1502 = .ok (.iconst 2, 1) := by decide +kernel
theorem dL_law_1503 : decode code 1503 = .ok (.iadd, 1) := by decide +kernel
theorem dL_law_1504 : decode code 1504 = .ok (.iaload, 1) := by decide +kernel
theorem dL_law_1505 : decode code 1505 = .ok (.aload_n 0, 1) := by decide +kernel
theorem dL_law_1506 : decode code 1506 = .ok (.iload_n 3, 1) := by decide +kernel
theorem dL_law_1507 : decode code 1507 = .ok (.iconst 3, 1) := by decide +kernel
theorem dL_law_1508 : decode code 1508 = .ok (.iadd, 1) := by decide +kernel
theorem dL_law_1509 : decode code 1509 = .ok (.iaload, 1) := by decide +kernel
theorem dL_law_1510 : decode code 1510 = .ok (.aload_n 0, 1) := by decide +kernel
theorem dL_law_1511 : decode code 1511 = .ok (.iload_n 3, 1) := by decide +kernel
theorem dL_law_1512 : decode code 1512 = .ok (.iconst 4, 1) := by decide +kernel
theorem dL_law_1513 : decode code 1513 = .ok (.iadd, 1) := by decide +kernel
theorem dL_law_1514 : decode code 1514 = .ok (.iaload, 1) := by decide +kernel
theorem dL_law_1515 : decode code 1515 = .ok (.invokevirtual 145, 3) := by decide +kernel
theorem kw_5_78 : (Jvm.Cond.methodLink "ParishUnionLaw" (145 : Nat) ({ cls := "ParishUnion", name := "owed", desc := "(IIII)I" } : Jvm.MethodName)) ∈ gT := gT_of (tb_5 _ (List.mem_of_getElem? (i := 78) rfl)) rfl
theorem kw_5_81 : (Jvm.Cond.code ({ cls := "ParishUnion", name := "owed", desc := "(IIII)I" } : Jvm.MethodName) prog_1_method_32_code (9 : Nat) (Option.some Jvm.ClassFile.FieldType.int)) ∈ gT := gT_of (tb_5 _ (List.mem_of_getElem? (i := 81) rfl)) rfl
theorem okX11_owed : gQok yX11_owed cX11_owed 9 (Option.some Jvm.ClassFile.FieldType.int) 4 := ⟨kw_5_81, kw_1_1, by decide +kernel, by decide +kernel, by decide +kernel⟩
theorem kw_5_79 : (Jvm.Cond.instanceMethod ({ cls := "ParishUnion", name := "owed", desc := "(IIII)I" } : Jvm.MethodName)) ∈ gT := gT_of (tb_5 _ (List.mem_of_getElem? (i := 79) rfl)) rfl
theorem kw_5_80 : (Jvm.Cond.selects "ParishUnion" ({ cls := "ParishUnion", name := "owed", desc := "(IIII)I" } : Jvm.MethodName) ({ cls := "ParishUnion", name := "owed", desc := "(IIII)I" } : Jvm.MethodName)) ∈ gT := gT_of (tb_5 _ (List.mem_of_getElem? (i := 80) rfl)) rfl
theorem dL_law_1518 : decode code 1518 = .ok (.aload_n 2, 1) := by decide +kernel
theorem dL_law_1519 : decode code 1519 = .ok (.aload_n 0, 1) := by decide +kernel
theorem dL_law_1520 : decode code 1520 = .ok (.iload_n 3, 1) := by decide +kernel
theorem dL_law_1521 : decode code 1521 = .ok (.iconst 1, 1) := by decide +kernel
theorem dL_law_1522 : decode code 1522 = .ok (.iadd, 1) := by decide +kernel
theorem dL_law_1523 : decode code 1523 = .ok (.iaload, 1) := by decide +kernel
theorem dL_law_1524 : decode code 1524 = .ok (.aload_n 0, 1) := by decide +kernel
theorem dL_law_1525 : decode code 1525 = .ok (.iload_n 3, 1) := by decide +kernel
theorem dL_law_1526 : decode code 1526 = .ok (.iconst 2, 1) := by decide +kernel
theorem dL_law_1527 : decode code 1527 = .ok (.iadd, 1) := by decide +kernel
theorem dL_law_1528 : decode code 1528 = .ok (.iaload, 1) := by decide +kernel
theorem dL_law_1529 : decode code 1529 = .ok (.aload_n 0, 1) := by decide +kernel
theorem dL_law_1530 : decode code 1530 = .ok (.iload_n 3, 1) := by decide +kernel
theorem dL_law_1531 : decode code 1531 = .ok (.iconst 3, 1) := by decide +kernel
theorem dL_law_1532 : decode code 1532 = .ok (.iadd, 1) := by decide +kernel
theorem dL_law_1533 : decode code 1533 = .ok (.iaload, 1) := by decide +kernel
theorem dL_law_1534 : decode code 1534 = .ok (.aload_n 0, 1) := by decide +kernel
theorem dL_law_1535 : decode code 1535 = .ok (.iload_n 3, 1) := by decide +kernel
theorem dL_law_1536 : decode code 1536 = .ok (.iconst 4, 1) := by decide +kernel
theorem dL_law_1537 : decode code 1537 = .ok (.iadd, 1) := by decide +kernel
theorem dL_law_1538 : decode code 1538 = .ok (.iaload, 1) := by decide +kernel
theorem dL_law_1539 : decode code 1539 = .ok (.invokevirtual 148, 3) := by decide +kernel
theorem kw_7_196 : (Jvm.Cond.methodLink "ParishUnionLaw" (148 : Nat) ({ cls := "ParishUnionModel", name := "owed", desc := "(IIII)I" } : Jvm.MethodName)) ∈ gT := gT_of (tb_7 _ (List.mem_of_getElem? (i := 196) rfl)) rfl
theorem kw_7_199 : (Jvm.Cond.code ({ cls := "ParishUnionModel", name := "owed", desc := "(IIII)I" } : Jvm.MethodName) prog_14_method_85_code (9 : Nat) (Option.some Jvm.ClassFile.FieldType.int)) ∈ gT := gT_of (tb_7 _ (List.mem_of_getElem? (i := 199) rfl)) rfl
theorem okX12_owed : gQok yX12_owed cX12_owed 9 (Option.some Jvm.ClassFile.FieldType.int) 4 := ⟨kw_7_199, kw_1_13, by decide +kernel, by decide +kernel, by decide +kernel⟩
theorem kw_7_197 : (Jvm.Cond.instanceMethod ({ cls := "ParishUnionModel", name := "owed", desc := "(IIII)I" } : Jvm.MethodName)) ∈ gT := gT_of (tb_7 _ (List.mem_of_getElem? (i := 197) rfl)) rfl
theorem kw_7_198 : (Jvm.Cond.selects "ParishUnionModel" ({ cls := "ParishUnionModel", name := "owed", desc := "(IIII)I" } : Jvm.MethodName) ({ cls := "ParishUnionModel", name := "owed", desc := "(IIII)I" } : Jvm.MethodName)) ∈ gT := gT_of (tb_7 _ (List.mem_of_getElem? (i := 198) rfl)) rfl
theorem dL_law_1542 : decode code 1542 = .ok (.if_icmp .eq 450, 3) := by decide +kernel
set_option maxRecDepth 100000 in
set_option maxHeartbeats 4000000 in
theorem law_case_30 {p : Program} {e : Env} {s : State} {m : MethodId} {below : List Frame} {meth : Method} {c : Code} {l : Launch} {D : va_G} {cA : Nat → ClassId} {b : Nat} {xs : Nat → Int32} (X : gCx p s m #[Value.ref b] meth c s.heap.size D cA "ParishUnionLaw" code 4) (hr : meth.sig.returnType = ret) (hb : b < s.heap.size ∧ va_X b 7 xs s s.heap) {M : gM} (hFr : gFr M) : G p l e room_1 s m #[Value.ref b] below meth c s.heap.size D cA 4 (lw_Z below #[Value.ref b] s) 206 87467 M 206 1494 [(3, gJ 0), (2, gA s.heap.size 190), (1, gA s.heap.size 0), (0, .ref b)] [] := by
  obtain ⟨f_0_0, f_0_1, f_0_2, f_0_3, f_0_4, f_0_5, f_0_6, f_0_7, f_0_8, f_0_9, f_1_0, f_1_1, f_1_2, f_1_3, f_1_4, f_1_5, f_1_6, f_1_7, f_1_8, f_1_9, f_1_10, f_1_11, f_1_12, f_1_13, f_1_14, f_1_15, f_2_0, f_2_1, f_5_0, f_7_0, f_9_0, f_9_1, f_9_2, f_9_3, f_9_4, f_9_5, f_15_0, f_15_1, f_15_2, f_15_3, f_15_4, f_15_5, f_15_6, f_15_7, f_15_8, f_15_9, f_23_0, f_23_1, f_26_0, f_26_1, f_26_2, f_26_3, f_87_0, f_87_1, f_87_2, f_87_3, f_87_4, f_153_0, f_153_1, f_153_2, f_153_3, f_153_4, f_159_0, f_190_0, f_190_1, f_190_2, f_190_3, f_190_4, f_190_5, f_190_6, f_190_7, f_190_8, f_190_9, f_190_10, f_190_11, f_190_12, f_190_13, f_190_14, f_190_15, f_190_16, f_190_17, f_190_18, f_190_19, f_190_20, f_190_21, f_190_22, f_190_23, rents, way, beds, frost0, rows0, rooms0, tape0, car0, hS⟩ := hFr
  obtain ⟨v0, e0, r0⟩ : ∃ z : Int, xs 0 = Int32.ofInt z ∧ -2147483648 ≤ z ∧ z ≤ 2147483647 := ⟨_, gi_of _, gi_rg _⟩
  obtain ⟨v1, e1, r1⟩ : ∃ z : Int, xs 1 = Int32.ofInt z ∧ -2147483648 ≤ z ∧ z ≤ 2147483647 := ⟨_, gi_of _, gi_rg _⟩
  obtain ⟨v2, e2, r2⟩ : ∃ z : Int, xs 2 = Int32.ofInt z ∧ -2147483648 ≤ z ∧ z ≤ 2147483647 := ⟨_, gi_of _, gi_rg _⟩
  obtain ⟨v3, e3, r3⟩ : ∃ z : Int, xs 3 = Int32.ofInt z ∧ -2147483648 ≤ z ∧ z ≤ 2147483647 := ⟨_, gi_of _, gi_rg _⟩
  obtain ⟨v4, e4, r4⟩ : ∃ z : Int, xs 4 = Int32.ofInt z ∧ -2147483648 ≤ z ∧ z ≤ 2147483647 := ⟨_, gi_of _, gi_rg _⟩
  obtain ⟨v5, e5, r5⟩ : ∃ z : Int, xs 5 = Int32.ofInt z ∧ -2147483648 ≤ z ∧ z ≤ 2147483647 := ⟨_, gi_of _, gi_rg _⟩
  obtain ⟨v6, e6, r6⟩ : ∃ z : Int, xs 6 = Int32.ofInt z ∧ -2147483648 ≤ z ∧ z ≤ 2147483647 := ⟨_, gi_of _, gi_rg _⟩
  refine g_aload_n (n := 1495) X 2 dL_law_1494 rfl rfl rfl ?_
  refine g_aload_n (n := 1496) X 3 dL_law_1495 rfl rfl rfl ?_
  refine g_iload_n (n := 1497) X 0 dL_law_1496 rfl rfl rfl ?_
  refine g_iconst (n := 1498) X dL_law_1497 rfl ?_
  refine g_iadd (n := 1499) (z := 1) X dL_law_1498 rfl rfl ?_
  refine g_scrld (n := 1500) (z := v1) X hb (by omega) (by omega) (by omega) dL_law_1499 rfl e1 ?_
  refine g_aload_n (n := 1501) X 3 dL_law_1500 rfl rfl rfl ?_
  refine g_iload_n (n := 1502) X 0 dL_law_1501 rfl rfl rfl ?_
  refine g_iconst (n := 1503) X dL_law_1502 rfl ?_
  refine g_iadd (n := 1504) (z := 2) X dL_law_1503 rfl rfl ?_
  refine g_scrld (n := 1505) (z := v2) X hb (by omega) (by omega) (by omega) dL_law_1504 rfl e2 ?_
  refine g_aload_n (n := 1506) X 3 dL_law_1505 rfl rfl rfl ?_
  refine g_iload_n (n := 1507) X 0 dL_law_1506 rfl rfl rfl ?_
  refine g_iconst (n := 1508) X dL_law_1507 rfl ?_
  refine g_iadd (n := 1509) (z := 3) X dL_law_1508 rfl rfl ?_
  refine g_scrld (n := 1510) (z := v3) X hb (by omega) (by omega) (by omega) dL_law_1509 rfl e3 ?_
  refine g_aload_n (n := 1511) X 3 dL_law_1510 rfl rfl rfl ?_
  refine g_iload_n (n := 1512) X 0 dL_law_1511 rfl rfl rfl ?_
  refine g_iconst (n := 1513) X dL_law_1512 rfl ?_
  refine g_iadd (n := 1514) (z := 4) X dL_law_1513 rfl rfl ?_
  refine g_scrld (n := 1515) (z := v4) X hb (by omega) (by omega) (by omega) dL_law_1514 rfl e4 ?_
  refine g_callVi (n := 1518) (As := [gJ v1, gJ v2, gJ v3, gJ v4]) (rest := []) (cs1 := 206) (ss1 := 87467) X (c_X11_owed v1 v2 v3 v4 (by omega) (by omega) (by omega) (by omega) (by omega) f_0_0 f_1_15) okX11_owed kw_5_78 ⟨kw_5_79, kw_5_80⟩ ⟨rfl, rfl⟩ ⟨Nat.le_of_ble_eq_true rfl, Nat.le_of_ble_eq_true rfl⟩ rfl (by omega) (by omega) lay_0 rfl rfl (Nat.le_of_ble_eq_true rfl) ⟨Nat.le_of_ble_eq_true rfl, Nat.le_of_ble_eq_true rfl⟩ rfl rfl dL_law_1515 rfl (fun z1 M2 P3 => ?_)
  obtain ⟨P3, F4⟩ := P3
  refine g_aload_n (n := 1519) X 1 dL_law_1518 rfl rfl rfl ?_
  refine g_aload_n (n := 1520) X 3 dL_law_1519 rfl rfl rfl ?_
  refine g_iload_n (n := 1521) X 0 dL_law_1520 rfl rfl rfl ?_
  refine g_iconst (n := 1522) X dL_law_1521 rfl ?_
  refine g_iadd (n := 1523) (z := 1) X dL_law_1522 rfl rfl ?_
  refine g_scrld (n := 1524) (z := v1) X hb (by omega) (by omega) (by omega) dL_law_1523 rfl e1 ?_
  refine g_aload_n (n := 1525) X 3 dL_law_1524 rfl rfl rfl ?_
  refine g_iload_n (n := 1526) X 0 dL_law_1525 rfl rfl rfl ?_
  refine g_iconst (n := 1527) X dL_law_1526 rfl ?_
  refine g_iadd (n := 1528) (z := 2) X dL_law_1527 rfl rfl ?_
  refine g_scrld (n := 1529) (z := v2) X hb (by omega) (by omega) (by omega) dL_law_1528 rfl e2 ?_
  refine g_aload_n (n := 1530) X 3 dL_law_1529 rfl rfl rfl ?_
  refine g_iload_n (n := 1531) X 0 dL_law_1530 rfl rfl rfl ?_
  refine g_iconst (n := 1532) X dL_law_1531 rfl ?_
  refine g_iadd (n := 1533) (z := 3) X dL_law_1532 rfl rfl ?_
  refine g_scrld (n := 1534) (z := v3) X hb (by omega) (by omega) (by omega) dL_law_1533 rfl e3 ?_
  refine g_aload_n (n := 1535) X 3 dL_law_1534 rfl rfl rfl ?_
  refine g_iload_n (n := 1536) X 0 dL_law_1535 rfl rfl rfl ?_
  refine g_iconst (n := 1537) X dL_law_1536 rfl ?_
  refine g_iadd (n := 1538) (z := 4) X dL_law_1537 rfl rfl ?_
  refine g_scrld (n := 1539) (z := v4) X hb (by omega) (by omega) (by omega) dL_law_1538 rfl e4 ?_
  refine g_callVi (n := 1542) (As := [gJ v1, gJ v2, gJ v3, gJ v4]) (rest := [gJ z1]) (cs1 := 206) (ss1 := 87467) X (c_X12_owed v1 v2 v3 v4 (by omega) (by omega) (by omega) (by omega) (by omega) ((congrFun (F4 190) _).trans f_190_1) ((congrFun (F4 191) _).trans ((hS 0 (by omega) (by omega)).trans (by decide)))) okX12_owed kw_7_196 ⟨kw_7_197, kw_7_198⟩ ⟨rfl, rfl⟩ ⟨Nat.le_of_ble_eq_true rfl, Nat.le_of_ble_eq_true rfl⟩ rfl (by omega) (by omega) lay_190 rfl rfl (Nat.le_of_ble_eq_true rfl) ⟨Nat.le_of_ble_eq_true rfl, Nat.le_of_ble_eq_true rfl⟩ rfl rfl dL_law_1539 rfl (fun z5 M6 P7 => ?_)
  obtain ⟨P7, F8⟩ := P7
  refine g_icmp_eq (n := 1545) (tgt := 1992) X dL_law_1542 (by decide) (by omega) (by omega) rfl (fun c9 => ?_) (fun c9 => by exfalso; omega)
  exact law_tail X hr hb (by omega) (by omega)
theorem dL_law_1547 : decode code 1547 = .ok (.aload_n 1, 1) := by decide +kernel
theorem dL_law_1548 : decode code 1548 = .ok (.aload_n 0, 1) := by decide +kernel
theorem dL_law_1549 : decode code 1549 = .ok (.iload_n 3, 1) := by decide +kernel
theorem dL_law_1550 : decode code 1550 = .ok (.iconst 1, 1) := by decide +kernel
theorem dL_law_1551 : decode code 1551 = .ok (.iadd, 1) := by decide +kernel
theorem dL_law_1552 : decode code 1552 = .ok (.iaload, 1) := by decide +kernel
theorem dL_law_1553 : decode code 1553 = .ok (.aload_n 0, 1) := by decide +kernel
theorem dL_law_1554 : decode code 1554 = .ok (.iload_n 3, 1) := by decide +kernel
theorem dL_law_1555 : decode code 1555 = .ok (.iconst 2, 1) := by decide +kernel
theorem dL_law_1556 : decode code 1556 = .ok (.iadd, 1) := by decide +kernel
theorem dL_law_1557 : decode code 1557 = .ok (.iaload, 1) := by decide +kernel
theorem dL_law_1558 : decode code 1558 = .ok (.aload_n 0, 1) := by decide +kernel
theorem dL_law_1559 : decode code 1559 = .ok (.iload_n 3, 1) := by decide +kernel
theorem dL_law_1560 : decode code 1560 = .ok (.iconst 3, 1) := by decide +kernel
theorem dL_law_1561 : decode code 1561 = .ok (.iadd, 1) := by decide +kernel
theorem dL_law_1562 : decode code 1562 = .ok (.iaload, 1) := by decide +kernel
theorem dL_law_1563 : decode code 1563 = .ok (.invokevirtual 149, 3) := by decide +kernel
theorem kw_5_82 : (Jvm.Cond.methodLink "ParishUnionLaw" (149 : Nat) ({ cls := "ParishUnion", name := "night", desc := "(III)I" } : Jvm.MethodName)) ∈ gT := gT_of (tb_5 _ (List.mem_of_getElem? (i := 82) rfl)) rfl
theorem kw_5_85 : (Jvm.Cond.code ({ cls := "ParishUnion", name := "night", desc := "(III)I" } : Jvm.MethodName) prog_1_method_33_code (4 : Nat) (Option.some Jvm.ClassFile.FieldType.int)) ∈ gT := gT_of (tb_5 _ (List.mem_of_getElem? (i := 85) rfl)) rfl
theorem okX11_night : gQok yX11_night cX11_night 4 (Option.some Jvm.ClassFile.FieldType.int) 3 := ⟨kw_5_85, kw_1_1, by decide +kernel, by decide +kernel, by decide +kernel⟩
theorem kw_5_83 : (Jvm.Cond.instanceMethod ({ cls := "ParishUnion", name := "night", desc := "(III)I" } : Jvm.MethodName)) ∈ gT := gT_of (tb_5 _ (List.mem_of_getElem? (i := 83) rfl)) rfl
theorem kw_5_84 : (Jvm.Cond.selects "ParishUnion" ({ cls := "ParishUnion", name := "night", desc := "(III)I" } : Jvm.MethodName) ({ cls := "ParishUnion", name := "night", desc := "(III)I" } : Jvm.MethodName)) ∈ gT := gT_of (tb_5 _ (List.mem_of_getElem? (i := 84) rfl)) rfl
theorem dL_law_1566 : decode code 1566 = .ok (.aload_n 2, 1) := by decide +kernel
theorem dL_law_1567 : decode code 1567 = .ok (.aload_n 0, 1) := by decide +kernel
theorem dL_law_1568 : decode code 1568 = .ok (.iload_n 3, 1) := by decide +kernel
theorem dL_law_1569 : decode code 1569 = .ok (.iconst 1, 1) := by decide +kernel
theorem dL_law_1570 : decode code 1570 = .ok (.iadd, 1) := by decide +kernel
theorem dL_law_1571 : decode code 1571 = .ok (.iaload, 1) := by decide +kernel
theorem dL_law_1572 : decode code 1572 = .ok (.aload_n 0, 1) := by decide +kernel
theorem dL_law_1573 : decode code 1573 = .ok (.iload_n 3, 1) := by decide +kernel
theorem dL_law_1574 : decode code 1574 = .ok (.iconst 2, 1) := by decide +kernel
theorem dL_law_1575 : decode code 1575 = .ok (.iadd, 1) := by decide +kernel
theorem dL_law_1576 : decode code 1576 = .ok (.iaload, 1) := by decide +kernel
theorem dL_law_1577 : decode code 1577 = .ok (.aload_n 0, 1) := by decide +kernel
theorem dL_law_1578 : decode code 1578 = .ok (.iload_n 3, 1) := by decide +kernel
theorem dL_law_1579 : decode code 1579 = .ok (.iconst 3, 1) := by decide +kernel
theorem dL_law_1580 : decode code 1580 = .ok (.iadd, 1) := by decide +kernel
theorem dL_law_1581 : decode code 1581 = .ok (.iaload, 1) := by decide +kernel
theorem dL_law_1582 : decode code 1582 = .ok (.invokevirtual 152, 3) := by decide +kernel
theorem kw_7_200 : (Jvm.Cond.methodLink "ParishUnionLaw" (152 : Nat) ({ cls := "ParishUnionModel", name := "night", desc := "(III)I" } : Jvm.MethodName)) ∈ gT := gT_of (tb_7 _ (List.mem_of_getElem? (i := 200) rfl)) rfl
theorem kw_7_203 : (Jvm.Cond.code ({ cls := "ParishUnionModel", name := "night", desc := "(III)I" } : Jvm.MethodName) prog_14_method_86_code (5 : Nat) (Option.some Jvm.ClassFile.FieldType.int)) ∈ gT := gT_of (tb_7 _ (List.mem_of_getElem? (i := 203) rfl)) rfl
theorem okX12_night : gQok yX12_night cX12_night 5 (Option.some Jvm.ClassFile.FieldType.int) 3 := ⟨kw_7_203, kw_1_13, by decide +kernel, by decide +kernel, by decide +kernel⟩
theorem kw_7_201 : (Jvm.Cond.instanceMethod ({ cls := "ParishUnionModel", name := "night", desc := "(III)I" } : Jvm.MethodName)) ∈ gT := gT_of (tb_7 _ (List.mem_of_getElem? (i := 201) rfl)) rfl
theorem kw_7_202 : (Jvm.Cond.selects "ParishUnionModel" ({ cls := "ParishUnionModel", name := "night", desc := "(III)I" } : Jvm.MethodName) ({ cls := "ParishUnionModel", name := "night", desc := "(III)I" } : Jvm.MethodName)) ∈ gT := gT_of (tb_7 _ (List.mem_of_getElem? (i := 202) rfl)) rfl
theorem dL_law_1585 : decode code 1585 = .ok (.if_icmp .eq 407, 3) := by decide +kernel
set_option maxRecDepth 100000 in
set_option maxHeartbeats 4000000 in
theorem law_case_31 {p : Program} {e : Env} {s : State} {m : MethodId} {below : List Frame} {meth : Method} {c : Code} {l : Launch} {D : va_G} {cA : Nat → ClassId} {b : Nat} {xs : Nat → Int32} (X : gCx p s m #[Value.ref b] meth c s.heap.size D cA "ParishUnionLaw" code 4) (hr : meth.sig.returnType = ret) (hb : b < s.heap.size ∧ va_X b 7 xs s s.heap) {M : gM} (hFr : gFr M) : G p l e room_1 s m #[Value.ref b] below meth c s.heap.size D cA 4 (lw_Z below #[Value.ref b] s) 206 87467 M 206 1547 [(3, gJ 0), (2, gA s.heap.size 190), (1, gA s.heap.size 0), (0, .ref b)] [] := by
  obtain ⟨f_0_0, f_0_1, f_0_2, f_0_3, f_0_4, f_0_5, f_0_6, f_0_7, f_0_8, f_0_9, f_1_0, f_1_1, f_1_2, f_1_3, f_1_4, f_1_5, f_1_6, f_1_7, f_1_8, f_1_9, f_1_10, f_1_11, f_1_12, f_1_13, f_1_14, f_1_15, f_2_0, f_2_1, f_5_0, f_7_0, f_9_0, f_9_1, f_9_2, f_9_3, f_9_4, f_9_5, f_15_0, f_15_1, f_15_2, f_15_3, f_15_4, f_15_5, f_15_6, f_15_7, f_15_8, f_15_9, f_23_0, f_23_1, f_26_0, f_26_1, f_26_2, f_26_3, f_87_0, f_87_1, f_87_2, f_87_3, f_87_4, f_153_0, f_153_1, f_153_2, f_153_3, f_153_4, f_159_0, f_190_0, f_190_1, f_190_2, f_190_3, f_190_4, f_190_5, f_190_6, f_190_7, f_190_8, f_190_9, f_190_10, f_190_11, f_190_12, f_190_13, f_190_14, f_190_15, f_190_16, f_190_17, f_190_18, f_190_19, f_190_20, f_190_21, f_190_22, f_190_23, rents, way, beds, frost0, rows0, rooms0, tape0, car0, hS⟩ := hFr
  obtain ⟨v0, e0, r0⟩ : ∃ z : Int, xs 0 = Int32.ofInt z ∧ -2147483648 ≤ z ∧ z ≤ 2147483647 := ⟨_, gi_of _, gi_rg _⟩
  obtain ⟨v1, e1, r1⟩ : ∃ z : Int, xs 1 = Int32.ofInt z ∧ -2147483648 ≤ z ∧ z ≤ 2147483647 := ⟨_, gi_of _, gi_rg _⟩
  obtain ⟨v2, e2, r2⟩ : ∃ z : Int, xs 2 = Int32.ofInt z ∧ -2147483648 ≤ z ∧ z ≤ 2147483647 := ⟨_, gi_of _, gi_rg _⟩
  obtain ⟨v3, e3, r3⟩ : ∃ z : Int, xs 3 = Int32.ofInt z ∧ -2147483648 ≤ z ∧ z ≤ 2147483647 := ⟨_, gi_of _, gi_rg _⟩
  obtain ⟨v4, e4, r4⟩ : ∃ z : Int, xs 4 = Int32.ofInt z ∧ -2147483648 ≤ z ∧ z ≤ 2147483647 := ⟨_, gi_of _, gi_rg _⟩
  obtain ⟨v5, e5, r5⟩ : ∃ z : Int, xs 5 = Int32.ofInt z ∧ -2147483648 ≤ z ∧ z ≤ 2147483647 := ⟨_, gi_of _, gi_rg _⟩
  obtain ⟨v6, e6, r6⟩ : ∃ z : Int, xs 6 = Int32.ofInt z ∧ -2147483648 ≤ z ∧ z ≤ 2147483647 := ⟨_, gi_of _, gi_rg _⟩
  refine g_aload_n (n := 1548) X 2 dL_law_1547 rfl rfl rfl ?_
  refine g_aload_n (n := 1549) X 3 dL_law_1548 rfl rfl rfl ?_
  refine g_iload_n (n := 1550) X 0 dL_law_1549 rfl rfl rfl ?_
  refine g_iconst (n := 1551) X dL_law_1550 rfl ?_
  refine g_iadd (n := 1552) (z := 1) X dL_law_1551 rfl rfl ?_
  refine g_scrld (n := 1553) (z := v1) X hb (by omega) (by omega) (by omega) dL_law_1552 rfl e1 ?_
  refine g_aload_n (n := 1554) X 3 dL_law_1553 rfl rfl rfl ?_
  refine g_iload_n (n := 1555) X 0 dL_law_1554 rfl rfl rfl ?_
  refine g_iconst (n := 1556) X dL_law_1555 rfl ?_
  refine g_iadd (n := 1557) (z := 2) X dL_law_1556 rfl rfl ?_
  refine g_scrld (n := 1558) (z := v2) X hb (by omega) (by omega) (by omega) dL_law_1557 rfl e2 ?_
  refine g_aload_n (n := 1559) X 3 dL_law_1558 rfl rfl rfl ?_
  refine g_iload_n (n := 1560) X 0 dL_law_1559 rfl rfl rfl ?_
  refine g_iconst (n := 1561) X dL_law_1560 rfl ?_
  refine g_iadd (n := 1562) (z := 3) X dL_law_1561 rfl rfl ?_
  refine g_scrld (n := 1563) (z := v3) X hb (by omega) (by omega) (by omega) dL_law_1562 rfl e3 ?_
  refine g_callVi (n := 1566) (As := [gJ v1, gJ v2, gJ v3]) (rest := []) (cs1 := 206) (ss1 := 87467) X (c_X11_night v1 v2 v3 (by omega) (by omega) (by omega) (by omega) f_0_0 f_1_8 f_26_3 f_26_0 f_26_1 f_26_2) okX11_night kw_5_82 ⟨kw_5_83, kw_5_84⟩ ⟨rfl, rfl⟩ ⟨Nat.le_of_ble_eq_true rfl, Nat.le_of_ble_eq_true rfl⟩ rfl (by omega) (by omega) lay_0 rfl rfl (Nat.le_of_ble_eq_true rfl) ⟨Nat.le_of_ble_eq_true rfl, Nat.le_of_ble_eq_true rfl⟩ rfl rfl dL_law_1563 rfl (fun z1 M2 P3 => ?_)
  obtain ⟨P3, F4⟩ := P3
  refine g_aload_n (n := 1567) X 1 dL_law_1566 rfl rfl rfl ?_
  refine g_aload_n (n := 1568) X 3 dL_law_1567 rfl rfl rfl ?_
  refine g_iload_n (n := 1569) X 0 dL_law_1568 rfl rfl rfl ?_
  refine g_iconst (n := 1570) X dL_law_1569 rfl ?_
  refine g_iadd (n := 1571) (z := 1) X dL_law_1570 rfl rfl ?_
  refine g_scrld (n := 1572) (z := v1) X hb (by omega) (by omega) (by omega) dL_law_1571 rfl e1 ?_
  refine g_aload_n (n := 1573) X 3 dL_law_1572 rfl rfl rfl ?_
  refine g_iload_n (n := 1574) X 0 dL_law_1573 rfl rfl rfl ?_
  refine g_iconst (n := 1575) X dL_law_1574 rfl ?_
  refine g_iadd (n := 1576) (z := 2) X dL_law_1575 rfl rfl ?_
  refine g_scrld (n := 1577) (z := v2) X hb (by omega) (by omega) (by omega) dL_law_1576 rfl e2 ?_
  refine g_aload_n (n := 1578) X 3 dL_law_1577 rfl rfl rfl ?_
  refine g_iload_n (n := 1579) X 0 dL_law_1578 rfl rfl rfl ?_
  refine g_iconst (n := 1580) X dL_law_1579 rfl ?_
  refine g_iadd (n := 1581) (z := 3) X dL_law_1580 rfl rfl ?_
  refine g_scrld (n := 1582) (z := v3) X hb (by omega) (by omega) (by omega) dL_law_1581 rfl e3 ?_
  refine g_callVi (n := 1585) (As := [gJ v1, gJ v2, gJ v3]) (rest := [gJ z1]) (cs1 := 206) (ss1 := 87467) X (c_X12_night v1 v2 v3 (by omega) (by omega) (by omega) (by omega) ((congrFun (F4 190 (by omega) (by omega) (by omega) (by omega)) _).trans f_190_1) ((congrFun (F4 191 (by omega) (by omega) (by omega) (by omega)) _).trans ((hS 6 (by omega) (by omega)).trans (by decide)))) okX12_night kw_7_200 ⟨kw_7_201, kw_7_202⟩ ⟨rfl, rfl⟩ ⟨Nat.le_of_ble_eq_true rfl, Nat.le_of_ble_eq_true rfl⟩ rfl (by omega) (by omega) lay_190 rfl rfl (Nat.le_of_ble_eq_true rfl) ⟨Nat.le_of_ble_eq_true rfl, Nat.le_of_ble_eq_true rfl⟩ rfl rfl dL_law_1582 rfl (fun z5 M6 P7 => ?_)
  obtain ⟨P7, F8⟩ := P7
  refine g_icmp_eq (n := 1588) (tgt := 1992) X dL_law_1585 (by decide) (by omega) (by omega) rfl (fun c9 => ?_) (fun c9 => by exfalso; omega)
  exact law_tail X hr hb (by omega) (by omega)
