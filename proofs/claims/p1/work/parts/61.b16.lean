theorem dL_law_1032 : decode code 1032 = .ok (.aload_n 1, 1) := by decide +kernel
theorem dL_law_1033 : decode code 1033 = .ok (.aload_n 0, 1) := by decide +kernel
theorem dL_law_1034 : decode code 1034 = .ok (.iload_n 3, 1) := by decide +kernel
theorem dL_law_1035 : decode code 1035 = .ok (.iconst 1, 1) := by decide +kernel
theorem dL_law_1036 : decode code 1036 = .ok (.iadd, 1) := by decide +kernel
theorem dL_law_1037 : decode code 1037 = .ok (.iaload, 1) := by decide +kernel
theorem dL_law_1038 : decode code 1038 = .ok (.aload_n 0, 1) := by decide +kernel
theorem dL_law_1039 : decode code 1039 = .ok (.iload_n 3, 1) := by decide +kernel
theorem dL_law_1040 : decode code 1040 = .ok (.iconst 2, 1) := by decide +kernel
theorem dL_law_1041 : decode code 1041 = .ok (.iadd, 1) := by decide +kernel
theorem dL_law_1042 : decode code 1042 = .ok (.iaload, 1) := by decide +kernel
theorem dL_law_1043 : decode code 1043 = .ok (.invokevirtual 89, 3) := by decide +kernel
theorem kw_4_93 : (Jvm.Cond.methodLink "ParishUnionLaw" (89 : Nat) ({ cls := "ParishUnion", name := "offer", desc := "(II)I" } : Jvm.MethodName)) ∈ gT := gT_of (tb_4 _ (List.mem_of_getElem? (i := 93) rfl)) rfl
theorem kw_4_96 : (Jvm.Cond.code ({ cls := "ParishUnion", name := "offer", desc := "(II)I" } : Jvm.MethodName) prog_1_method_18_code (4 : Nat) (Option.some Jvm.ClassFile.FieldType.int)) ∈ gT := gT_of (tb_4 _ (List.mem_of_getElem? (i := 96) rfl)) rfl
theorem okX11_offer : gQok yX11_offer cX11_offer 4 (Option.some Jvm.ClassFile.FieldType.int) 2 := ⟨kw_4_96, kw_1_1, by decide +kernel, by decide +kernel, by decide +kernel⟩
theorem kw_4_94 : (Jvm.Cond.instanceMethod ({ cls := "ParishUnion", name := "offer", desc := "(II)I" } : Jvm.MethodName)) ∈ gT := gT_of (tb_4 _ (List.mem_of_getElem? (i := 94) rfl)) rfl
theorem kw_4_95 : (Jvm.Cond.selects "ParishUnion" ({ cls := "ParishUnion", name := "offer", desc := "(II)I" } : Jvm.MethodName) ({ cls := "ParishUnion", name := "offer", desc := "(II)I" } : Jvm.MethodName)) ∈ gT := gT_of (tb_4 _ (List.mem_of_getElem? (i := 95) rfl)) rfl
theorem dL_law_1046 : decode code 1046 = .ok (.aload_n 2, 1) := by decide +kernel
theorem dL_law_1047 : decode code 1047 = .ok (.aload_n 0, 1) := by decide +kernel
theorem dL_law_1048 : decode code 1048 = .ok (.iload_n 3, 1) := by decide +kernel
theorem dL_law_1049 : decode code 1049 = .ok (.iconst 1, 1) := by decide +kernel
theorem dL_law_1050 : decode code 1050 = .ok (.iadd, 1) := by decide +kernel
theorem dL_law_1051 : decode code 1051 = .ok (.iaload, 1) := by decide +kernel
theorem dL_law_1052 : decode code 1052 = .ok (.aload_n 0, 1) := by decide +kernel
theorem dL_law_1053 : decode code 1053 = .ok (.iload_n 3, 1) := by decide +kernel
theorem dL_law_1054 : decode code 1054 = .ok (.iconst 2, 1) := by decide +kernel
theorem dL_law_1055 : decode code 1055 = .ok (.iadd, 1) := by decide +kernel
theorem dL_law_1056 : decode code 1056 = .ok (.iaload, 1) := by decide +kernel
theorem dL_law_1057 : decode code 1057 = .ok (.invokevirtual 92, 3) := by decide +kernel
theorem kw_7_78 : (Jvm.Cond.methodLink "ParishUnionLaw" (92 : Nat) ({ cls := "ParishUnionModel", name := "offer", desc := "(II)I" } : Jvm.MethodName)) ∈ gT := gT_of (tb_7 _ (List.mem_of_getElem? (i := 78) rfl)) rfl
theorem kw_7_81 : (Jvm.Cond.code ({ cls := "ParishUnionModel", name := "offer", desc := "(II)I" } : Jvm.MethodName) prog_14_method_60_code (4 : Nat) (Option.some Jvm.ClassFile.FieldType.int)) ∈ gT := gT_of (tb_7 _ (List.mem_of_getElem? (i := 81) rfl)) rfl
theorem okX12_offer : gQok yX12_offer cX12_offer 4 (Option.some Jvm.ClassFile.FieldType.int) 2 := ⟨kw_7_81, kw_1_13, by decide +kernel, by decide +kernel, by decide +kernel⟩
theorem kw_7_79 : (Jvm.Cond.instanceMethod ({ cls := "ParishUnionModel", name := "offer", desc := "(II)I" } : Jvm.MethodName)) ∈ gT := gT_of (tb_7 _ (List.mem_of_getElem? (i := 79) rfl)) rfl
theorem kw_7_80 : (Jvm.Cond.selects "ParishUnionModel" ({ cls := "ParishUnionModel", name := "offer", desc := "(II)I" } : Jvm.MethodName) ({ cls := "ParishUnionModel", name := "offer", desc := "(II)I" } : Jvm.MethodName)) ∈ gT := gT_of (tb_7 _ (List.mem_of_getElem? (i := 80) rfl)) rfl
theorem dL_law_1060 : decode code 1060 = .ok (.if_icmp .eq 932, 3) := by decide +kernel
set_option maxRecDepth 100000 in
set_option maxHeartbeats 4000000 in
theorem law_case_16 {p : Program} {e : Env} {s : State} {m : MethodId} {below : List Frame} {meth : Method} {c : Code} {l : Launch} {D : va_G} {cA : Nat → ClassId} {b : Nat} {xs : Nat → Int32} (X : gCx p s m #[Value.ref b] meth c s.heap.size D cA "ParishUnionLaw" code 4) (hr : meth.sig.returnType = ret) (hb : b < s.heap.size ∧ va_X b 7 xs s s.heap) {M : gM} (hFr : gFr M) : G p l e room_1 s m #[Value.ref b] below meth c s.heap.size D cA 4 (lw_Z below #[Value.ref b] s) 206 87467 M 206 1032 [(3, gJ 0), (2, gA s.heap.size 190), (1, gA s.heap.size 0), (0, .ref b)] [] := by
  have rents := gFr_rents hFr
  have way := gFr_way hFr
  have beds := gFr_beds hFr
  have frost0 := gFr_frost0 hFr
  have rows0 := gFr_rows0 hFr
  have rooms0 := gFr_rooms0 hFr
  have tape0 := gFr_tape0 hFr
  have car0 := gFr_car0 hFr
  have hS := gFr_hS hFr
  obtain ⟨v0, e0, r0⟩ : ∃ z : Int, xs 0 = Int32.ofInt z ∧ -2147483648 ≤ z ∧ z ≤ 2147483647 := ⟨_, gi_of _, gi_rg _⟩
  obtain ⟨v1, e1, r1⟩ : ∃ z : Int, xs 1 = Int32.ofInt z ∧ -2147483648 ≤ z ∧ z ≤ 2147483647 := ⟨_, gi_of _, gi_rg _⟩
  obtain ⟨v2, e2, r2⟩ : ∃ z : Int, xs 2 = Int32.ofInt z ∧ -2147483648 ≤ z ∧ z ≤ 2147483647 := ⟨_, gi_of _, gi_rg _⟩
  obtain ⟨v3, e3, r3⟩ : ∃ z : Int, xs 3 = Int32.ofInt z ∧ -2147483648 ≤ z ∧ z ≤ 2147483647 := ⟨_, gi_of _, gi_rg _⟩
  obtain ⟨v4, e4, r4⟩ : ∃ z : Int, xs 4 = Int32.ofInt z ∧ -2147483648 ≤ z ∧ z ≤ 2147483647 := ⟨_, gi_of _, gi_rg _⟩
  obtain ⟨v5, e5, r5⟩ : ∃ z : Int, xs 5 = Int32.ofInt z ∧ -2147483648 ≤ z ∧ z ≤ 2147483647 := ⟨_, gi_of _, gi_rg _⟩
  obtain ⟨v6, e6, r6⟩ : ∃ z : Int, xs 6 = Int32.ofInt z ∧ -2147483648 ≤ z ∧ z ≤ 2147483647 := ⟨_, gi_of _, gi_rg _⟩
  refine g_aload_n (n := 1033) X 2 dL_law_1032 rfl rfl rfl ?_
  refine g_aload_n (n := 1034) X 3 dL_law_1033 rfl rfl rfl ?_
  refine g_iload_n (n := 1035) X 0 dL_law_1034 rfl rfl rfl ?_
  refine g_iconst (n := 1036) X dL_law_1035 rfl ?_
  refine g_iadd (n := 1037) (z := 1) X dL_law_1036 rfl rfl ?_
  refine g_scrld (n := 1038) (z := v1) X hb (by omega) (by omega) (by omega) dL_law_1037 rfl e1 ?_
  refine g_aload_n (n := 1039) X 3 dL_law_1038 rfl rfl rfl ?_
  refine g_iload_n (n := 1040) X 0 dL_law_1039 rfl rfl rfl ?_
  refine g_iconst (n := 1041) X dL_law_1040 rfl ?_
  refine g_iadd (n := 1042) (z := 2) X dL_law_1041 rfl rfl ?_
  refine g_scrld (n := 1043) (z := v2) X hb (by omega) (by omega) (by omega) dL_law_1042 rfl e2 ?_
  refine g_callVi (n := 1046) (As := [gJ v1, gJ v2]) (rest := []) (cs1 := 206) (ss1 := 87467) X (c_X11_offer v1 v2 (by omega) (by omega) (by omega) (gFr_0_0 hFr) (gFr_1_10 hFr)) okX11_offer kw_4_93 ⟨kw_4_94, kw_4_95⟩ ⟨rfl, rfl⟩ ⟨Nat.le_of_ble_eq_true rfl, Nat.le_of_ble_eq_true rfl⟩ rfl (by omega) (by omega) lay_0 rfl rfl (Nat.le_of_ble_eq_true rfl) ⟨Nat.le_of_ble_eq_true rfl, Nat.le_of_ble_eq_true rfl⟩ rfl rfl dL_law_1043 rfl (fun z1 M2 P3 => ?_)
  obtain ⟨P3, F4⟩ := P3
  refine g_aload_n (n := 1047) X 1 dL_law_1046 rfl rfl rfl ?_
  refine g_aload_n (n := 1048) X 3 dL_law_1047 rfl rfl rfl ?_
  refine g_iload_n (n := 1049) X 0 dL_law_1048 rfl rfl rfl ?_
  refine g_iconst (n := 1050) X dL_law_1049 rfl ?_
  refine g_iadd (n := 1051) (z := 1) X dL_law_1050 rfl rfl ?_
  refine g_scrld (n := 1052) (z := v1) X hb (by omega) (by omega) (by omega) dL_law_1051 rfl e1 ?_
  refine g_aload_n (n := 1053) X 3 dL_law_1052 rfl rfl rfl ?_
  refine g_iload_n (n := 1054) X 0 dL_law_1053 rfl rfl rfl ?_
  refine g_iconst (n := 1055) X dL_law_1054 rfl ?_
  refine g_iadd (n := 1056) (z := 2) X dL_law_1055 rfl rfl ?_
  refine g_scrld (n := 1057) (z := v2) X hb (by omega) (by omega) (by omega) dL_law_1056 rfl e2 ?_
  refine g_callVi (n := 1060) (As := [gJ v1, gJ v2]) (rest := [gJ z1]) (cs1 := 206) (ss1 := 87467) X (c_X12_offer v1 v2 (by omega) (by omega) (by omega) ((congrFun (F4 190) _).trans (gFr_190_1 hFr)) ((congrFun (F4 191) _).trans ((hS 1 (by omega) (by omega)).trans (by decide)))) okX12_offer kw_7_78 ⟨kw_7_79, kw_7_80⟩ ⟨rfl, rfl⟩ ⟨Nat.le_of_ble_eq_true rfl, Nat.le_of_ble_eq_true rfl⟩ rfl (by omega) (by omega) lay_190 rfl rfl (Nat.le_of_ble_eq_true rfl) ⟨Nat.le_of_ble_eq_true rfl, Nat.le_of_ble_eq_true rfl⟩ rfl rfl dL_law_1057 rfl (fun z5 M6 P7 => ?_)
  obtain ⟨P7, F8⟩ := P7
  refine g_icmp_eq (n := 1063) (tgt := 1992) X dL_law_1060 (by decide) (by omega) (by omega) rfl (fun c9 => ?_) (fun c9 => by exfalso; omega)
  exact law_tail X hr hb (by omega) (by omega)
theorem dL_law_1065 : decode code 1065 = .ok (.aload_n 1, 1) := by decide +kernel
theorem dL_law_1066 : decode code 1066 = .ok (.aload_n 0, 1) := by decide +kernel
theorem dL_law_1067 : decode code 1067 = .ok (.iload_n 3, 1) := by decide +kernel
theorem dL_law_1068 : decode code 1068 = .ok (.iconst 1, 1) := by decide +kernel
theorem dL_law_1069 : decode code 1069 = .ok (.iadd, 1) := by decide +kernel
theorem dL_law_1070 : decode code 1070 = .ok (.iaload, 1) := by decide +kernel
theorem dL_law_1071 : decode code 1071 = .ok (.aload_n 0, 1) := by decide +kernel
theorem dL_law_1072 : decode code 1072 = .ok (.iload_n 3, 1) := by decide +kernel
theorem dL_law_1073 : decode code 1073 = .ok (.iconst 2, 1) := by decide +kernel
theorem dL_law_1074 : decode code 1074 = .ok (.iadd, 1) := by decide +kernel
theorem dL_law_1075 : decode code 1075 = .ok (.iaload, 1) := by decide +kernel
theorem dL_law_1076 : decode code 1076 = .ok (.invokevirtual 93, 3) := by decide +kernel
theorem kw_4_126 : (Jvm.Cond.methodLink "ParishUnionLaw" (93 : Nat) ({ cls := "ParishUnion", name := "order", desc := "(II)I" } : Jvm.MethodName)) ∈ gT := gT_of (tb_4 _ (List.mem_of_getElem? (i := 126) rfl)) rfl
theorem kw_4_129 : (Jvm.Cond.code ({ cls := "ParishUnion", name := "order", desc := "(II)I" } : Jvm.MethodName) prog_1_method_19_code (4 : Nat) (Option.some Jvm.ClassFile.FieldType.int)) ∈ gT := gT_of (tb_4 _ (List.mem_of_getElem? (i := 129) rfl)) rfl
theorem okX11_order : gQok yX11_order cX11_order 4 (Option.some Jvm.ClassFile.FieldType.int) 2 := ⟨kw_4_129, kw_1_1, by decide +kernel, by decide +kernel, by decide +kernel⟩
theorem kw_4_127 : (Jvm.Cond.instanceMethod ({ cls := "ParishUnion", name := "order", desc := "(II)I" } : Jvm.MethodName)) ∈ gT := gT_of (tb_4 _ (List.mem_of_getElem? (i := 127) rfl)) rfl
theorem kw_4_128 : (Jvm.Cond.selects "ParishUnion" ({ cls := "ParishUnion", name := "order", desc := "(II)I" } : Jvm.MethodName) ({ cls := "ParishUnion", name := "order", desc := "(II)I" } : Jvm.MethodName)) ∈ gT := gT_of (tb_4 _ (List.mem_of_getElem? (i := 128) rfl)) rfl
theorem dL_law_1079 : decode code 1079 = .ok (.aload_n 2, 1) := by decide +kernel
theorem dL_law_1080 : decode code 1080 = .ok (.aload_n 0, 1) := by decide +kernel
theorem dL_law_1081 : decode code 1081 = .ok (.iload_n 3, 1) := by decide +kernel
theorem dL_law_1082 : decode code 1082 = .ok (.iconst 1, 1) := by decide +kernel
theorem dL_law_1083 : decode code 1083 = .ok (.iadd, 1) := by decide +kernel
theorem dL_law_1084 : decode code 1084 = .ok (.iaload, 1) := by decide +kernel
theorem dL_law_1085 : decode code 1085 = .ok (.aload_n 0, 1) := by decide +kernel
theorem dL_law_1086 : decode code 1086 = .ok (.iload_n 3, 1) := by decide +kernel
theorem dL_law_1087 : decode code 1087 = .ok (.iconst 2, 1) := by decide +kernel
theorem dL_law_1088 : decode code 1088 = .ok (.iadd, 1) := by decide +kernel
theorem dL_law_1089 : decode code 1089 = .ok (.iaload, 1) := by decide +kernel
theorem dL_law_1090 : decode code 1090 = .ok (.invokevirtual 96, 3) := by decide +kernel
theorem kw_7_94 : (Jvm.Cond.methodLink "ParishUnionLaw" (96 : Nat) ({ cls := "ParishUnionModel", name := "order", desc := "(II)I" } : Jvm.MethodName)) ∈ gT := gT_of (tb_7 _ (List.mem_of_getElem? (i := 94) rfl)) rfl
theorem kw_7_97 : (Jvm.Cond.code ({ cls := "ParishUnionModel", name := "order", desc := "(II)I" } : Jvm.MethodName) prog_14_method_61_code (5 : Nat) (Option.some Jvm.ClassFile.FieldType.int)) ∈ gT := gT_of (tb_7 _ (List.mem_of_getElem? (i := 97) rfl)) rfl
theorem okX12_order : gQok yX12_order cX12_order 5 (Option.some Jvm.ClassFile.FieldType.int) 2 := ⟨kw_7_97, kw_1_13, by decide +kernel, by decide +kernel, by decide +kernel⟩
theorem kw_7_95 : (Jvm.Cond.instanceMethod ({ cls := "ParishUnionModel", name := "order", desc := "(II)I" } : Jvm.MethodName)) ∈ gT := gT_of (tb_7 _ (List.mem_of_getElem? (i := 95) rfl)) rfl
theorem kw_7_96 : (Jvm.Cond.selects "ParishUnionModel" ({ cls := "ParishUnionModel", name := "order", desc := "(II)I" } : Jvm.MethodName) ({ cls := "ParishUnionModel", name := "order", desc := "(II)I" } : Jvm.MethodName)) ∈ gT := gT_of (tb_7 _ (List.mem_of_getElem? (i := 96) rfl)) rfl
theorem dL_law_1093 : decode code 1093 = .ok (.if_icmp .eq 899, 3) := by decide +kernel
set_option maxRecDepth 100000 in
set_option maxHeartbeats 4000000 in
theorem law_case_17 {p : Program} {e : Env} {s : State} {m : MethodId} {below : List Frame} {meth : Method} {c : Code} {l : Launch} {D : va_G} {cA : Nat → ClassId} {b : Nat} {xs : Nat → Int32} (X : gCx p s m #[Value.ref b] meth c s.heap.size D cA "ParishUnionLaw" code 4) (hr : meth.sig.returnType = ret) (hb : b < s.heap.size ∧ va_X b 7 xs s s.heap) {M : gM} (hFr : gFr M) : G p l e room_1 s m #[Value.ref b] below meth c s.heap.size D cA 4 (lw_Z below #[Value.ref b] s) 206 87467 M 206 1065 [(3, gJ 0), (2, gA s.heap.size 190), (1, gA s.heap.size 0), (0, .ref b)] [] := by
  have rents := gFr_rents hFr
  have way := gFr_way hFr
  have beds := gFr_beds hFr
  have frost0 := gFr_frost0 hFr
  have rows0 := gFr_rows0 hFr
  have rooms0 := gFr_rooms0 hFr
  have tape0 := gFr_tape0 hFr
  have car0 := gFr_car0 hFr
  have hS := gFr_hS hFr
  obtain ⟨v0, e0, r0⟩ : ∃ z : Int, xs 0 = Int32.ofInt z ∧ -2147483648 ≤ z ∧ z ≤ 2147483647 := ⟨_, gi_of _, gi_rg _⟩
  obtain ⟨v1, e1, r1⟩ : ∃ z : Int, xs 1 = Int32.ofInt z ∧ -2147483648 ≤ z ∧ z ≤ 2147483647 := ⟨_, gi_of _, gi_rg _⟩
  obtain ⟨v2, e2, r2⟩ : ∃ z : Int, xs 2 = Int32.ofInt z ∧ -2147483648 ≤ z ∧ z ≤ 2147483647 := ⟨_, gi_of _, gi_rg _⟩
  obtain ⟨v3, e3, r3⟩ : ∃ z : Int, xs 3 = Int32.ofInt z ∧ -2147483648 ≤ z ∧ z ≤ 2147483647 := ⟨_, gi_of _, gi_rg _⟩
  obtain ⟨v4, e4, r4⟩ : ∃ z : Int, xs 4 = Int32.ofInt z ∧ -2147483648 ≤ z ∧ z ≤ 2147483647 := ⟨_, gi_of _, gi_rg _⟩
  obtain ⟨v5, e5, r5⟩ : ∃ z : Int, xs 5 = Int32.ofInt z ∧ -2147483648 ≤ z ∧ z ≤ 2147483647 := ⟨_, gi_of _, gi_rg _⟩
  obtain ⟨v6, e6, r6⟩ : ∃ z : Int, xs 6 = Int32.ofInt z ∧ -2147483648 ≤ z ∧ z ≤ 2147483647 := ⟨_, gi_of _, gi_rg _⟩
  refine g_aload_n (n := 1066) X 2 dL_law_1065 rfl rfl rfl ?_
  refine g_aload_n (n := 1067) X 3 dL_law_1066 rfl rfl rfl ?_
  refine g_iload_n (n := 1068) X 0 dL_law_1067 rfl rfl rfl ?_
  refine g_iconst (n := 1069) X dL_law_1068 rfl ?_
  refine g_iadd (n := 1070) (z := 1) X dL_law_1069 rfl rfl ?_
  refine g_scrld (n := 1071) (z := v1) X hb (by omega) (by omega) (by omega) dL_law_1070 rfl e1 ?_
  refine g_aload_n (n := 1072) X 3 dL_law_1071 rfl rfl rfl ?_
  refine g_iload_n (n := 1073) X 0 dL_law_1072 rfl rfl rfl ?_
  refine g_iconst (n := 1074) X dL_law_1073 rfl ?_
  refine g_iadd (n := 1075) (z := 2) X dL_law_1074 rfl rfl ?_
  refine g_scrld (n := 1076) (z := v2) X hb (by omega) (by omega) (by omega) dL_law_1075 rfl e2 ?_
  refine g_callVi (n := 1079) (As := [gJ v1, gJ v2]) (rest := []) (cs1 := 206) (ss1 := 87467) X (c_X11_order v1 v2 (by omega) (by omega) (by omega) (gFr_0_0 hFr) (gFr_1_10 hFr)) okX11_order kw_4_126 ⟨kw_4_127, kw_4_128⟩ ⟨rfl, rfl⟩ ⟨Nat.le_of_ble_eq_true rfl, Nat.le_of_ble_eq_true rfl⟩ rfl (by omega) (by omega) lay_0 rfl rfl (Nat.le_of_ble_eq_true rfl) ⟨Nat.le_of_ble_eq_true rfl, Nat.le_of_ble_eq_true rfl⟩ rfl rfl dL_law_1076 rfl (fun z1 M2 P3 => ?_)
  obtain ⟨P3, F4⟩ := P3
  refine g_aload_n (n := 1080) X 1 dL_law_1079 rfl rfl rfl ?_
  refine g_aload_n (n := 1081) X 3 dL_law_1080 rfl rfl rfl ?_
  refine g_iload_n (n := 1082) X 0 dL_law_1081 rfl rfl rfl ?_
  refine g_iconst (n := 1083) X dL_law_1082 rfl ?_
  refine g_iadd (n := 1084) (z := 1) X dL_law_1083 rfl rfl ?_
  refine g_scrld (n := 1085) (z := v1) X hb (by omega) (by omega) (by omega) dL_law_1084 rfl e1 ?_
  refine g_aload_n (n := 1086) X 3 dL_law_1085 rfl rfl rfl ?_
  refine g_iload_n (n := 1087) X 0 dL_law_1086 rfl rfl rfl ?_
  refine g_iconst (n := 1088) X dL_law_1087 rfl ?_
  refine g_iadd (n := 1089) (z := 2) X dL_law_1088 rfl rfl ?_
  refine g_scrld (n := 1090) (z := v2) X hb (by omega) (by omega) (by omega) dL_law_1089 rfl e2 ?_
  refine g_callVi (n := 1093) (As := [gJ v1, gJ v2]) (rest := [gJ z1]) (cs1 := 206) (ss1 := 87467) X (c_X12_order v1 v2 (by omega) (by omega) (by omega) ((congrFun (F4 190) _).trans (gFr_190_1 hFr)) ((congrFun (F4 191) _).trans ((hS 1 (by omega) (by omega)).trans (by decide)))) okX12_order kw_7_94 ⟨kw_7_95, kw_7_96⟩ ⟨rfl, rfl⟩ ⟨Nat.le_of_ble_eq_true rfl, Nat.le_of_ble_eq_true rfl⟩ rfl (by omega) (by omega) lay_190 rfl rfl (Nat.le_of_ble_eq_true rfl) ⟨Nat.le_of_ble_eq_true rfl, Nat.le_of_ble_eq_true rfl⟩ rfl rfl dL_law_1090 rfl (fun z5 M6 P7 => ?_)
  obtain ⟨P7, F8⟩ := P7
  refine g_icmp_eq (n := 1096) (tgt := 1992) X dL_law_1093 (by decide) (by omega) (by omega) rfl (fun c9 => ?_) (fun c9 => by exfalso; omega)
  exact law_tail X hr hb (by omega) (by omega)
theorem dL_law_1098 : decode code 1098 = .ok (.aload_n 1, 1) := by decide +kernel
theorem dL_law_1099 : decode code 1099 = .ok (.aload_n 0, 1) := by decide +kernel
theorem dL_law_1100 : decode code 1100 = .ok (.iload_n 3, 1) := by decide +kernel
theorem dL_law_1101 : decode code 1101 = .ok (.iconst 1, 1) := by decide +kernel
theorem dL_law_1102 : decode code 1102 = .ok (.iadd, 1) := by decide +kernel
theorem dL_law_1103 : decode code 1103 = .ok (.iaload, 1) := by decide +kernel
theorem dL_law_1104 : decode code 1104 = .ok (.aload_n 0, 1) := by decide +kernel
theorem dL_law_1105 : decode code 1105 = .ok (.iload_n 3, 1) := by decide +kernel
theorem dL_law_1106 : decode code 1106 = .ok (.iconst 2, 1) := by decide +kernel
theorem dL_law_1107 : decode code 1107 = .ok (.iadd, 1) := by decide +kernel
theorem dL_law_1108 : decode code 1108 = .ok (.iaload, 1) := by decide +kernel
theorem dL_law_1109 : decode code 1109 = .ok (.aload_n 0, 1) := by decide +kernel
theorem dL_law_1110 : decode code 1110 = .ok (.iload_n 3, 1) := by decide +kernel
theorem dL_law_1111 : decode code 1111 = .ok (.iconst 3, 1) := by decide +kernel
theorem dL_law_1112 : decode code 1112 = .ok (.iadd, 1) := by decide +kernel
theorem dL_law_1113 : decode code 1113 = .ok (.iaload, 1) := by decide +kernel
theorem dL_law_1114 : decode code 1114 = .ok (.invokevirtual 97, 3) := by decide +kernel
theorem kw_4_135 : (Jvm.Cond.methodLink "ParishUnionLaw" (97 : Nat) ({ cls := "ParishUnion", name := "appeal", desc := "(III)I" } : Jvm.MethodName)) ∈ gT := gT_of (tb_4 _ (List.mem_of_getElem? (i := 135) rfl)) rfl
theorem kw_4_138 : (Jvm.Cond.code ({ cls := "ParishUnion", name := "appeal", desc := "(III)I" } : Jvm.MethodName) prog_1_method_20_code (4 : Nat) (Option.some Jvm.ClassFile.FieldType.int)) ∈ gT := gT_of (tb_4 _ (List.mem_of_getElem? (i := 138) rfl)) rfl
theorem okX11_appeal : gQok yX11_appeal cX11_appeal 4 (Option.some Jvm.ClassFile.FieldType.int) 3 := ⟨kw_4_138, kw_1_1, by decide +kernel, by decide +kernel, by decide +kernel⟩
theorem kw_4_136 : (Jvm.Cond.instanceMethod ({ cls := "ParishUnion", name := "appeal", desc := "(III)I" } : Jvm.MethodName)) ∈ gT := gT_of (tb_4 _ (List.mem_of_getElem? (i := 136) rfl)) rfl
theorem kw_4_137 : (Jvm.Cond.selects "ParishUnion" ({ cls := "ParishUnion", name := "appeal", desc := "(III)I" } : Jvm.MethodName) ({ cls := "ParishUnion", name := "appeal", desc := "(III)I" } : Jvm.MethodName)) ∈ gT := gT_of (tb_4 _ (List.mem_of_getElem? (i := 137) rfl)) rfl
theorem dL_law_1117 : decode code 1117 = .ok (.aload_n 2, 1) := by decide +kernel
theorem dL_law_1118 : decode code 1118 = .ok (.aload_n 0, 1) := by decide +kernel
theorem dL_law_1119 : decode code 1119 = .ok (.iload_n 3, 1) := by decide +kernel
theorem dL_law_1120 : decode code 1120 = .ok (.iconst 1, 1) := by decide +kernel
theorem dL_law_1121 : decode code 1121 = .ok (.iadd, 1) := by decide +kernel
theorem dL_law_1122 : decode code 1122 = .ok (.iaload, 1) := by decide +kernel
theorem dL_law_1123 : decode code 1123 = .ok (.aload_n 0, 1) := by decide +kernel
theorem dL_law_1124 : decode code 1124 = .ok (.iload_n 3, 1) := by decide +kernel
theorem dL_law_1125 : decode code 1125 = .ok (.iconst 2, 1) := by decide +kernel
theorem dL_law_1126 : decode code 1126 = .ok (.iadd, 1) := by decide +kernel
theorem dL_law_1127 : decode code 1127 = .ok (.iaload, 1) := by decide +kernel
theorem dL_law_1128 : decode code 1128 = .ok (.aload_n 0, 1) := by decide +kernel
theorem dL_law_1129 : decode code 1129 = .ok (.iload_n 3, 1) := by decide +kernel
theorem dL_law_1130 : decode code 1130 = .ok (.iconst 3, 1) := by decide +kernel
theorem dL_law_1131 : decode code 1131 = .ok (.iadd, 1) := by decide +kernel
theorem dL_law_1132 : decode code 1132 = .ok (.iaload, 1) := by decide +kernel
theorem dL_law_1133 : decode code 1133 = .ok (.invokevirtual 100, 3) := by decide +kernel
theorem kw_7_98 : (Jvm.Cond.methodLink "ParishUnionLaw" (100 : Nat) ({ cls := "ParishUnionModel", name := "appeal", desc := "(III)I" } : Jvm.MethodName)) ∈ gT := gT_of (tb_7 _ (List.mem_of_getElem? (i := 98) rfl)) rfl
theorem kw_7_101 : (Jvm.Cond.code ({ cls := "ParishUnionModel", name := "appeal", desc := "(III)I" } : Jvm.MethodName) prog_14_method_64_code (4 : Nat) (Option.some Jvm.ClassFile.FieldType.int)) ∈ gT := gT_of (tb_7 _ (List.mem_of_getElem? (i := 101) rfl)) rfl
theorem okX12_appeal : gQok yX12_appeal cX12_appeal 4 (Option.some Jvm.ClassFile.FieldType.int) 3 := ⟨kw_7_101, kw_1_13, by decide +kernel, by decide +kernel, by decide +kernel⟩
theorem kw_7_99 : (Jvm.Cond.instanceMethod ({ cls := "ParishUnionModel", name := "appeal", desc := "(III)I" } : Jvm.MethodName)) ∈ gT := gT_of (tb_7 _ (List.mem_of_getElem? (i := 99) rfl)) rfl
theorem kw_7_100 : (Jvm.Cond.selects "ParishUnionModel" ({ cls := "ParishUnionModel", name := "appeal", desc := "(III)I" } : Jvm.MethodName) ({ cls := "ParishUnionModel", name := "appeal", desc := "(III)I" } : Jvm.MethodName)) ∈ gT := gT_of (tb_7 _ (List.mem_of_getElem? (i := 100) rfl)) rfl
theorem dL_law_1136 : decode code 1136 = .ok (.if_icmp .eq 856, 3) := by decide +kernel
set_option maxRecDepth 100000 in
set_option maxHeartbeats 4000000 in
theorem law_case_18 {p : Program} {e : Env} {s : State} {m : MethodId} {below : List Frame} {meth : Method} {c : Code} {l : Launch} {D : va_G} {cA : Nat → ClassId} {b : Nat} {xs : Nat → Int32} (X : gCx p s m #[Value.ref b] meth c s.heap.size D cA "ParishUnionLaw" code 4) (hr : meth.sig.returnType = ret) (hb : b < s.heap.size ∧ va_X b 7 xs s s.heap) {M : gM} (hFr : gFr M) : G p l e room_1 s m #[Value.ref b] below meth c s.heap.size D cA 4 (lw_Z below #[Value.ref b] s) 206 87467 M 206 1098 [(3, gJ 0), (2, gA s.heap.size 190), (1, gA s.heap.size 0), (0, .ref b)] [] := by
  have rents := gFr_rents hFr
  have way := gFr_way hFr
  have beds := gFr_beds hFr
  have frost0 := gFr_frost0 hFr
  have rows0 := gFr_rows0 hFr
  have rooms0 := gFr_rooms0 hFr
  have tape0 := gFr_tape0 hFr
  have car0 := gFr_car0 hFr
  have hS := gFr_hS hFr
  obtain ⟨v0, e0, r0⟩ : ∃ z : Int, xs 0 = Int32.ofInt z ∧ -2147483648 ≤ z ∧ z ≤ 2147483647 := ⟨_, gi_of _, gi_rg _⟩
  obtain ⟨v1, e1, r1⟩ : ∃ z : Int, xs 1 = Int32.ofInt z ∧ -2147483648 ≤ z ∧ z ≤ 2147483647 := ⟨_, gi_of _, gi_rg _⟩
  obtain ⟨v2, e2, r2⟩ : ∃ z : Int, xs 2 = Int32.ofInt z ∧ -2147483648 ≤ z ∧ z ≤ 2147483647 := ⟨_, gi_of _, gi_rg _⟩
  obtain ⟨v3, e3, r3⟩ : ∃ z : Int, xs 3 = Int32.ofInt z ∧ -2147483648 ≤ z ∧ z ≤ 2147483647 := ⟨_, gi_of _, gi_rg _⟩
  obtain ⟨v4, e4, r4⟩ : ∃ z : Int, xs 4 = Int32.ofInt z ∧ -2147483648 ≤ z ∧ z ≤ 2147483647 := ⟨_, gi_of _, gi_rg _⟩
  obtain ⟨v5, e5, r5⟩ : ∃ z : Int, xs 5 = Int32.ofInt z ∧ -2147483648 ≤ z ∧ z ≤ 2147483647 := ⟨_, gi_of _, gi_rg _⟩
  obtain ⟨v6, e6, r6⟩ : ∃ z : Int, xs 6 = Int32.ofInt z ∧ -2147483648 ≤ z ∧ z ≤ 2147483647 := ⟨_, gi_of _, gi_rg _⟩
  refine g_aload_n (n := 1099) X 2 dL_law_1098 rfl rfl rfl ?_
  refine g_aload_n (n := 1100) X 3 dL_law_1099 rfl rfl rfl ?_
  refine g_iload_n (n := 1101) X 0 dL_law_1100 rfl rfl rfl ?_
  refine g_iconst (n := 1102) X dL_law_1101 rfl ?_
  refine g_iadd (n := 1103) (z := 1) X dL_law_1102 rfl rfl ?_
  refine g_scrld (n := 1104) (z := v1) X hb (by omega) (by omega) (by omega) dL_law_1103 rfl e1 ?_
  refine g_aload_n (n := 1105) X 3 dL_law_1104 rfl rfl rfl ?_
  refine g_iload_n (n := 1106) X 0 dL_law_1105 rfl rfl rfl ?_
  refine g_iconst (n := 1107) X dL_law_1106 rfl ?_
  refine g_iadd (n := 1108) (z := 2) X dL_law_1107 rfl rfl ?_
  refine g_scrld (n := 1109) (z := v2) X hb (by omega) (by omega) (by omega) dL_law_1108 rfl e2 ?_
  refine g_aload_n (n := 1110) X 3 dL_law_1109 rfl rfl rfl ?_
  refine g_iload_n (n := 1111) X 0 dL_law_1110 rfl rfl rfl ?_
  refine g_iconst (n := 1112) X dL_law_1111 rfl ?_
  refine g_iadd (n := 1113) (z := 3) X dL_law_1112 rfl rfl ?_
  refine g_scrld (n := 1114) (z := v3) X hb (by omega) (by omega) (by omega) dL_law_1113 rfl e3 ?_
  refine g_callVi (n := 1117) (As := [gJ v1, gJ v2, gJ v3]) (rest := []) (cs1 := 206) (ss1 := 87467) X (c_X11_appeal v1 v2 v3 (by omega) (by omega) (by omega) (by omega) (gFr_0_0 hFr) (gFr_1_5 hFr) (gFr_9_5 hFr)) okX11_appeal kw_4_135 ⟨kw_4_136, kw_4_137⟩ ⟨rfl, rfl⟩ ⟨Nat.le_of_ble_eq_true rfl, Nat.le_of_ble_eq_true rfl⟩ rfl (by omega) (by omega) lay_0 rfl rfl (Nat.le_of_ble_eq_true rfl) ⟨Nat.le_of_ble_eq_true rfl, Nat.le_of_ble_eq_true rfl⟩ rfl rfl dL_law_1114 rfl (fun z1 M2 P3 => ?_)
  obtain ⟨P3, F4⟩ := P3
  refine g_aload_n (n := 1118) X 1 dL_law_1117 rfl rfl rfl ?_
  refine g_aload_n (n := 1119) X 3 dL_law_1118 rfl rfl rfl ?_
  refine g_iload_n (n := 1120) X 0 dL_law_1119 rfl rfl rfl ?_
  refine g_iconst (n := 1121) X dL_law_1120 rfl ?_
  refine g_iadd (n := 1122) (z := 1) X dL_law_1121 rfl rfl ?_
  refine g_scrld (n := 1123) (z := v1) X hb (by omega) (by omega) (by omega) dL_law_1122 rfl e1 ?_
  refine g_aload_n (n := 1124) X 3 dL_law_1123 rfl rfl rfl ?_
  refine g_iload_n (n := 1125) X 0 dL_law_1124 rfl rfl rfl ?_
  refine g_iconst (n := 1126) X dL_law_1125 rfl ?_
  refine g_iadd (n := 1127) (z := 2) X dL_law_1126 rfl rfl ?_
  refine g_scrld (n := 1128) (z := v2) X hb (by omega) (by omega) (by omega) dL_law_1127 rfl e2 ?_
  refine g_aload_n (n := 1129) X 3 dL_law_1128 rfl rfl rfl ?_
  refine g_iload_n (n := 1130) X 0 dL_law_1129 rfl rfl rfl ?_
  refine g_iconst (n := 1131) X dL_law_1130 rfl ?_
  refine g_iadd (n := 1132) (z := 3) X dL_law_1131 rfl rfl ?_
  refine g_scrld (n := 1133) (z := v3) X hb (by omega) (by omega) (by omega) dL_law_1132 rfl e3 ?_
  refine g_callVi (n := 1136) (As := [gJ v1, gJ v2, gJ v3]) (rest := [gJ z1]) (cs1 := 206) (ss1 := 87467) X (c_X12_appeal v1 v2 v3 (by omega) (by omega) (by omega) (by omega) ((congrFun (F4 190) _).trans (gFr_190_1 hFr)) ((congrFun (F4 191) _).trans ((hS 5 (by omega) (by omega)).trans (by decide)))) okX12_appeal kw_7_98 ⟨kw_7_99, kw_7_100⟩ ⟨rfl, rfl⟩ ⟨Nat.le_of_ble_eq_true rfl, Nat.le_of_ble_eq_true rfl⟩ rfl (by omega) (by omega) lay_190 rfl rfl (Nat.le_of_ble_eq_true rfl) ⟨Nat.le_of_ble_eq_true rfl, Nat.le_of_ble_eq_true rfl⟩ rfl rfl dL_law_1133 rfl (fun z5 M6 P7 => ?_)
  obtain ⟨P7, F8⟩ := P7
  refine g_icmp_eq (n := 1139) (tgt := 1992) X dL_law_1136 (by decide) (by omega) (by omega) rfl (fun c9 => ?_) (fun c9 => by exfalso; omega)
  exact law_tail X hr hb (by omega) (by omega)
theorem dL_law_1141 : decode code 1141 = .ok (.aload_n 1, 1) := by decide +kernel
theorem dL_law_1142 : decode code 1142 = .ok (.aload_n 0, 1) := by decide +kernel
theorem dL_law_1143 : decode code 1143 = .ok (.iload_n 3, 1) := by decide +kernel
theorem dL_law_1144 : decode code 1144 = .ok (.iconst 1, 1) := by decide +kernel
theorem dL_law_1145 : decode code 1145 = .ok (.iadd, 1) := by decide +kernel
theorem dL_law_1146 : decode code 1146 = .ok (.iaload, 1) := by decide +kernel
theorem dL_law_1147 : decode code 1147 = .ok (.invokevirtual 101, 3) := by decide +kernel
theorem kw_4_147 : (Jvm.Cond.methodLink "ParishUnionLaw" (101 : Nat) ({ cls := "ParishUnion", name := "unlike", desc := "(I)I" } : Jvm.MethodName)) ∈ gT := gT_of (tb_4 _ (List.mem_of_getElem? (i := 147) rfl)) rfl
theorem kw_4_150 : (Jvm.Cond.code ({ cls := "ParishUnion", name := "unlike", desc := "(I)I" } : Jvm.MethodName) prog_1_method_21_code (4 : Nat) (Option.some Jvm.ClassFile.FieldType.int)) ∈ gT := gT_of (tb_4 _ (List.mem_of_getElem? (i := 150) rfl)) rfl
theorem okX11_unlike : gQok yX11_unlike cX11_unlike 4 (Option.some Jvm.ClassFile.FieldType.int) 1 := ⟨kw_4_150, kw_1_1, by decide +kernel, by decide +kernel, by decide +kernel⟩
theorem kw_4_148 : (Jvm.Cond.instanceMethod ({ cls := "ParishUnion", name := "unlike", desc := "(I)I" } : Jvm.MethodName)) ∈ gT := gT_of (tb_4 _ (List.mem_of_getElem? (i := 148) rfl)) rfl
theorem kw_4_149 : (Jvm.Cond.selects "ParishUnion" ({ cls := "ParishUnion", name := "unlike", desc := "(I)I" } : Jvm.MethodName) ({ cls := "ParishUnion", name := "unlike", desc := "(I)I" } : Jvm.MethodName)) ∈ gT := gT_of (tb_4 _ (List.mem_of_getElem? (i := 149) rfl)) rfl
theorem dL_law_1150 : decode code 1150 = .ok (.aload_n 2, 1) := by decide +kernel
theorem dL_law_1151 : decode code 1151 = .ok (.aload_n 0, 1) := by decide +kernel
theorem dL_law_1152 : decode code 1152 = .ok (.iload_n 3, 1) := by decide +kernel
theorem dL_law_1153 : decode code 1153 = .ok (.iconst 1, 1) := by decide +kernel
theorem dL_law_1154 : decode code 1154 = .ok (.iadd, 1) := by decide +kernel
theorem dL_law_1155 : decode code 1155 = .ok (.iaload, 1) := by decide +kernel
theorem dL_law_1156 : decode code 1156 = .ok (.invokevirtual 104, 3) := by decide +kernel
theorem kw_7_110 : (Jvm.Cond.methodLink "ParishUnionLaw" (104 : Nat) ({ cls := "ParishUnionModel", name := "unlike", desc := "(I)I" } : Jvm.MethodName)) ∈ gT := gT_of (tb_7 _ (List.mem_of_getElem? (i := 110) rfl)) rfl
theorem kw_7_113 : (Jvm.Cond.code ({ cls := "ParishUnionModel", name := "unlike", desc := "(I)I" } : Jvm.MethodName) prog_14_method_65_code (4 : Nat) (Option.some Jvm.ClassFile.FieldType.int)) ∈ gT := gT_of (tb_7 _ (List.mem_of_getElem? (i := 113) rfl)) rfl
theorem okX12_unlike : gQok yX12_unlike cX12_unlike 4 (Option.some Jvm.ClassFile.FieldType.int) 1 := ⟨kw_7_113, kw_1_13, by decide +kernel, by decide +kernel, by decide +kernel⟩
theorem kw_7_111 : (Jvm.Cond.instanceMethod ({ cls := "ParishUnionModel", name := "unlike", desc := "(I)I" } : Jvm.MethodName)) ∈ gT := gT_of (tb_7 _ (List.mem_of_getElem? (i := 111) rfl)) rfl
theorem kw_7_112 : (Jvm.Cond.selects "ParishUnionModel" ({ cls := "ParishUnionModel", name := "unlike", desc := "(I)I" } : Jvm.MethodName) ({ cls := "ParishUnionModel", name := "unlike", desc := "(I)I" } : Jvm.MethodName)) ∈ gT := gT_of (tb_7 _ (List.mem_of_getElem? (i := 112) rfl)) rfl
theorem dL_law_1159 : decode code 1159 = .ok (.if_icmp .eq 833, 3) := by decide +kernel
set_option maxRecDepth 100000 in
set_option maxHeartbeats 4000000 in
theorem law_case_19 {p : Program} {e : Env} {s : State} {m : MethodId} {below : List Frame} {meth : Method} {c : Code} {l : Launch} {D : va_G} {cA : Nat → ClassId} {b : Nat} {xs : Nat → Int32} (X : gCx p s m #[Value.ref b] meth c s.heap.size D cA "ParishUnionLaw" code 4) (hr : meth.sig.returnType = ret) (hb : b < s.heap.size ∧ va_X b 7 xs s s.heap) {M : gM} (hFr : gFr M) : G p l e room_1 s m #[Value.ref b] below meth c s.heap.size D cA 4 (lw_Z below #[Value.ref b] s) 206 87467 M 206 1141 [(3, gJ 0), (2, gA s.heap.size 190), (1, gA s.heap.size 0), (0, .ref b)] [] := by
  have rents := gFr_rents hFr
  have way := gFr_way hFr
  have beds := gFr_beds hFr
  have frost0 := gFr_frost0 hFr
  have rows0 := gFr_rows0 hFr
  have rooms0 := gFr_rooms0 hFr
  have tape0 := gFr_tape0 hFr
  have car0 := gFr_car0 hFr
  have hS := gFr_hS hFr
  obtain ⟨v0, e0, r0⟩ : ∃ z : Int, xs 0 = Int32.ofInt z ∧ -2147483648 ≤ z ∧ z ≤ 2147483647 := ⟨_, gi_of _, gi_rg _⟩
  obtain ⟨v1, e1, r1⟩ : ∃ z : Int, xs 1 = Int32.ofInt z ∧ -2147483648 ≤ z ∧ z ≤ 2147483647 := ⟨_, gi_of _, gi_rg _⟩
  obtain ⟨v2, e2, r2⟩ : ∃ z : Int, xs 2 = Int32.ofInt z ∧ -2147483648 ≤ z ∧ z ≤ 2147483647 := ⟨_, gi_of _, gi_rg _⟩
  obtain ⟨v3, e3, r3⟩ : ∃ z : Int, xs 3 = Int32.ofInt z ∧ -2147483648 ≤ z ∧ z ≤ 2147483647 := ⟨_, gi_of _, gi_rg _⟩
  obtain ⟨v4, e4, r4⟩ : ∃ z : Int, xs 4 = Int32.ofInt z ∧ -2147483648 ≤ z ∧ z ≤ 2147483647 := ⟨_, gi_of _, gi_rg _⟩
  obtain ⟨v5, e5, r5⟩ : ∃ z : Int, xs 5 = Int32.ofInt z ∧ -2147483648 ≤ z ∧ z ≤ 2147483647 := ⟨_, gi_of _, gi_rg _⟩
  obtain ⟨v6, e6, r6⟩ : ∃ z : Int, xs 6 = Int32.ofInt z ∧ -2147483648 ≤ z ∧ z ≤ 2147483647 := ⟨_, gi_of _, gi_rg _⟩
  refine g_aload_n (n := 1142) X 2 dL_law_1141 rfl rfl rfl ?_
  refine g_aload_n (n := 1143) X 3 dL_law_1142 rfl rfl rfl ?_
  refine g_iload_n (n := 1144) X 0 dL_law_1143 rfl rfl rfl ?_
  refine g_iconst (n := 1145) X dL_law_1144 rfl ?_
  refine g_iadd (n := 1146) (z := 1) X dL_law_1145 rfl rfl ?_
  refine g_scrld (n := 1147) (z := v1) X hb (by omega) (by omega) (by omega) dL_law_1146 rfl e1 ?_
  refine g_callVi (n := 1150) (As := [gJ v1]) (rest := []) (cs1 := 206) (ss1 := 87467) X (c_X11_unlike v1 (by omega) (by omega) (gFr_0_0 hFr) (gFr_0_1 hFr) (gFr_1_12 hFr) (gFr_1_13 hFr) (gFr_1_11 hFr) (gFr_1_5 hFr) (gFr_9_5 hFr)) okX11_unlike kw_4_147 ⟨kw_4_148, kw_4_149⟩ ⟨rfl, rfl⟩ ⟨Nat.le_of_ble_eq_true rfl, Nat.le_of_ble_eq_true rfl⟩ rfl (by omega) (by omega) lay_0 rfl rfl (Nat.le_of_ble_eq_true rfl) ⟨Nat.le_of_ble_eq_true rfl, Nat.le_of_ble_eq_true rfl⟩ rfl rfl dL_law_1147 rfl (fun z1 M2 P3 => ?_)
  obtain ⟨P3, F4⟩ := P3
  refine g_aload_n (n := 1151) X 1 dL_law_1150 rfl rfl rfl ?_
  refine g_aload_n (n := 1152) X 3 dL_law_1151 rfl rfl rfl ?_
  refine g_iload_n (n := 1153) X 0 dL_law_1152 rfl rfl rfl ?_
  refine g_iconst (n := 1154) X dL_law_1153 rfl ?_
  refine g_iadd (n := 1155) (z := 1) X dL_law_1154 rfl rfl ?_
  refine g_scrld (n := 1156) (z := v1) X hb (by omega) (by omega) (by omega) dL_law_1155 rfl e1 ?_
  refine g_callVi (n := 1159) (As := [gJ v1]) (rest := [gJ z1]) (cs1 := 206) (ss1 := 87467) X (c_X12_unlike v1 (by omega) (by omega) ((congrFun (F4 190 (by omega)) _).trans (gFr_190_1 hFr)) ((congrFun (F4 191 (by omega)) _).trans ((hS 3 (by omega) (by omega)).trans (by decide))) ((congrFun (F4 191 (by omega)) _).trans ((hS 5 (by omega) (by omega)).trans (by decide)))) okX12_unlike kw_7_110 ⟨kw_7_111, kw_7_112⟩ ⟨rfl, rfl⟩ ⟨Nat.le_of_ble_eq_true rfl, Nat.le_of_ble_eq_true rfl⟩ rfl (by omega) (by omega) lay_190 rfl rfl (Nat.le_of_ble_eq_true rfl) ⟨Nat.le_of_ble_eq_true rfl, Nat.le_of_ble_eq_true rfl⟩ rfl rfl dL_law_1156 rfl (fun z5 M6 P7 => ?_)
  obtain ⟨P7, F8⟩ := P7
  refine g_icmp_eq (n := 1162) (tgt := 1992) X dL_law_1159 (by decide) (by omega) (by omega) rfl (fun c9 => ?_) (fun c9 => by exfalso; omega)
  exact law_tail X hr hb (by omega) (by omega)
