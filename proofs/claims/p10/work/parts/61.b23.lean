theorem dL_law_1032 : decode code 1032 = .ok (.aload_n 1, 1) := dc_43 (by decide +kernel)
theorem dL_law_1033 : decode code 1033 = .ok (.aload_n 0, 1) := dc_42 (by decide +kernel)
theorem dL_law_1034 : decode code 1034 = .ok (.iload_n 3, 1) := dc_29 (by decide +kernel)
theorem dL_law_1035 : decode code 1035 = .ok (.iconst 1, 1) := dc_4 (by decide +kernel)
theorem dL_law_1036 : decode code 1036 = .ok (.iadd, 1) := dc_96 (by decide +kernel)
theorem dL_law_1037 : decode code 1037 = .ok (.iaload, 1) := dc_46 (by decide +kernel)
theorem dL_law_1038 : decode code 1038 = .ok (.aload_n 0, 1) := dc_42 (by decide +kernel)
theorem dL_law_1039 : decode code 1039 = .ok (.iload_n 3, 1) := dc_29 (by decide +kernel)
theorem dL_law_1040 : decode code 1040 = .ok (.iconst 2, 1) := dc_5 (by decide +kernel)
theorem dL_law_1041 : decode code 1041 = .ok (.iadd, 1) := dc_96 (by decide +kernel)
theorem dL_law_1042 : decode code 1042 = .ok (.iaload, 1) := dc_46 (by decide +kernel)
theorem dL_law_1043 : decode code 1043 = .ok (.invokevirtual 89, 3) := dc_182 0 89 (by decide +kernel)
theorem kw_4_93 : (Jvm.Cond.methodLink "ParishUnionLaw" (89 : Nat) ({ cls := "ParishUnion", name := "offer", desc := "(II)I" } : Jvm.MethodName)) ∈ gT := gT_of (tb_4 _ (List.mem_of_getElem? (i := 93) rfl)) rfl
theorem kw_4_96 : (Jvm.Cond.code ({ cls := "ParishUnion", name := "offer", desc := "(II)I" } : Jvm.MethodName) prog_1_method_18_code (4 : Nat) (Option.some Jvm.ClassFile.FieldType.int)) ∈ gT := gT_of (tb_4 _ (List.mem_of_getElem? (i := 96) rfl)) rfl
theorem okX11_offer : gQok yX11_offer cX11_offer 4 (Option.some Jvm.ClassFile.FieldType.int) 2 := ⟨kw_4_96, kw_1_1, by decide +kernel, by decide +kernel, by decide +kernel⟩
theorem kw_4_94 : (Jvm.Cond.instanceMethod ({ cls := "ParishUnion", name := "offer", desc := "(II)I" } : Jvm.MethodName)) ∈ gT := gT_of (tb_4 _ (List.mem_of_getElem? (i := 94) rfl)) rfl
theorem kw_4_95 : (Jvm.Cond.selects "ParishUnion" ({ cls := "ParishUnion", name := "offer", desc := "(II)I" } : Jvm.MethodName) ({ cls := "ParishUnion", name := "offer", desc := "(II)I" } : Jvm.MethodName)) ∈ gT := gT_of (tb_4 _ (List.mem_of_getElem? (i := 95) rfl)) rfl
theorem dL_law_1046 : decode code 1046 = .ok (.pop, 1) := dc_87 (by decide +kernel)
theorem dL_law_1047 : decode code 1047 = .ok (.aload_n 2, 1) := dc_44 (by decide +kernel)
theorem dL_law_1048 : decode code 1048 = .ok (.aload_n 0, 1) := dc_42 (by decide +kernel)
theorem dL_law_1049 : decode code 1049 = .ok (.iload_n 3, 1) := dc_29 (by decide +kernel)
theorem dL_law_1050 : decode code 1050 = .ok (.iconst 1, 1) := dc_4 (by decide +kernel)
theorem dL_law_1051 : decode code 1051 = .ok (.iadd, 1) := dc_96 (by decide +kernel)
theorem dL_law_1052 : decode code 1052 = .ok (.iaload, 1) := dc_46 (by decide +kernel)
theorem dL_law_1053 : decode code 1053 = .ok (.aload_n 0, 1) := dc_42 (by decide +kernel)
theorem dL_law_1054 : decode code 1054 = .ok (.iload_n 3, 1) := dc_29 (by decide +kernel)
theorem dL_law_1055 : decode code 1055 = .ok (.iconst 2, 1) := dc_5 (by decide +kernel)
theorem dL_law_1056 : decode code 1056 = .ok (.iadd, 1) := dc_96 (by decide +kernel)
theorem dL_law_1057 : decode code 1057 = .ok (.iaload, 1) := dc_46 (by decide +kernel)
theorem dL_law_1058 : decode code 1058 = .ok (.invokevirtual 92, 3) := dc_182 0 92 (by decide +kernel)
theorem kw_7_78 : (Jvm.Cond.methodLink "ParishUnionLaw" (92 : Nat) ({ cls := "ParishUnionModel", name := "offer", desc := "(II)I" } : Jvm.MethodName)) ∈ gT := gT_of (tb_7 _ (List.mem_of_getElem? (i := 78) rfl)) rfl
theorem kw_7_81 : (Jvm.Cond.code ({ cls := "ParishUnionModel", name := "offer", desc := "(II)I" } : Jvm.MethodName) prog_14_method_60_code (4 : Nat) (Option.some Jvm.ClassFile.FieldType.int)) ∈ gT := gT_of (tb_7 _ (List.mem_of_getElem? (i := 81) rfl)) rfl
theorem okX12_offer : gQok yX12_offer cX12_offer 4 (Option.some Jvm.ClassFile.FieldType.int) 2 := ⟨kw_7_81, kw_1_13, by decide +kernel, by decide +kernel, by decide +kernel⟩
theorem kw_7_79 : (Jvm.Cond.instanceMethod ({ cls := "ParishUnionModel", name := "offer", desc := "(II)I" } : Jvm.MethodName)) ∈ gT := gT_of (tb_7 _ (List.mem_of_getElem? (i := 79) rfl)) rfl
theorem kw_7_80 : (Jvm.Cond.selects "ParishUnionModel" ({ cls := "ParishUnionModel", name := "offer", desc := "(II)I" } : Jvm.MethodName) ({ cls := "ParishUnionModel", name := "offer", desc := "(II)I" } : Jvm.MethodName)) ∈ gT := gT_of (tb_7 _ (List.mem_of_getElem? (i := 80) rfl)) rfl
theorem dL_law_1061 : decode code 1061 = .ok (.pop, 1) := dc_87 (by decide +kernel)
theorem dL_law_1062 : decode code 1062 = .ok (.goto 930, 3) := dc_167 3 162 930 (by decide +kernel)
set_option maxRecDepth 100000 in
set_option maxHeartbeats 4000000 in
theorem law_case_16 {p : Program} {e : Env} {s : State} {m : MethodId} {below : List Frame} {meth : Method} {cd : Code} {l : Launch} {D : va_G} {cA : Nat → ClassId} {b Ln : Nat} {xs : Nat → Int32} (X : gCx p s m #[Value.ref b] meth cd s.heap.size D cA "ParishUnionLaw" code 4) (hr : meth.sig.returnType = ret) (hb : b < s.heap.size ∧ va_X b Ln xs s s.heap) (hLn : Ln ≤ 3584) {sz cs ss : Nat} {M : gM} (L : lwI sz cs ss M) (i : Int) (hi : 0 ≤ i ∧ i + 7 ≤ (Ln : Int)) (kk : ∀ (sz cs ss : Nat) (M1 : gM), lwI sz cs ss M1 → G p l e room_1 s m #[Value.ref b] below meth cd s.heap.size D cA 4 (lw_Z below #[Value.ref b] s) cs ss M1 sz 1992 [(3, gJ i), (2, gA s.heap.size 190), (1, gA s.heap.size 0), (0, .ref b)] []) : G p l e room_1 s m #[Value.ref b] below meth cd s.heap.size D cA 4 (lw_Z below #[Value.ref b] s) cs ss M sz 1032 [(3, gJ i), (2, gA s.heap.size 190), (1, gA s.heap.size 0), (0, .ref b)] [] := by
  obtain ⟨hsz, I, C, W, LA, LB, LK, LR⟩ := L
  have hN := gN_of hsz I
  obtain ⟨ac, hac, rac⟩ : ∃ v : Int, M 1 13 = v ∧ (0 ≤ v ∧ v ≤ 10) := by
    obtain ⟨v, hv, rv⟩ := gRd I (by decide) (gsz hsz (by decide)) rc_1_13.1
    exact ⟨v, hv, by omega⟩
  obtain ⟨ab, hab, rab⟩ : ∃ v : Int, M 191 4 = v ∧ (0 ≤ v ∧ v ≤ 10) := by
    obtain ⟨v, hv, rv⟩ := gRd I (by decide) (gsz hsz (by decide)) (rs_NA (k := 4) (by omega)).1
    exact ⟨v, hv, by omega⟩
  have hRm : cs + 0 ≤ room_1.cells ∧ ss + 0 ≤ room_1.slots := by
    show cs + 0 ≤ 349274 ∧ ss + 0 ≤ 8054428
    have := lwK.room LK
    omega
  obtain ⟨u1, eu1, ru1⟩ : ∃ z : Int, xs (i + 1).toNat = Int32.ofInt z ∧ (-2147483648 ≤ z ∧ z ≤ 2147483647) := ⟨_, gi_of _, gi_rg _⟩
  obtain ⟨u2, eu2, ru2⟩ : ∃ z : Int, xs (i + 2).toNat = Int32.ofInt z ∧ (-2147483648 ≤ z ∧ z ≤ 2147483647) := ⟨_, gi_of _, gi_rg _⟩
  obtain ⟨u3, eu3, ru3⟩ : ∃ z : Int, xs (i + 3).toNat = Int32.ofInt z ∧ (-2147483648 ≤ z ∧ z ≤ 2147483647) := ⟨_, gi_of _, gi_rg _⟩
  obtain ⟨u4, eu4, ru4⟩ : ∃ z : Int, xs (i + 4).toNat = Int32.ofInt z ∧ (-2147483648 ≤ z ∧ z ≤ 2147483647) := ⟨_, gi_of _, gi_rg _⟩
  obtain ⟨u5, eu5, ru5⟩ : ∃ z : Int, xs (i + 5).toNat = Int32.ofInt z ∧ (-2147483648 ≤ z ∧ z ≤ 2147483647) := ⟨_, gi_of _, gi_rg _⟩
  obtain ⟨u6, eu6, ru6⟩ : ∃ z : Int, xs (i + 6).toNat = Int32.ofInt z ∧ (-2147483648 ≤ z ∧ z ≤ 2147483647) := ⟨_, gi_of _, gi_rg _⟩
  refine g_aload_n (n := 1033) X 2 dL_law_1032 rfl rfl rfl ?_
  refine g_aload_n (n := 1034) X 3 dL_law_1033 rfl rfl rfl ?_
  refine g_iload_n (n := 1035) X 0 dL_law_1034 rfl rfl rfl ?_
  refine g_iconst (n := 1036) X dL_law_1035 rfl ?_
  refine g_iadd (n := 1037) (z := i + 1) X dL_law_1036 (by omega) rfl ?_
  refine g_scrld (n := 1038) (z := u1) X hb (by omega) (by omega) (by omega) dL_law_1037 rfl eu1 ?_
  refine g_aload_n (n := 1039) X 3 dL_law_1038 rfl rfl rfl ?_
  refine g_iload_n (n := 1040) X 0 dL_law_1039 rfl rfl rfl ?_
  refine g_iconst (n := 1041) X dL_law_1040 rfl ?_
  refine g_iadd (n := 1042) (z := i + 2) X dL_law_1041 (by omega) rfl ?_
  refine g_scrld (n := 1043) (z := u2) X hb (by omega) (by omega) (by omega) dL_law_1042 rfl eu2 ?_
  refine g_callVi (n := 1046) (As := [gJ u1, gJ u2]) (rest := []) (cs1 := cs) (ss1 := ss) X (s_X11_offer u1 (by omega) u2 (by omega) hsz I C ) okX11_offer kw_4_93 ⟨kw_4_94, kw_4_95⟩ ⟨rfl, rfl⟩ ⟨Nat.le_of_ble_eq_true rfl, Nat.le_of_ble_eq_true rfl⟩ rfl (by decide) (gsz hsz (by decide)) lay_0 rfl rfl (Nat.le_of_ble_eq_true rfl) hRm rfl rfl dL_law_1043 rfl (fun v1 M2 P3 => ?_)
  obtain ⟨rv1, IM2, CM2, FM2⟩ := P3
  refine g_pop (n := 1047) X dL_law_1046 rfl rfl ?_
  refine g_aload_n (n := 1048) X 1 dL_law_1047 rfl rfl rfl ?_
  refine g_aload_n (n := 1049) X 3 dL_law_1048 rfl rfl rfl ?_
  refine g_iload_n (n := 1050) X 0 dL_law_1049 rfl rfl rfl ?_
  refine g_iconst (n := 1051) X dL_law_1050 rfl ?_
  refine g_iadd (n := 1052) (z := i + 1) X dL_law_1051 (by omega) rfl ?_
  refine g_scrld (n := 1053) (z := u1) X hb (by omega) (by omega) (by omega) dL_law_1052 rfl eu1 ?_
  refine g_aload_n (n := 1054) X 3 dL_law_1053 rfl rfl rfl ?_
  refine g_iload_n (n := 1055) X 0 dL_law_1054 rfl rfl rfl ?_
  refine g_iconst (n := 1056) X dL_law_1055 rfl ?_
  refine g_iadd (n := 1057) (z := i + 2) X dL_law_1056 (by omega) rfl ?_
  refine g_scrld (n := 1058) (z := u2) X hb (by omega) (by omega) (by omega) dL_law_1057 rfl eu2 ?_
  refine g_callVi (n := 1061) (As := [gJ u1, gJ u2]) (rest := []) (cs1 := cs) (ss1 := ss) X (s_X12_offer u1 (by omega) u2 (by omega) hsz IM2 CM2 (gW.fr (S := 33554496) W ⟨sz, hsz, I⟩ (gFr.c gFr.rf FM2 rfl) rfl)) okX12_offer kw_7_78 ⟨kw_7_79, kw_7_80⟩ ⟨rfl, rfl⟩ ⟨Nat.le_of_ble_eq_true rfl, Nat.le_of_ble_eq_true rfl⟩ rfl (by decide) (gsz hsz (by decide)) lay_190 rfl rfl (Nat.le_of_ble_eq_true rfl) hRm rfl rfl dL_law_1058 rfl (fun v4 M5 P6 => ?_)
  obtain ⟨rv4, IM5, CM5, FM5⟩ := P6
  refine g_pop (n := 1062) X dL_law_1061 rfl rfl ?_
  refine g_goto (tgt := 1992) X dL_law_1062 (by decide) ?_
  exact kk _ _ _ _ ⟨hsz, IM5, CM5, (gW.fr (S := 2475884173747944913352261696) W ⟨sz, hsz, I⟩ (gFr.c (gFr.c gFr.rf FM2 rfl) FM5 rfl) rfl), (by rw [((gFr.at FM5 rc_1_13.2.2 rfl).trans (gFr.at FM2 rc_1_13.2.2 rfl))]; exact LA), (by rw [((gFr.at FM5 (rs_NA (k := 4) (by omega)).2.2 rfl).trans (gFr.at FM2 (rs_NA (k := 4) (by omega)).2.2 rfl))]; exact LB), (lwK.fr LK ((gFr.c (gFr.c gFr.rf FM2 rfl) FM5 rfl) : gFr 2475884173747944913352261696 M M5) rfl), ⟨(rl_now.fr (rl_now.fr LR.1 hN FM2 rfl) (gN_of hsz IM2) FM5 rfl), (rl_npers.fr (rl_npers.fr LR.2.1 hN FM2 rfl) (gN_of hsz IM2) FM5 rfl), (rl_sex.fr (rl_sex.fr LR.2.2.1 hN FM2 rfl) (gN_of hsz IM2) FM5 rfl), (rl_born.fr (rl_born.fr LR.2.2.2.1 hN FM2 rfl) (gN_of hsz IM2) FM5 rfl), (rl_nright.fr (rl_nright.fr LR.2.2.2.2.1 hN FM2 rfl) (gN_of hsz IM2) FM5 rfl), (rl_nent.fr (rl_nent.fr LR.2.2.2.2.2.1 hN FM2 rfl) (gN_of hsz IM2) FM5 rfl), (rl_rkind.fr (rl_rkind.fr LR.2.2.2.2.2.2.1 hN FM2 rfl) (gN_of hsz IM2) FM5 rfl), (rl_rwho.fr (rl_rwho.fr LR.2.2.2.2.2.2.2.1 hN FM2 rfl) (gN_of hsz IM2) FM5 rfl), (rl_rto.fr (rl_rto.fr LR.2.2.2.2.2.2.2.2.1 hN FM2 rfl) (gN_of hsz IM2) FM5 rfl), (rl_rn.fr (rl_rn.fr LR.2.2.2.2.2.2.2.2.2.1 hN FM2 rfl) (gN_of hsz IM2) FM5 rfl), (rl_rweek.fr (rl_rweek.fr LR.2.2.2.2.2.2.2.2.2.2.1 hN FM2 rfl) (gN_of hsz IM2) FM5 rfl), (rl_rsure.fr (rl_rsure.fr LR.2.2.2.2.2.2.2.2.2.2.2.1 hN FM2 rfl) (gN_of hsz IM2) FM5 rfl), (rl_proofs.fr (rl_proofs.fr LR.2.2.2.2.2.2.2.2.2.2.2.2 hN FM2 rfl) (gN_of hsz IM2) FM5 rfl)⟩⟩
theorem dL_law_1065 : decode code 1065 = .ok (.aload_n 1, 1) := dc_43 (by decide +kernel)
theorem dL_law_1066 : decode code 1066 = .ok (.aload_n 0, 1) := dc_42 (by decide +kernel)
theorem dL_law_1067 : decode code 1067 = .ok (.iload_n 3, 1) := dc_29 (by decide +kernel)
theorem dL_law_1068 : decode code 1068 = .ok (.iconst 1, 1) := dc_4 (by decide +kernel)
theorem dL_law_1069 : decode code 1069 = .ok (.iadd, 1) := dc_96 (by decide +kernel)
theorem dL_law_1070 : decode code 1070 = .ok (.iaload, 1) := dc_46 (by decide +kernel)
theorem dL_law_1071 : decode code 1071 = .ok (.aload_n 0, 1) := dc_42 (by decide +kernel)
theorem dL_law_1072 : decode code 1072 = .ok (.iload_n 3, 1) := dc_29 (by decide +kernel)
theorem dL_law_1073 : decode code 1073 = .ok (.iconst 2, 1) := dc_5 (by decide +kernel)
theorem dL_law_1074 : decode code 1074 = .ok (.iadd, 1) := dc_96 (by decide +kernel)
theorem dL_law_1075 : decode code 1075 = .ok (.iaload, 1) := dc_46 (by decide +kernel)
theorem dL_law_1076 : decode code 1076 = .ok (.invokevirtual 93, 3) := dc_182 0 93 (by decide +kernel)
theorem kw_4_126 : (Jvm.Cond.methodLink "ParishUnionLaw" (93 : Nat) ({ cls := "ParishUnion", name := "order", desc := "(II)I" } : Jvm.MethodName)) ∈ gT := gT_of (tb_4 _ (List.mem_of_getElem? (i := 126) rfl)) rfl
theorem kw_4_129 : (Jvm.Cond.code ({ cls := "ParishUnion", name := "order", desc := "(II)I" } : Jvm.MethodName) prog_1_method_19_code (4 : Nat) (Option.some Jvm.ClassFile.FieldType.int)) ∈ gT := gT_of (tb_4 _ (List.mem_of_getElem? (i := 129) rfl)) rfl
theorem okX11_order : gQok yX11_order cX11_order 4 (Option.some Jvm.ClassFile.FieldType.int) 2 := ⟨kw_4_129, kw_1_1, by decide +kernel, by decide +kernel, by decide +kernel⟩
theorem kw_4_127 : (Jvm.Cond.instanceMethod ({ cls := "ParishUnion", name := "order", desc := "(II)I" } : Jvm.MethodName)) ∈ gT := gT_of (tb_4 _ (List.mem_of_getElem? (i := 127) rfl)) rfl
theorem kw_4_128 : (Jvm.Cond.selects "ParishUnion" ({ cls := "ParishUnion", name := "order", desc := "(II)I" } : Jvm.MethodName) ({ cls := "ParishUnion", name := "order", desc := "(II)I" } : Jvm.MethodName)) ∈ gT := gT_of (tb_4 _ (List.mem_of_getElem? (i := 128) rfl)) rfl
theorem dL_law_1079 : decode code 1079 = .ok (.pop, 1) := dc_87 (by decide +kernel)
theorem dL_law_1080 : decode code 1080 = .ok (.aload_n 2, 1) := dc_44 (by decide +kernel)
theorem dL_law_1081 : decode code 1081 = .ok (.aload_n 0, 1) := dc_42 (by decide +kernel)
theorem dL_law_1082 : decode code 1082 = .ok (.iload_n 3, 1) := dc_29 (by decide +kernel)
theorem dL_law_1083 : decode code 1083 = .ok (.iconst 1, 1) := dc_4 (by decide +kernel)
theorem dL_law_1084 : decode code 1084 = .ok (.iadd, 1) := dc_96 (by decide +kernel)
theorem dL_law_1085 : decode code 1085 = .ok (.iaload, 1) := dc_46 (by decide +kernel)
theorem dL_law_1086 : decode code 1086 = .ok (.aload_n 0, 1) := dc_42 (by decide +kernel)
theorem dL_law_1087 : decode code 1087 = .ok (.iload_n 3, 1) := dc_29 (by decide +kernel)
theorem dL_law_1088 : decode code 1088 = .ok (.iconst 2, 1) := dc_5 (by decide +kernel)
theorem dL_law_1089 : decode code 1089 = .ok (.iadd, 1) := dc_96 (by decide +kernel)
theorem dL_law_1090 : decode code 1090 = .ok (.iaload, 1) := dc_46 (by decide +kernel)
theorem dL_law_1091 : decode code 1091 = .ok (.invokevirtual 96, 3) := dc_182 0 96 (by decide +kernel)
theorem kw_7_94 : (Jvm.Cond.methodLink "ParishUnionLaw" (96 : Nat) ({ cls := "ParishUnionModel", name := "order", desc := "(II)I" } : Jvm.MethodName)) ∈ gT := gT_of (tb_7 _ (List.mem_of_getElem? (i := 94) rfl)) rfl
theorem kw_7_97 : (Jvm.Cond.code ({ cls := "ParishUnionModel", name := "order", desc := "(II)I" } : Jvm.MethodName) prog_14_method_61_code (5 : Nat) (Option.some Jvm.ClassFile.FieldType.int)) ∈ gT := gT_of (tb_7 _ (List.mem_of_getElem? (i := 97) rfl)) rfl
theorem okX12_order : gQok yX12_order cX12_order 5 (Option.some Jvm.ClassFile.FieldType.int) 2 := ⟨kw_7_97, kw_1_13, by decide +kernel, by decide +kernel, by decide +kernel⟩
theorem kw_7_95 : (Jvm.Cond.instanceMethod ({ cls := "ParishUnionModel", name := "order", desc := "(II)I" } : Jvm.MethodName)) ∈ gT := gT_of (tb_7 _ (List.mem_of_getElem? (i := 95) rfl)) rfl
theorem kw_7_96 : (Jvm.Cond.selects "ParishUnionModel" ({ cls := "ParishUnionModel", name := "order", desc := "(II)I" } : Jvm.MethodName) ({ cls := "ParishUnionModel", name := "order", desc := "(II)I" } : Jvm.MethodName)) ∈ gT := gT_of (tb_7 _ (List.mem_of_getElem? (i := 96) rfl)) rfl
theorem dL_law_1094 : decode code 1094 = .ok (.pop, 1) := dc_87 (by decide +kernel)
theorem dL_law_1095 : decode code 1095 = .ok (.goto 897, 3) := dc_167 3 129 897 (by decide +kernel)
set_option maxRecDepth 100000 in
set_option maxHeartbeats 4000000 in
theorem law_case_17 {p : Program} {e : Env} {s : State} {m : MethodId} {below : List Frame} {meth : Method} {cd : Code} {l : Launch} {D : va_G} {cA : Nat → ClassId} {b Ln : Nat} {xs : Nat → Int32} (X : gCx p s m #[Value.ref b] meth cd s.heap.size D cA "ParishUnionLaw" code 4) (hr : meth.sig.returnType = ret) (hb : b < s.heap.size ∧ va_X b Ln xs s s.heap) (hLn : Ln ≤ 3584) {sz cs ss : Nat} {M : gM} (L : lwI sz cs ss M) (i : Int) (hi : 0 ≤ i ∧ i + 7 ≤ (Ln : Int)) (kk : ∀ (sz cs ss : Nat) (M1 : gM), lwI sz cs ss M1 → G p l e room_1 s m #[Value.ref b] below meth cd s.heap.size D cA 4 (lw_Z below #[Value.ref b] s) cs ss M1 sz 1992 [(3, gJ i), (2, gA s.heap.size 190), (1, gA s.heap.size 0), (0, .ref b)] []) : G p l e room_1 s m #[Value.ref b] below meth cd s.heap.size D cA 4 (lw_Z below #[Value.ref b] s) cs ss M sz 1065 [(3, gJ i), (2, gA s.heap.size 190), (1, gA s.heap.size 0), (0, .ref b)] [] := by
  obtain ⟨hsz, I, C, W, LA, LB, LK, LR⟩ := L
  have hN := gN_of hsz I
  obtain ⟨ac, hac, rac⟩ : ∃ v : Int, M 1 13 = v ∧ (0 ≤ v ∧ v ≤ 10) := by
    obtain ⟨v, hv, rv⟩ := gRd I (by decide) (gsz hsz (by decide)) rc_1_13.1
    exact ⟨v, hv, by omega⟩
  obtain ⟨ab, hab, rab⟩ : ∃ v : Int, M 191 4 = v ∧ (0 ≤ v ∧ v ≤ 10) := by
    obtain ⟨v, hv, rv⟩ := gRd I (by decide) (gsz hsz (by decide)) (rs_NA (k := 4) (by omega)).1
    exact ⟨v, hv, by omega⟩
  have hRm : cs + 0 ≤ room_1.cells ∧ ss + 0 ≤ room_1.slots := by
    show cs + 0 ≤ 349274 ∧ ss + 0 ≤ 8054428
    have := lwK.room LK
    omega
  obtain ⟨u1, eu1, ru1⟩ : ∃ z : Int, xs (i + 1).toNat = Int32.ofInt z ∧ (-2147483648 ≤ z ∧ z ≤ 2147483647) := ⟨_, gi_of _, gi_rg _⟩
  obtain ⟨u2, eu2, ru2⟩ : ∃ z : Int, xs (i + 2).toNat = Int32.ofInt z ∧ (-2147483648 ≤ z ∧ z ≤ 2147483647) := ⟨_, gi_of _, gi_rg _⟩
  obtain ⟨u3, eu3, ru3⟩ : ∃ z : Int, xs (i + 3).toNat = Int32.ofInt z ∧ (-2147483648 ≤ z ∧ z ≤ 2147483647) := ⟨_, gi_of _, gi_rg _⟩
  obtain ⟨u4, eu4, ru4⟩ : ∃ z : Int, xs (i + 4).toNat = Int32.ofInt z ∧ (-2147483648 ≤ z ∧ z ≤ 2147483647) := ⟨_, gi_of _, gi_rg _⟩
  obtain ⟨u5, eu5, ru5⟩ : ∃ z : Int, xs (i + 5).toNat = Int32.ofInt z ∧ (-2147483648 ≤ z ∧ z ≤ 2147483647) := ⟨_, gi_of _, gi_rg _⟩
  obtain ⟨u6, eu6, ru6⟩ : ∃ z : Int, xs (i + 6).toNat = Int32.ofInt z ∧ (-2147483648 ≤ z ∧ z ≤ 2147483647) := ⟨_, gi_of _, gi_rg _⟩
  refine g_aload_n (n := 1066) X 2 dL_law_1065 rfl rfl rfl ?_
  refine g_aload_n (n := 1067) X 3 dL_law_1066 rfl rfl rfl ?_
  refine g_iload_n (n := 1068) X 0 dL_law_1067 rfl rfl rfl ?_
  refine g_iconst (n := 1069) X dL_law_1068 rfl ?_
  refine g_iadd (n := 1070) (z := i + 1) X dL_law_1069 (by omega) rfl ?_
  refine g_scrld (n := 1071) (z := u1) X hb (by omega) (by omega) (by omega) dL_law_1070 rfl eu1 ?_
  refine g_aload_n (n := 1072) X 3 dL_law_1071 rfl rfl rfl ?_
  refine g_iload_n (n := 1073) X 0 dL_law_1072 rfl rfl rfl ?_
  refine g_iconst (n := 1074) X dL_law_1073 rfl ?_
  refine g_iadd (n := 1075) (z := i + 2) X dL_law_1074 (by omega) rfl ?_
  refine g_scrld (n := 1076) (z := u2) X hb (by omega) (by omega) (by omega) dL_law_1075 rfl eu2 ?_
  refine g_callVi (n := 1079) (As := [gJ u1, gJ u2]) (rest := []) (cs1 := cs) (ss1 := ss) X (s_X11_order u1 (by omega) u2 (by omega) hsz I C ) okX11_order kw_4_126 ⟨kw_4_127, kw_4_128⟩ ⟨rfl, rfl⟩ ⟨Nat.le_of_ble_eq_true rfl, Nat.le_of_ble_eq_true rfl⟩ rfl (by decide) (gsz hsz (by decide)) lay_0 rfl rfl (Nat.le_of_ble_eq_true rfl) hRm rfl rfl dL_law_1076 rfl (fun v1 M2 P3 => ?_)
  obtain ⟨rv1, IM2, CM2, FM2⟩ := P3
  refine g_pop (n := 1080) X dL_law_1079 rfl rfl ?_
  refine g_aload_n (n := 1081) X 1 dL_law_1080 rfl rfl rfl ?_
  refine g_aload_n (n := 1082) X 3 dL_law_1081 rfl rfl rfl ?_
  refine g_iload_n (n := 1083) X 0 dL_law_1082 rfl rfl rfl ?_
  refine g_iconst (n := 1084) X dL_law_1083 rfl ?_
  refine g_iadd (n := 1085) (z := i + 1) X dL_law_1084 (by omega) rfl ?_
  refine g_scrld (n := 1086) (z := u1) X hb (by omega) (by omega) (by omega) dL_law_1085 rfl eu1 ?_
  refine g_aload_n (n := 1087) X 3 dL_law_1086 rfl rfl rfl ?_
  refine g_iload_n (n := 1088) X 0 dL_law_1087 rfl rfl rfl ?_
  refine g_iconst (n := 1089) X dL_law_1088 rfl ?_
  refine g_iadd (n := 1090) (z := i + 2) X dL_law_1089 (by omega) rfl ?_
  refine g_scrld (n := 1091) (z := u2) X hb (by omega) (by omega) (by omega) dL_law_1090 rfl eu2 ?_
  refine g_callVi (n := 1094) (As := [gJ u1, gJ u2]) (rest := []) (cs1 := cs) (ss1 := ss) X (s_X12_order u1 (by omega) u2 (by omega) hsz IM2 CM2 (gW.fr (S := 1024) W ⟨sz, hsz, I⟩ (gFr.c gFr.rf FM2 rfl) rfl)) okX12_order kw_7_94 ⟨kw_7_95, kw_7_96⟩ ⟨rfl, rfl⟩ ⟨Nat.le_of_ble_eq_true rfl, Nat.le_of_ble_eq_true rfl⟩ rfl (by decide) (gsz hsz (by decide)) lay_190 rfl rfl (Nat.le_of_ble_eq_true rfl) hRm rfl rfl dL_law_1091 rfl (fun v4 M5 P6 => ?_)
  obtain ⟨rv4, IM5, CM5, FM5, xM5⟩ := P6
  refine g_pop (n := 1095) X dL_law_1094 rfl rfl ?_
  refine g_goto (tgt := 1992) X dL_law_1095 (by decide) ?_
  exact kk _ _ _ _ ⟨hsz, IM5, CM5, xM5, (by rw [((gFr.at FM5 rc_1_13.2.2 rfl).trans (gFr.at FM2 rc_1_13.2.2 rfl))]; exact LA), (by rw [((gFr.at FM5 (rs_NA (k := 4) (by omega)).2.2 rfl).trans (gFr.at FM2 (rs_NA (k := 4) (by omega)).2.2 rfl))]; exact LB), (lwK.fr LK ((gFr.c (gFr.c gFr.rf FM2 rfl) FM5 rfl) : gFr 618970019651697886460118016 M M5) rfl), ⟨(rl_now.fr (rl_now.fr LR.1 hN FM2 rfl) (gN_of hsz IM2) FM5 rfl), (rl_npers.fr (rl_npers.fr LR.2.1 hN FM2 rfl) (gN_of hsz IM2) FM5 rfl), (rl_sex.fr (rl_sex.fr LR.2.2.1 hN FM2 rfl) (gN_of hsz IM2) FM5 rfl), (rl_born.fr (rl_born.fr LR.2.2.2.1 hN FM2 rfl) (gN_of hsz IM2) FM5 rfl), (rl_nright.fr (rl_nright.fr LR.2.2.2.2.1 hN FM2 rfl) (gN_of hsz IM2) FM5 rfl), (rl_nent.fr (rl_nent.fr LR.2.2.2.2.2.1 hN FM2 rfl) (gN_of hsz IM2) FM5 rfl), (rl_rkind.fr (rl_rkind.fr LR.2.2.2.2.2.2.1 hN FM2 rfl) (gN_of hsz IM2) FM5 rfl), (rl_rwho.fr (rl_rwho.fr LR.2.2.2.2.2.2.2.1 hN FM2 rfl) (gN_of hsz IM2) FM5 rfl), (rl_rto.fr (rl_rto.fr LR.2.2.2.2.2.2.2.2.1 hN FM2 rfl) (gN_of hsz IM2) FM5 rfl), (rl_rn.fr (rl_rn.fr LR.2.2.2.2.2.2.2.2.2.1 hN FM2 rfl) (gN_of hsz IM2) FM5 rfl), (rl_rweek.fr (rl_rweek.fr LR.2.2.2.2.2.2.2.2.2.2.1 hN FM2 rfl) (gN_of hsz IM2) FM5 rfl), (rl_rsure.fr (rl_rsure.fr LR.2.2.2.2.2.2.2.2.2.2.2.1 hN FM2 rfl) (gN_of hsz IM2) FM5 rfl), (rl_proofs.fr (rl_proofs.fr LR.2.2.2.2.2.2.2.2.2.2.2.2 hN FM2 rfl) (gN_of hsz IM2) FM5 rfl)⟩⟩
theorem dL_law_1098 : decode code 1098 = .ok (.aload_n 1, 1) := dc_43 (by decide +kernel)
theorem dL_law_1099 : decode code 1099 = .ok (.aload_n 0, 1) := dc_42 (by decide +kernel)
theorem dL_law_1100 : decode code 1100 = .ok (.iload_n 3, 1) := dc_29 (by decide +kernel)
theorem dL_law_1101 : decode code 1101 = .ok (.iconst 1, 1) := dc_4 (by decide +kernel)
theorem dL_law_1102 : decode code 1102 = .ok (.iadd, 1) := dc_96 (by decide +kernel)
theorem dL_law_1103 : decode code 1103 = .ok (.iaload, 1) := dc_46 (by decide +kernel)
theorem dL_law_1104 : decode code 1104 = .ok (.aload_n 0, 1) := dc_42 (by decide +kernel)
theorem dL_law_1105 : decode code 1105 = .ok (.iload_n 3, 1) := dc_29 (by decide +kernel)
theorem dL_law_1106 : decode code 1106 = .ok (.iconst 2, 1) := dc_5 (by decide +kernel)
theorem dL_law_1107 : decode code 1107 = .ok (.iadd, 1) := dc_96 (by decide +kernel)
theorem dL_law_1108 : decode code 1108 = .ok (.iaload, 1) := dc_46 (by decide +kernel)
theorem dL_law_1109 : decode code 1109 = .ok (.aload_n 0, 1) := dc_42 (by decide +kernel)
theorem dL_law_1110 : decode code 1110 = .ok (.iload_n 3, 1) := dc_29 (by decide +kernel)
theorem dL_law_1111 : decode code 1111 = .ok (.iconst 3, 1) := dc_6 (by decide +kernel)
theorem dL_law_1112 : decode code 1112 = .ok (.iadd, 1) := dc_96 (by decide +kernel)
theorem dL_law_1113 : decode code 1113 = .ok (.iaload, 1) := dc_46 (by decide +kernel)
theorem dL_law_1114 : decode code 1114 = .ok (.invokevirtual 97, 3) := dc_182 0 97 (by decide +kernel)
theorem kw_4_135 : (Jvm.Cond.methodLink "ParishUnionLaw" (97 : Nat) ({ cls := "ParishUnion", name := "appeal", desc := "(III)I" } : Jvm.MethodName)) ∈ gT := gT_of (tb_4 _ (List.mem_of_getElem? (i := 135) rfl)) rfl
theorem kw_4_138 : (Jvm.Cond.code ({ cls := "ParishUnion", name := "appeal", desc := "(III)I" } : Jvm.MethodName) prog_1_method_20_code (4 : Nat) (Option.some Jvm.ClassFile.FieldType.int)) ∈ gT := gT_of (tb_4 _ (List.mem_of_getElem? (i := 138) rfl)) rfl
theorem okX11_appeal : gQok yX11_appeal cX11_appeal 4 (Option.some Jvm.ClassFile.FieldType.int) 3 := ⟨kw_4_138, kw_1_1, by decide +kernel, by decide +kernel, by decide +kernel⟩
theorem kw_4_136 : (Jvm.Cond.instanceMethod ({ cls := "ParishUnion", name := "appeal", desc := "(III)I" } : Jvm.MethodName)) ∈ gT := gT_of (tb_4 _ (List.mem_of_getElem? (i := 136) rfl)) rfl
theorem kw_4_137 : (Jvm.Cond.selects "ParishUnion" ({ cls := "ParishUnion", name := "appeal", desc := "(III)I" } : Jvm.MethodName) ({ cls := "ParishUnion", name := "appeal", desc := "(III)I" } : Jvm.MethodName)) ∈ gT := gT_of (tb_4 _ (List.mem_of_getElem? (i := 137) rfl)) rfl
theorem dL_law_1117 : decode code 1117 = .ok (.pop, 1) := dc_87 (by decide +kernel)
theorem dL_law_1118 : decode code 1118 = .ok (.aload_n 2, 1) := dc_44 (by decide +kernel)
theorem dL_law_1119 : decode code 1119 = .ok (.aload_n 0, 1) := dc_42 (by decide +kernel)
theorem dL_law_1120 : decode code 1120 = .ok (.iload_n 3, 1) := dc_29 (by decide +kernel)
theorem dL_law_1121 : decode code 1121 = .ok (.iconst 1, 1) := dc_4 (by decide +kernel)
theorem dL_law_1122 : decode code 1122 = .ok (.iadd, 1) := dc_96 (by decide +kernel)
theorem dL_law_1123 : decode code 1123 = .ok (.iaload, 1) := dc_46 (by decide +kernel)
theorem dL_law_1124 : decode code 1124 = .ok (.aload_n 0, 1) := dc_42 (by decide +kernel)
theorem dL_law_1125 : decode code 1125 = .ok (.iload_n 3, 1) := dc_29 (by decide +kernel)
theorem dL_law_1126 : decode code 1126 = .ok (.iconst 2, 1) := dc_5 (by decide +kernel)
theorem dL_law_1127 : decode code 1127 = .ok (.iadd, 1) := dc_96 (by decide +kernel)
theorem dL_law_1128 : decode code 1128 = .ok (.iaload, 1) := dc_46 (by decide +kernel)
theorem dL_law_1129 : decode code 1129 = .ok (.aload_n 0, 1) := dc_42 (by decide +kernel)
theorem dL_law_1130 : decode code 1130 = .ok (.iload_n 3, 1) := dc_29 (by decide +kernel)
theorem dL_law_1131 : decode code 1131 = .ok (.iconst 3, 1) := dc_6 (by decide +kernel)
theorem dL_law_1132 : decode code 1132 = .ok (.iadd, 1) := dc_96 (by decide +kernel)
theorem dL_law_1133 : decode code 1133 = .ok (.iaload, 1) := dc_46 (by decide +kernel)
theorem dL_law_1134 : decode code 1134 = .ok (.invokevirtual 100, 3) := dc_182 0 100 (by decide +kernel)
theorem kw_7_98 : (Jvm.Cond.methodLink "ParishUnionLaw" (100 : Nat) ({ cls := "ParishUnionModel", name := "appeal", desc := "(III)I" } : Jvm.MethodName)) ∈ gT := gT_of (tb_7 _ (List.mem_of_getElem? (i := 98) rfl)) rfl
theorem kw_7_101 : (Jvm.Cond.code ({ cls := "ParishUnionModel", name := "appeal", desc := "(III)I" } : Jvm.MethodName) prog_14_method_64_code (4 : Nat) (Option.some Jvm.ClassFile.FieldType.int)) ∈ gT := gT_of (tb_7 _ (List.mem_of_getElem? (i := 101) rfl)) rfl
theorem okX12_appeal : gQok yX12_appeal cX12_appeal 4 (Option.some Jvm.ClassFile.FieldType.int) 3 := ⟨kw_7_101, kw_1_13, by decide +kernel, by decide +kernel, by decide +kernel⟩
theorem kw_7_99 : (Jvm.Cond.instanceMethod ({ cls := "ParishUnionModel", name := "appeal", desc := "(III)I" } : Jvm.MethodName)) ∈ gT := gT_of (tb_7 _ (List.mem_of_getElem? (i := 99) rfl)) rfl
theorem kw_7_100 : (Jvm.Cond.selects "ParishUnionModel" ({ cls := "ParishUnionModel", name := "appeal", desc := "(III)I" } : Jvm.MethodName) ({ cls := "ParishUnionModel", name := "appeal", desc := "(III)I" } : Jvm.MethodName)) ∈ gT := gT_of (tb_7 _ (List.mem_of_getElem? (i := 100) rfl)) rfl
theorem dL_law_1137 : decode code 1137 = .ok (.pop, 1) := dc_87 (by decide +kernel)
theorem dL_law_1138 : decode code 1138 = .ok (.goto 854, 3) := dc_167 3 86 854 (by decide +kernel)
set_option maxRecDepth 100000 in
set_option maxHeartbeats 4000000 in
theorem law_case_18 {p : Program} {e : Env} {s : State} {m : MethodId} {below : List Frame} {meth : Method} {cd : Code} {l : Launch} {D : va_G} {cA : Nat → ClassId} {b Ln : Nat} {xs : Nat → Int32} (X : gCx p s m #[Value.ref b] meth cd s.heap.size D cA "ParishUnionLaw" code 4) (hr : meth.sig.returnType = ret) (hb : b < s.heap.size ∧ va_X b Ln xs s s.heap) (hLn : Ln ≤ 3584) {sz cs ss : Nat} {M : gM} (L : lwI sz cs ss M) (i : Int) (hi : 0 ≤ i ∧ i + 7 ≤ (Ln : Int)) (kk : ∀ (sz cs ss : Nat) (M1 : gM), lwI sz cs ss M1 → G p l e room_1 s m #[Value.ref b] below meth cd s.heap.size D cA 4 (lw_Z below #[Value.ref b] s) cs ss M1 sz 1992 [(3, gJ i), (2, gA s.heap.size 190), (1, gA s.heap.size 0), (0, .ref b)] []) : G p l e room_1 s m #[Value.ref b] below meth cd s.heap.size D cA 4 (lw_Z below #[Value.ref b] s) cs ss M sz 1098 [(3, gJ i), (2, gA s.heap.size 190), (1, gA s.heap.size 0), (0, .ref b)] [] := by
  obtain ⟨hsz, I, C, W, LA, LB, LK, LR⟩ := L
  have hN := gN_of hsz I
  obtain ⟨ac, hac, rac⟩ : ∃ v : Int, M 1 13 = v ∧ (0 ≤ v ∧ v ≤ 10) := by
    obtain ⟨v, hv, rv⟩ := gRd I (by decide) (gsz hsz (by decide)) rc_1_13.1
    exact ⟨v, hv, by omega⟩
  obtain ⟨ab, hab, rab⟩ : ∃ v : Int, M 191 4 = v ∧ (0 ≤ v ∧ v ≤ 10) := by
    obtain ⟨v, hv, rv⟩ := gRd I (by decide) (gsz hsz (by decide)) (rs_NA (k := 4) (by omega)).1
    exact ⟨v, hv, by omega⟩
  have hRm : cs + 0 ≤ room_1.cells ∧ ss + 0 ≤ room_1.slots := by
    show cs + 0 ≤ 349274 ∧ ss + 0 ≤ 8054428
    have := lwK.room LK
    omega
  obtain ⟨u1, eu1, ru1⟩ : ∃ z : Int, xs (i + 1).toNat = Int32.ofInt z ∧ (-2147483648 ≤ z ∧ z ≤ 2147483647) := ⟨_, gi_of _, gi_rg _⟩
  obtain ⟨u2, eu2, ru2⟩ : ∃ z : Int, xs (i + 2).toNat = Int32.ofInt z ∧ (-2147483648 ≤ z ∧ z ≤ 2147483647) := ⟨_, gi_of _, gi_rg _⟩
  obtain ⟨u3, eu3, ru3⟩ : ∃ z : Int, xs (i + 3).toNat = Int32.ofInt z ∧ (-2147483648 ≤ z ∧ z ≤ 2147483647) := ⟨_, gi_of _, gi_rg _⟩
  obtain ⟨u4, eu4, ru4⟩ : ∃ z : Int, xs (i + 4).toNat = Int32.ofInt z ∧ (-2147483648 ≤ z ∧ z ≤ 2147483647) := ⟨_, gi_of _, gi_rg _⟩
  obtain ⟨u5, eu5, ru5⟩ : ∃ z : Int, xs (i + 5).toNat = Int32.ofInt z ∧ (-2147483648 ≤ z ∧ z ≤ 2147483647) := ⟨_, gi_of _, gi_rg _⟩
  obtain ⟨u6, eu6, ru6⟩ : ∃ z : Int, xs (i + 6).toNat = Int32.ofInt z ∧ (-2147483648 ≤ z ∧ z ≤ 2147483647) := ⟨_, gi_of _, gi_rg _⟩
  refine g_aload_n (n := 1099) X 2 dL_law_1098 rfl rfl rfl ?_
  refine g_aload_n (n := 1100) X 3 dL_law_1099 rfl rfl rfl ?_
  refine g_iload_n (n := 1101) X 0 dL_law_1100 rfl rfl rfl ?_
  refine g_iconst (n := 1102) X dL_law_1101 rfl ?_
  refine g_iadd (n := 1103) (z := i + 1) X dL_law_1102 (by omega) rfl ?_
  refine g_scrld (n := 1104) (z := u1) X hb (by omega) (by omega) (by omega) dL_law_1103 rfl eu1 ?_
  refine g_aload_n (n := 1105) X 3 dL_law_1104 rfl rfl rfl ?_
  refine g_iload_n (n := 1106) X 0 dL_law_1105 rfl rfl rfl ?_
  refine g_iconst (n := 1107) X dL_law_1106 rfl ?_
  refine g_iadd (n := 1108) (z := i + 2) X dL_law_1107 (by omega) rfl ?_
  refine g_scrld (n := 1109) (z := u2) X hb (by omega) (by omega) (by omega) dL_law_1108 rfl eu2 ?_
  refine g_aload_n (n := 1110) X 3 dL_law_1109 rfl rfl rfl ?_
  refine g_iload_n (n := 1111) X 0 dL_law_1110 rfl rfl rfl ?_
  refine g_iconst (n := 1112) X dL_law_1111 rfl ?_
  refine g_iadd (n := 1113) (z := i + 3) X dL_law_1112 (by omega) rfl ?_
  refine g_scrld (n := 1114) (z := u3) X hb (by omega) (by omega) (by omega) dL_law_1113 rfl eu3 ?_
  refine g_callVi (n := 1117) (As := [gJ u1, gJ u2, gJ u3]) (rest := []) (cs1 := cs) (ss1 := ss) X (s_X11_appeal u1 (by omega) u2 (by omega) u3 (by omega) hsz I C ) okX11_appeal kw_4_135 ⟨kw_4_136, kw_4_137⟩ ⟨rfl, rfl⟩ ⟨Nat.le_of_ble_eq_true rfl, Nat.le_of_ble_eq_true rfl⟩ rfl (by decide) (gsz hsz (by decide)) lay_0 rfl rfl (Nat.le_of_ble_eq_true rfl) hRm rfl rfl dL_law_1114 rfl (fun v1 M2 P3 => ?_)
  obtain ⟨rv1, IM2, CM2, FM2⟩ := P3
  refine g_pop (n := 1118) X dL_law_1117 rfl rfl ?_
  refine g_aload_n (n := 1119) X 1 dL_law_1118 rfl rfl rfl ?_
  refine g_aload_n (n := 1120) X 3 dL_law_1119 rfl rfl rfl ?_
  refine g_iload_n (n := 1121) X 0 dL_law_1120 rfl rfl rfl ?_
  refine g_iconst (n := 1122) X dL_law_1121 rfl ?_
  refine g_iadd (n := 1123) (z := i + 1) X dL_law_1122 (by omega) rfl ?_
  refine g_scrld (n := 1124) (z := u1) X hb (by omega) (by omega) (by omega) dL_law_1123 rfl eu1 ?_
  refine g_aload_n (n := 1125) X 3 dL_law_1124 rfl rfl rfl ?_
  refine g_iload_n (n := 1126) X 0 dL_law_1125 rfl rfl rfl ?_
  refine g_iconst (n := 1127) X dL_law_1126 rfl ?_
  refine g_iadd (n := 1128) (z := i + 2) X dL_law_1127 (by omega) rfl ?_
  refine g_scrld (n := 1129) (z := u2) X hb (by omega) (by omega) (by omega) dL_law_1128 rfl eu2 ?_
  refine g_aload_n (n := 1130) X 3 dL_law_1129 rfl rfl rfl ?_
  refine g_iload_n (n := 1131) X 0 dL_law_1130 rfl rfl rfl ?_
  refine g_iconst (n := 1132) X dL_law_1131 rfl ?_
  refine g_iadd (n := 1133) (z := i + 3) X dL_law_1132 (by omega) rfl ?_
  refine g_scrld (n := 1134) (z := u3) X hb (by omega) (by omega) (by omega) dL_law_1133 rfl eu3 ?_
  refine g_callVi (n := 1137) (As := [gJ u1, gJ u2, gJ u3]) (rest := []) (cs1 := cs) (ss1 := ss) X (s_X12_appeal u1 (by omega) u2 (by omega) u3 (by omega) hsz IM2 CM2 (gW.fr (S := 33554432) W ⟨sz, hsz, I⟩ (gFr.c gFr.rf FM2 rfl) rfl)) okX12_appeal kw_7_98 ⟨kw_7_99, kw_7_100⟩ ⟨rfl, rfl⟩ ⟨Nat.le_of_ble_eq_true rfl, Nat.le_of_ble_eq_true rfl⟩ rfl (by decide) (gsz hsz (by decide)) lay_190 rfl rfl (Nat.le_of_ble_eq_true rfl) hRm rfl rfl dL_law_1134 rfl (fun v4 M5 P6 => ?_)
  obtain ⟨rv4, IM5, CM5, FM5⟩ := P6
  refine g_pop (n := 1138) X dL_law_1137 rfl rfl ?_
  refine g_goto (tgt := 1992) X dL_law_1138 (by decide) ?_
  exact kk _ _ _ _ ⟨hsz, IM5, CM5, (gW.fr (S := 2475880189251224992089112576) W ⟨sz, hsz, I⟩ (gFr.c (gFr.c gFr.rf FM2 rfl) FM5 rfl) rfl), (by rw [((gFr.at FM5 rc_1_13.2.2 rfl).trans (gFr.at FM2 rc_1_13.2.2 rfl))]; exact LA), (by rw [((gFr.at FM5 (rs_NA (k := 4) (by omega)).2.2 rfl).trans (gFr.at FM2 (rs_NA (k := 4) (by omega)).2.2 rfl))]; exact LB), (lwK.fr LK ((gFr.c (gFr.c gFr.rf FM2 rfl) FM5 rfl) : gFr 2475880189251224992089112576 M M5) rfl), ⟨(rl_now.fr (rl_now.fr LR.1 hN FM2 rfl) (gN_of hsz IM2) FM5 rfl), (rl_npers.fr (rl_npers.fr LR.2.1 hN FM2 rfl) (gN_of hsz IM2) FM5 rfl), (rl_sex.fr (rl_sex.fr LR.2.2.1 hN FM2 rfl) (gN_of hsz IM2) FM5 rfl), (rl_born.fr (rl_born.fr LR.2.2.2.1 hN FM2 rfl) (gN_of hsz IM2) FM5 rfl), (rl_nright.fr (rl_nright.fr LR.2.2.2.2.1 hN FM2 rfl) (gN_of hsz IM2) FM5 rfl), (rl_nent.fr (rl_nent.fr LR.2.2.2.2.2.1 hN FM2 rfl) (gN_of hsz IM2) FM5 rfl), (rl_rkind.fr (rl_rkind.fr LR.2.2.2.2.2.2.1 hN FM2 rfl) (gN_of hsz IM2) FM5 rfl), (rl_rwho.fr (rl_rwho.fr LR.2.2.2.2.2.2.2.1 hN FM2 rfl) (gN_of hsz IM2) FM5 rfl), (rl_rto.fr (rl_rto.fr LR.2.2.2.2.2.2.2.2.1 hN FM2 rfl) (gN_of hsz IM2) FM5 rfl), (rl_rn.fr (rl_rn.fr LR.2.2.2.2.2.2.2.2.2.1 hN FM2 rfl) (gN_of hsz IM2) FM5 rfl), (rl_rweek.fr (rl_rweek.fr LR.2.2.2.2.2.2.2.2.2.2.1 hN FM2 rfl) (gN_of hsz IM2) FM5 rfl), (rl_rsure.fr (rl_rsure.fr LR.2.2.2.2.2.2.2.2.2.2.2.1 hN FM2 rfl) (gN_of hsz IM2) FM5 rfl), (rl_proofs.fr (rl_proofs.fr LR.2.2.2.2.2.2.2.2.2.2.2.2 hN FM2 rfl) (gN_of hsz IM2) FM5 rfl)⟩⟩
theorem dL_law_1141 : decode code 1141 = .ok (.aload_n 1, 1) := dc_43 (by decide +kernel)
theorem dL_law_1142 : decode code 1142 = .ok (.aload_n 0, 1) := dc_42 (by decide +kernel)
theorem dL_law_1143 : decode code 1143 = .ok (.iload_n 3, 1) := dc_29 (by decide +kernel)
theorem dL_law_1144 : decode code 1144 = .ok (.iconst 1, 1) := dc_4 (by decide +kernel)
theorem dL_law_1145 : decode code 1145 = .ok (.iadd, 1) := dc_96 (by decide +kernel)
theorem dL_law_1146 : decode code 1146 = .ok (.iaload, 1) := dc_46 (by decide +kernel)
theorem dL_law_1147 : decode code 1147 = .ok (.invokevirtual 101, 3) := dc_182 0 101 (by decide +kernel)
theorem kw_4_147 : (Jvm.Cond.methodLink "ParishUnionLaw" (101 : Nat) ({ cls := "ParishUnion", name := "unlike", desc := "(I)I" } : Jvm.MethodName)) ∈ gT := gT_of (tb_4 _ (List.mem_of_getElem? (i := 147) rfl)) rfl
theorem kw_4_150 : (Jvm.Cond.code ({ cls := "ParishUnion", name := "unlike", desc := "(I)I" } : Jvm.MethodName) prog_1_method_21_code (4 : Nat) (Option.some Jvm.ClassFile.FieldType.int)) ∈ gT := gT_of (tb_4 _ (List.mem_of_getElem? (i := 150) rfl)) rfl
theorem okX11_unlike : gQok yX11_unlike cX11_unlike 4 (Option.some Jvm.ClassFile.FieldType.int) 1 := ⟨kw_4_150, kw_1_1, by decide +kernel, by decide +kernel, by decide +kernel⟩
theorem kw_4_148 : (Jvm.Cond.instanceMethod ({ cls := "ParishUnion", name := "unlike", desc := "(I)I" } : Jvm.MethodName)) ∈ gT := gT_of (tb_4 _ (List.mem_of_getElem? (i := 148) rfl)) rfl
theorem kw_4_149 : (Jvm.Cond.selects "ParishUnion" ({ cls := "ParishUnion", name := "unlike", desc := "(I)I" } : Jvm.MethodName) ({ cls := "ParishUnion", name := "unlike", desc := "(I)I" } : Jvm.MethodName)) ∈ gT := gT_of (tb_4 _ (List.mem_of_getElem? (i := 149) rfl)) rfl
theorem dL_law_1150 : decode code 1150 = .ok (.pop, 1) := dc_87 (by decide +kernel)
theorem dL_law_1151 : decode code 1151 = .ok (.aload_n 2, 1) := dc_44 (by decide +kernel)
theorem dL_law_1152 : decode code 1152 = .ok (.aload_n 0, 1) := dc_42 (by decide +kernel)
theorem dL_law_1153 : decode code 1153 = .ok (.iload_n 3, 1) := dc_29 (by decide +kernel)
theorem dL_law_1154 : decode code 1154 = .ok (.iconst 1, 1) := dc_4 (by decide +kernel)
theorem dL_law_1155 : decode code 1155 = .ok (.iadd, 1) := dc_96 (by decide +kernel)
theorem dL_law_1156 : decode code 1156 = .ok (.iaload, 1) := dc_46 (by decide +kernel)
theorem dL_law_1157 : decode code 1157 = .ok (.invokevirtual 104, 3) := dc_182 0 104 (by decide +kernel)
theorem kw_7_110 : (Jvm.Cond.methodLink "ParishUnionLaw" (104 : Nat) ({ cls := "ParishUnionModel", name := "unlike", desc := "(I)I" } : Jvm.MethodName)) ∈ gT := gT_of (tb_7 _ (List.mem_of_getElem? (i := 110) rfl)) rfl
theorem kw_7_113 : (Jvm.Cond.code ({ cls := "ParishUnionModel", name := "unlike", desc := "(I)I" } : Jvm.MethodName) prog_14_method_65_code (4 : Nat) (Option.some Jvm.ClassFile.FieldType.int)) ∈ gT := gT_of (tb_7 _ (List.mem_of_getElem? (i := 113) rfl)) rfl
theorem okX12_unlike : gQok yX12_unlike cX12_unlike 4 (Option.some Jvm.ClassFile.FieldType.int) 1 := ⟨kw_7_113, kw_1_13, by decide +kernel, by decide +kernel, by decide +kernel⟩
theorem kw_7_111 : (Jvm.Cond.instanceMethod ({ cls := "ParishUnionModel", name := "unlike", desc := "(I)I" } : Jvm.MethodName)) ∈ gT := gT_of (tb_7 _ (List.mem_of_getElem? (i := 111) rfl)) rfl
theorem kw_7_112 : (Jvm.Cond.selects "ParishUnionModel" ({ cls := "ParishUnionModel", name := "unlike", desc := "(I)I" } : Jvm.MethodName) ({ cls := "ParishUnionModel", name := "unlike", desc := "(I)I" } : Jvm.MethodName)) ∈ gT := gT_of (tb_7 _ (List.mem_of_getElem? (i := 112) rfl)) rfl
theorem dL_law_1160 : decode code 1160 = .ok (.pop, 1) := dc_87 (by decide +kernel)
theorem dL_law_1161 : decode code 1161 = .ok (.goto 831, 3) := dc_167 3 63 831 (by decide +kernel)
set_option maxRecDepth 100000 in
set_option maxHeartbeats 4000000 in
theorem law_case_19 {p : Program} {e : Env} {s : State} {m : MethodId} {below : List Frame} {meth : Method} {cd : Code} {l : Launch} {D : va_G} {cA : Nat → ClassId} {b Ln : Nat} {xs : Nat → Int32} (X : gCx p s m #[Value.ref b] meth cd s.heap.size D cA "ParishUnionLaw" code 4) (hr : meth.sig.returnType = ret) (hb : b < s.heap.size ∧ va_X b Ln xs s s.heap) (hLn : Ln ≤ 3584) {sz cs ss : Nat} {M : gM} (L : lwI sz cs ss M) (i : Int) (hi : 0 ≤ i ∧ i + 7 ≤ (Ln : Int)) (kk : ∀ (sz cs ss : Nat) (M1 : gM), lwI sz cs ss M1 → G p l e room_1 s m #[Value.ref b] below meth cd s.heap.size D cA 4 (lw_Z below #[Value.ref b] s) cs ss M1 sz 1992 [(3, gJ i), (2, gA s.heap.size 190), (1, gA s.heap.size 0), (0, .ref b)] []) : G p l e room_1 s m #[Value.ref b] below meth cd s.heap.size D cA 4 (lw_Z below #[Value.ref b] s) cs ss M sz 1141 [(3, gJ i), (2, gA s.heap.size 190), (1, gA s.heap.size 0), (0, .ref b)] [] := by
  obtain ⟨hsz, I, C, W, LA, LB, LK, LR⟩ := L
  have hN := gN_of hsz I
  obtain ⟨ac, hac, rac⟩ : ∃ v : Int, M 1 13 = v ∧ (0 ≤ v ∧ v ≤ 10) := by
    obtain ⟨v, hv, rv⟩ := gRd I (by decide) (gsz hsz (by decide)) rc_1_13.1
    exact ⟨v, hv, by omega⟩
  obtain ⟨ab, hab, rab⟩ : ∃ v : Int, M 191 4 = v ∧ (0 ≤ v ∧ v ≤ 10) := by
    obtain ⟨v, hv, rv⟩ := gRd I (by decide) (gsz hsz (by decide)) (rs_NA (k := 4) (by omega)).1
    exact ⟨v, hv, by omega⟩
  have hRm : cs + 0 ≤ room_1.cells ∧ ss + 0 ≤ room_1.slots := by
    show cs + 0 ≤ 349274 ∧ ss + 0 ≤ 8054428
    have := lwK.room LK
    omega
  obtain ⟨u1, eu1, ru1⟩ : ∃ z : Int, xs (i + 1).toNat = Int32.ofInt z ∧ (-2147483648 ≤ z ∧ z ≤ 2147483647) := ⟨_, gi_of _, gi_rg _⟩
  obtain ⟨u2, eu2, ru2⟩ : ∃ z : Int, xs (i + 2).toNat = Int32.ofInt z ∧ (-2147483648 ≤ z ∧ z ≤ 2147483647) := ⟨_, gi_of _, gi_rg _⟩
  obtain ⟨u3, eu3, ru3⟩ : ∃ z : Int, xs (i + 3).toNat = Int32.ofInt z ∧ (-2147483648 ≤ z ∧ z ≤ 2147483647) := ⟨_, gi_of _, gi_rg _⟩
  obtain ⟨u4, eu4, ru4⟩ : ∃ z : Int, xs (i + 4).toNat = Int32.ofInt z ∧ (-2147483648 ≤ z ∧ z ≤ 2147483647) := ⟨_, gi_of _, gi_rg _⟩
  obtain ⟨u5, eu5, ru5⟩ : ∃ z : Int, xs (i + 5).toNat = Int32.ofInt z ∧ (-2147483648 ≤ z ∧ z ≤ 2147483647) := ⟨_, gi_of _, gi_rg _⟩
  obtain ⟨u6, eu6, ru6⟩ : ∃ z : Int, xs (i + 6).toNat = Int32.ofInt z ∧ (-2147483648 ≤ z ∧ z ≤ 2147483647) := ⟨_, gi_of _, gi_rg _⟩
  refine g_aload_n (n := 1142) X 2 dL_law_1141 rfl rfl rfl ?_
  refine g_aload_n (n := 1143) X 3 dL_law_1142 rfl rfl rfl ?_
  refine g_iload_n (n := 1144) X 0 dL_law_1143 rfl rfl rfl ?_
  refine g_iconst (n := 1145) X dL_law_1144 rfl ?_
  refine g_iadd (n := 1146) (z := i + 1) X dL_law_1145 (by omega) rfl ?_
  refine g_scrld (n := 1147) (z := u1) X hb (by omega) (by omega) (by omega) dL_law_1146 rfl eu1 ?_
  refine g_callVi (n := 1150) (As := [gJ u1]) (rest := []) (cs1 := cs) (ss1 := ss) X (s_X11_unlike u1 (by omega) hsz I C ) okX11_unlike kw_4_147 ⟨kw_4_148, kw_4_149⟩ ⟨rfl, rfl⟩ ⟨Nat.le_of_ble_eq_true rfl, Nat.le_of_ble_eq_true rfl⟩ rfl (by decide) (gsz hsz (by decide)) lay_0 rfl rfl (Nat.le_of_ble_eq_true rfl) hRm rfl rfl dL_law_1147 rfl (fun v1 M2 P3 => ?_)
  obtain ⟨rv1, IM2, CM2, FM2⟩ := P3
  refine g_pop (n := 1151) X dL_law_1150 rfl rfl ?_
  refine g_aload_n (n := 1152) X 1 dL_law_1151 rfl rfl rfl ?_
  refine g_aload_n (n := 1153) X 3 dL_law_1152 rfl rfl rfl ?_
  refine g_iload_n (n := 1154) X 0 dL_law_1153 rfl rfl rfl ?_
  refine g_iconst (n := 1155) X dL_law_1154 rfl ?_
  refine g_iadd (n := 1156) (z := i + 1) X dL_law_1155 (by omega) rfl ?_
  refine g_scrld (n := 1157) (z := u1) X hb (by omega) (by omega) (by omega) dL_law_1156 rfl eu1 ?_
  refine g_callVi (n := 1160) (As := [gJ u1]) (rest := []) (cs1 := cs) (ss1 := ss) X (s_X12_unlike u1 (by omega) hsz IM2 CM2 (gW.fr (S := 33554432) W ⟨sz, hsz, I⟩ (gFr.c gFr.rf FM2 rfl) rfl)) okX12_unlike kw_7_110 ⟨kw_7_111, kw_7_112⟩ ⟨rfl, rfl⟩ ⟨Nat.le_of_ble_eq_true rfl, Nat.le_of_ble_eq_true rfl⟩ rfl (by decide) (gsz hsz (by decide)) lay_190 rfl rfl (Nat.le_of_ble_eq_true rfl) hRm rfl rfl dL_law_1157 rfl (fun v4 M5 P6 => ?_)
  obtain ⟨rv4, IM5, CM5, FM5⟩ := P6
  refine g_pop (n := 1161) X dL_law_1160 rfl rfl ?_
  refine g_goto (tgt := 1992) X dL_law_1161 (by decide) ?_
  exact kk _ _ _ _ ⟨hsz, IM5, CM5, (gW.fr (S := 2475880189251224992089112576) W ⟨sz, hsz, I⟩ (gFr.c (gFr.c gFr.rf FM2 rfl) FM5 rfl) rfl), (by rw [((gFr.at FM5 rc_1_13.2.2 rfl).trans (gFr.at FM2 rc_1_13.2.2 rfl))]; exact LA), (by rw [((gFr.at FM5 (rs_NA (k := 4) (by omega)).2.2 rfl).trans (gFr.at FM2 (rs_NA (k := 4) (by omega)).2.2 rfl))]; exact LB), (lwK.fr LK ((gFr.c (gFr.c gFr.rf FM2 rfl) FM5 rfl) : gFr 2475880189251224992089112576 M M5) rfl), ⟨(rl_now.fr (rl_now.fr LR.1 hN FM2 rfl) (gN_of hsz IM2) FM5 rfl), (rl_npers.fr (rl_npers.fr LR.2.1 hN FM2 rfl) (gN_of hsz IM2) FM5 rfl), (rl_sex.fr (rl_sex.fr LR.2.2.1 hN FM2 rfl) (gN_of hsz IM2) FM5 rfl), (rl_born.fr (rl_born.fr LR.2.2.2.1 hN FM2 rfl) (gN_of hsz IM2) FM5 rfl), (rl_nright.fr (rl_nright.fr LR.2.2.2.2.1 hN FM2 rfl) (gN_of hsz IM2) FM5 rfl), (rl_nent.fr (rl_nent.fr LR.2.2.2.2.2.1 hN FM2 rfl) (gN_of hsz IM2) FM5 rfl), (rl_rkind.fr (rl_rkind.fr LR.2.2.2.2.2.2.1 hN FM2 rfl) (gN_of hsz IM2) FM5 rfl), (rl_rwho.fr (rl_rwho.fr LR.2.2.2.2.2.2.2.1 hN FM2 rfl) (gN_of hsz IM2) FM5 rfl), (rl_rto.fr (rl_rto.fr LR.2.2.2.2.2.2.2.2.1 hN FM2 rfl) (gN_of hsz IM2) FM5 rfl), (rl_rn.fr (rl_rn.fr LR.2.2.2.2.2.2.2.2.2.1 hN FM2 rfl) (gN_of hsz IM2) FM5 rfl), (rl_rweek.fr (rl_rweek.fr LR.2.2.2.2.2.2.2.2.2.2.1 hN FM2 rfl) (gN_of hsz IM2) FM5 rfl), (rl_rsure.fr (rl_rsure.fr LR.2.2.2.2.2.2.2.2.2.2.2.1 hN FM2 rfl) (gN_of hsz IM2) FM5 rfl), (rl_proofs.fr (rl_proofs.fr LR.2.2.2.2.2.2.2.2.2.2.2.2 hN FM2 rfl) (gN_of hsz IM2) FM5 rfl)⟩⟩
theorem dL_law_1164 : decode code 1164 = .ok (.aload_n 1, 1) := dc_43 (by decide +kernel)
theorem dL_law_1165 : decode code 1165 = .ok (.aload_n 0, 1) := dc_42 (by decide +kernel)
theorem dL_law_1166 : decode code 1166 = .ok (.iload_n 3, 1) := dc_29 (by decide +kernel)
theorem dL_law_1167 : decode code 1167 = .ok (.iconst 1, 1) := dc_4 (by decide +kernel)
theorem dL_law_1168 : decode code 1168 = .ok (.iadd, 1) := dc_96 (by decide +kernel)
theorem dL_law_1169 : decode code 1169 = .ok (.iaload, 1) := dc_46 (by decide +kernel)
theorem dL_law_1170 : decode code 1170 = .ok (.invokevirtual 105, 3) := dc_182 0 105 (by decide +kernel)
theorem kw_4_151 : (Jvm.Cond.methodLink "ParishUnionLaw" (105 : Nat) ({ cls := "ParishUnion", name := "carry", desc := "(I)I" } : Jvm.MethodName)) ∈ gT := gT_of (tb_4 _ (List.mem_of_getElem? (i := 151) rfl)) rfl
theorem kw_4_154 : (Jvm.Cond.code ({ cls := "ParishUnion", name := "carry", desc := "(I)I" } : Jvm.MethodName) prog_1_method_22_code (4 : Nat) (Option.some Jvm.ClassFile.FieldType.int)) ∈ gT := gT_of (tb_4 _ (List.mem_of_getElem? (i := 154) rfl)) rfl
theorem okX11_carry : gQok yX11_carry cX11_carry 4 (Option.some Jvm.ClassFile.FieldType.int) 1 := ⟨kw_4_154, kw_1_1, by decide +kernel, by decide +kernel, by decide +kernel⟩
theorem kw_4_152 : (Jvm.Cond.instanceMethod ({ cls := "ParishUnion", name := "carry", desc := "(I)I" } : Jvm.MethodName)) ∈ gT := gT_of (tb_4 _ (List.mem_of_getElem? (i := 152) rfl)) rfl
theorem kw_4_153 : (Jvm.Cond.selects "ParishUnion" ({ cls := "ParishUnion", name := "carry", desc := "(I)I" } : Jvm.MethodName) ({ cls := "ParishUnion", name := "carry", desc := "(I)I" } : Jvm.MethodName)) ∈ gT := gT_of (tb_4 _ (List.mem_of_getElem? (i := 153) rfl)) rfl
theorem dL_law_1173 : decode code 1173 = .ok (.pop, 1) := dc_87 (by decide +kernel)
theorem dL_law_1174 : decode code 1174 = .ok (.aload_n 2, 1) := dc_44 (by decide +kernel)
theorem dL_law_1175 : decode code 1175 = .ok (.aload_n 0, 1) := dc_42 (by decide +kernel)
theorem dL_law_1176 : decode code 1176 = .ok (.iload_n 3, 1) := dc_29 (by decide +kernel)
theorem dL_law_1177 : decode code 1177 = .ok (.iconst 1, 1) := dc_4 (by decide +kernel)
theorem dL_law_1178 : decode code 1178 = .ok (.iadd, 1) := dc_96 (by decide +kernel)
theorem dL_law_1179 : decode code 1179 = .ok (.iaload, 1) := dc_46 (by decide +kernel)
theorem dL_law_1180 : decode code 1180 = .ok (.invokevirtual 108, 3) := dc_182 0 108 (by decide +kernel)
theorem kw_7_114 : (Jvm.Cond.methodLink "ParishUnionLaw" (108 : Nat) ({ cls := "ParishUnionModel", name := "carry", desc := "(I)I" } : Jvm.MethodName)) ∈ gT := gT_of (tb_7 _ (List.mem_of_getElem? (i := 114) rfl)) rfl
theorem kw_7_117 : (Jvm.Cond.code ({ cls := "ParishUnionModel", name := "carry", desc := "(I)I" } : Jvm.MethodName) prog_14_method_66_code (3 : Nat) (Option.some Jvm.ClassFile.FieldType.int)) ∈ gT := gT_of (tb_7 _ (List.mem_of_getElem? (i := 117) rfl)) rfl
theorem okX12_carry : gQok yX12_carry cX12_carry 3 (Option.some Jvm.ClassFile.FieldType.int) 1 := ⟨kw_7_117, kw_1_13, by decide +kernel, by decide +kernel, by decide +kernel⟩
theorem kw_7_115 : (Jvm.Cond.instanceMethod ({ cls := "ParishUnionModel", name := "carry", desc := "(I)I" } : Jvm.MethodName)) ∈ gT := gT_of (tb_7 _ (List.mem_of_getElem? (i := 115) rfl)) rfl
theorem kw_7_116 : (Jvm.Cond.selects "ParishUnionModel" ({ cls := "ParishUnionModel", name := "carry", desc := "(I)I" } : Jvm.MethodName) ({ cls := "ParishUnionModel", name := "carry", desc := "(I)I" } : Jvm.MethodName)) ∈ gT := gT_of (tb_7 _ (List.mem_of_getElem? (i := 116) rfl)) rfl
theorem dL_law_1183 : decode code 1183 = .ok (.pop, 1) := dc_87 (by decide +kernel)
theorem dL_law_1184 : decode code 1184 = .ok (.goto 808, 3) := dc_167 3 40 808 (by decide +kernel)
set_option maxRecDepth 100000 in
set_option maxHeartbeats 4000000 in
theorem law_case_20 {p : Program} {e : Env} {s : State} {m : MethodId} {below : List Frame} {meth : Method} {cd : Code} {l : Launch} {D : va_G} {cA : Nat → ClassId} {b Ln : Nat} {xs : Nat → Int32} (X : gCx p s m #[Value.ref b] meth cd s.heap.size D cA "ParishUnionLaw" code 4) (hr : meth.sig.returnType = ret) (hb : b < s.heap.size ∧ va_X b Ln xs s s.heap) (hLn : Ln ≤ 3584) {sz cs ss : Nat} {M : gM} (L : lwI sz cs ss M) (i : Int) (hi : 0 ≤ i ∧ i + 7 ≤ (Ln : Int)) (kk : ∀ (sz cs ss : Nat) (M1 : gM), lwI sz cs ss M1 → G p l e room_1 s m #[Value.ref b] below meth cd s.heap.size D cA 4 (lw_Z below #[Value.ref b] s) cs ss M1 sz 1992 [(3, gJ i), (2, gA s.heap.size 190), (1, gA s.heap.size 0), (0, .ref b)] []) : G p l e room_1 s m #[Value.ref b] below meth cd s.heap.size D cA 4 (lw_Z below #[Value.ref b] s) cs ss M sz 1164 [(3, gJ i), (2, gA s.heap.size 190), (1, gA s.heap.size 0), (0, .ref b)] [] := by
  obtain ⟨hsz, I, C, W, LA, LB, LK, LR⟩ := L
  have hN := gN_of hsz I
  obtain ⟨ac, hac, rac⟩ : ∃ v : Int, M 1 13 = v ∧ (0 ≤ v ∧ v ≤ 10) := by
    obtain ⟨v, hv, rv⟩ := gRd I (by decide) (gsz hsz (by decide)) rc_1_13.1
    exact ⟨v, hv, by omega⟩
  obtain ⟨ab, hab, rab⟩ : ∃ v : Int, M 191 4 = v ∧ (0 ≤ v ∧ v ≤ 10) := by
    obtain ⟨v, hv, rv⟩ := gRd I (by decide) (gsz hsz (by decide)) (rs_NA (k := 4) (by omega)).1
    exact ⟨v, hv, by omega⟩
  have hRm : cs + 0 ≤ room_1.cells ∧ ss + 0 ≤ room_1.slots := by
    show cs + 0 ≤ 349274 ∧ ss + 0 ≤ 8054428
    have := lwK.room LK
    omega
  obtain ⟨u1, eu1, ru1⟩ : ∃ z : Int, xs (i + 1).toNat = Int32.ofInt z ∧ (-2147483648 ≤ z ∧ z ≤ 2147483647) := ⟨_, gi_of _, gi_rg _⟩
  obtain ⟨u2, eu2, ru2⟩ : ∃ z : Int, xs (i + 2).toNat = Int32.ofInt z ∧ (-2147483648 ≤ z ∧ z ≤ 2147483647) := ⟨_, gi_of _, gi_rg _⟩
  obtain ⟨u3, eu3, ru3⟩ : ∃ z : Int, xs (i + 3).toNat = Int32.ofInt z ∧ (-2147483648 ≤ z ∧ z ≤ 2147483647) := ⟨_, gi_of _, gi_rg _⟩
  obtain ⟨u4, eu4, ru4⟩ : ∃ z : Int, xs (i + 4).toNat = Int32.ofInt z ∧ (-2147483648 ≤ z ∧ z ≤ 2147483647) := ⟨_, gi_of _, gi_rg _⟩
  obtain ⟨u5, eu5, ru5⟩ : ∃ z : Int, xs (i + 5).toNat = Int32.ofInt z ∧ (-2147483648 ≤ z ∧ z ≤ 2147483647) := ⟨_, gi_of _, gi_rg _⟩
  obtain ⟨u6, eu6, ru6⟩ : ∃ z : Int, xs (i + 6).toNat = Int32.ofInt z ∧ (-2147483648 ≤ z ∧ z ≤ 2147483647) := ⟨_, gi_of _, gi_rg _⟩
  refine g_aload_n (n := 1165) X 2 dL_law_1164 rfl rfl rfl ?_
  refine g_aload_n (n := 1166) X 3 dL_law_1165 rfl rfl rfl ?_
  refine g_iload_n (n := 1167) X 0 dL_law_1166 rfl rfl rfl ?_
  refine g_iconst (n := 1168) X dL_law_1167 rfl ?_
  refine g_iadd (n := 1169) (z := i + 1) X dL_law_1168 (by omega) rfl ?_
  refine g_scrld (n := 1170) (z := u1) X hb (by omega) (by omega) (by omega) dL_law_1169 rfl eu1 ?_
  refine g_callVi (n := 1173) (As := [gJ u1]) (rest := []) (cs1 := cs) (ss1 := ss) X (s_X11_carry u1 (by omega) hsz I C ) okX11_carry kw_4_151 ⟨kw_4_152, kw_4_153⟩ ⟨rfl, rfl⟩ ⟨Nat.le_of_ble_eq_true rfl, Nat.le_of_ble_eq_true rfl⟩ rfl (by decide) (gsz hsz (by decide)) lay_0 rfl rfl (Nat.le_of_ble_eq_true rfl) hRm rfl rfl dL_law_1170 rfl (fun v1 M2 P3 => ?_)
  obtain ⟨rv1, IM2, CM2, FM2⟩ := P3
  refine g_pop (n := 1174) X dL_law_1173 rfl rfl ?_
  refine g_aload_n (n := 1175) X 1 dL_law_1174 rfl rfl rfl ?_
  refine g_aload_n (n := 1176) X 3 dL_law_1175 rfl rfl rfl ?_
  refine g_iload_n (n := 1177) X 0 dL_law_1176 rfl rfl rfl ?_
  refine g_iconst (n := 1178) X dL_law_1177 rfl ?_
  refine g_iadd (n := 1179) (z := i + 1) X dL_law_1178 (by omega) rfl ?_
  refine g_scrld (n := 1180) (z := u1) X hb (by omega) (by omega) (by omega) dL_law_1179 rfl eu1 ?_
  refine g_callVi (n := 1183) (As := [gJ u1]) (rest := []) (cs1 := cs) (ss1 := ss) X (s_X12_carry u1 (by omega) hsz IM2 CM2 ) okX12_carry kw_7_114 ⟨kw_7_115, kw_7_116⟩ ⟨rfl, rfl⟩ ⟨Nat.le_of_ble_eq_true rfl, Nat.le_of_ble_eq_true rfl⟩ rfl (by decide) (gsz hsz (by decide)) lay_190 rfl rfl (Nat.le_of_ble_eq_true rfl) hRm rfl rfl dL_law_1180 rfl (fun v4 M5 P6 => ?_)
  obtain ⟨rv4, IM5, CM5, FM5⟩ := P6
  refine g_pop (n := 1184) X dL_law_1183 rfl rfl ?_
  refine g_goto (tgt := 1992) X dL_law_1184 (by decide) ?_
  exact kk _ _ _ _ ⟨hsz, IM5, CM5, (gW.fr (S := 618970019643816037356405776) W ⟨sz, hsz, I⟩ (gFr.c (gFr.c gFr.rf FM2 rfl) FM5 rfl) rfl), (by rw [((gFr.at FM5 rc_1_13.2.2 rfl).trans (gFr.at FM2 rc_1_13.2.2 rfl))]; exact LA), (by rw [((gFr.at FM5 (rs_NA (k := 4) (by omega)).2.2 rfl).trans (gFr.at FM2 (rs_NA (k := 4) (by omega)).2.2 rfl))]; exact LB), (lwK.fr LK ((gFr.c (gFr.c gFr.rf FM2 rfl) FM5 rfl) : gFr 618970019643816037356405776 M M5) rfl), ⟨(rl_now.fr (rl_now.fr LR.1 hN FM2 rfl) (gN_of hsz IM2) FM5 rfl), (rl_npers.fr (rl_npers.fr LR.2.1 hN FM2 rfl) (gN_of hsz IM2) FM5 rfl), (rl_sex.fr (rl_sex.fr LR.2.2.1 hN FM2 rfl) (gN_of hsz IM2) FM5 rfl), (rl_born.fr (rl_born.fr LR.2.2.2.1 hN FM2 rfl) (gN_of hsz IM2) FM5 rfl), (rl_nright.fr (rl_nright.fr LR.2.2.2.2.1 hN FM2 rfl) (gN_of hsz IM2) FM5 rfl), (rl_nent.fr (rl_nent.fr LR.2.2.2.2.2.1 hN FM2 rfl) (gN_of hsz IM2) FM5 rfl), (rl_rkind.fr (rl_rkind.fr LR.2.2.2.2.2.2.1 hN FM2 rfl) (gN_of hsz IM2) FM5 rfl), (rl_rwho.fr (rl_rwho.fr LR.2.2.2.2.2.2.2.1 hN FM2 rfl) (gN_of hsz IM2) FM5 rfl), (rl_rto.fr (rl_rto.fr LR.2.2.2.2.2.2.2.2.1 hN FM2 rfl) (gN_of hsz IM2) FM5 rfl), (rl_rn.fr (rl_rn.fr LR.2.2.2.2.2.2.2.2.2.1 hN FM2 rfl) (gN_of hsz IM2) FM5 rfl), (rl_rweek.fr (rl_rweek.fr LR.2.2.2.2.2.2.2.2.2.2.1 hN FM2 rfl) (gN_of hsz IM2) FM5 rfl), (rl_rsure.fr (rl_rsure.fr LR.2.2.2.2.2.2.2.2.2.2.2.1 hN FM2 rfl) (gN_of hsz IM2) FM5 rfl), (rl_proofs.fr (rl_proofs.fr LR.2.2.2.2.2.2.2.2.2.2.2.2 hN FM2 rfl) (gN_of hsz IM2) FM5 rfl)⟩⟩
theorem dL_law_1187 : decode code 1187 = .ok (.aload_n 1, 1) := dc_43 (by decide +kernel)
theorem dL_law_1188 : decode code 1188 = .ok (.aload_n 0, 1) := dc_42 (by decide +kernel)
theorem dL_law_1189 : decode code 1189 = .ok (.iload_n 3, 1) := dc_29 (by decide +kernel)
theorem dL_law_1190 : decode code 1190 = .ok (.iconst 1, 1) := dc_4 (by decide +kernel)
theorem dL_law_1191 : decode code 1191 = .ok (.iadd, 1) := dc_96 (by decide +kernel)
theorem dL_law_1192 : decode code 1192 = .ok (.iaload, 1) := dc_46 (by decide +kernel)
theorem dL_law_1193 : decode code 1193 = .ok (.aload_n 0, 1) := dc_42 (by decide +kernel)
theorem dL_law_1194 : decode code 1194 = .ok (.iload_n 3, 1) := dc_29 (by decide +kernel)
theorem dL_law_1195 : decode code 1195 = .ok (.iconst 2, 1) := dc_5 (by decide +kernel)
theorem dL_law_1196 : decode code 1196 = .ok (.iadd, 1) := dc_96 (by decide +kernel)
theorem dL_law_1197 : decode code 1197 = .ok (.iaload, 1) := dc_46 (by decide +kernel)
theorem dL_law_1198 : decode code 1198 = .ok (.invokevirtual 109, 3) := dc_182 0 109 (by decide +kernel)
theorem kw_4_155 : (Jvm.Cond.methodLink "ParishUnionLaw" (109 : Nat) ({ cls := "ParishUnion", name := "house", desc := "(II)I" } : Jvm.MethodName)) ∈ gT := gT_of (tb_4 _ (List.mem_of_getElem? (i := 155) rfl)) rfl
theorem kw_4_158 : (Jvm.Cond.code ({ cls := "ParishUnion", name := "house", desc := "(II)I" } : Jvm.MethodName) prog_1_method_23_code (5 : Nat) (Option.some Jvm.ClassFile.FieldType.int)) ∈ gT := gT_of (tb_4 _ (List.mem_of_getElem? (i := 158) rfl)) rfl
theorem okX11_house : gQok yX11_house cX11_house 5 (Option.some Jvm.ClassFile.FieldType.int) 2 := ⟨kw_4_158, kw_1_1, by decide +kernel, by decide +kernel, by decide +kernel⟩
theorem kw_4_156 : (Jvm.Cond.instanceMethod ({ cls := "ParishUnion", name := "house", desc := "(II)I" } : Jvm.MethodName)) ∈ gT := gT_of (tb_4 _ (List.mem_of_getElem? (i := 156) rfl)) rfl
theorem kw_4_157 : (Jvm.Cond.selects "ParishUnion" ({ cls := "ParishUnion", name := "house", desc := "(II)I" } : Jvm.MethodName) ({ cls := "ParishUnion", name := "house", desc := "(II)I" } : Jvm.MethodName)) ∈ gT := gT_of (tb_4 _ (List.mem_of_getElem? (i := 157) rfl)) rfl
theorem dL_law_1201 : decode code 1201 = .ok (.pop, 1) := dc_87 (by decide +kernel)
theorem dL_law_1202 : decode code 1202 = .ok (.aload_n 2, 1) := dc_44 (by decide +kernel)
theorem dL_law_1203 : decode code 1203 = .ok (.aload_n 0, 1) := dc_42 (by decide +kernel)
theorem dL_law_1204 : decode code 1204 = .ok (.iload_n 3, 1) := dc_29 (by decide +kernel)
theorem dL_law_1205 : decode code 1205 = .ok (.iconst 1, 1) := dc_4 (by decide +kernel)
theorem dL_law_1206 : decode code 1206 = .ok (.iadd, 1) := dc_96 (by decide +kernel)
theorem dL_law_1207 : decode code 1207 = .ok (.iaload, 1) := dc_46 (by decide +kernel)
theorem dL_law_1208 : decode code 1208 = .ok (.aload_n 0, 1) := dc_42 (by decide +kernel)
theorem dL_law_1209 : decode code 1209 = .ok (.iload_n 3, 1) := dc_29 (by decide +kernel)
theorem dL_law_1210 : decode code 1210 = .ok (.iconst 2, 1) := dc_5 (by decide +kernel)
theorem dL_law_1211 : decode code 1211 = .ok (.iadd, 1) := dc_96 (by decide +kernel)
theorem dL_law_1212 : decode code 1212 = .ok (.iaload, 1) := dc_46 (by decide +kernel)
theorem dL_law_1213 : decode code 1213 = .ok (.invokevirtual 112, 3) := dc_182 0 112 (by decide +kernel)
theorem kw_7_118 : (Jvm.Cond.methodLink "ParishUnionLaw" (112 : Nat) ({ cls := "ParishUnionModel", name := "house", desc := "(II)I" } : Jvm.MethodName)) ∈ gT := gT_of (tb_7 _ (List.mem_of_getElem? (i := 118) rfl)) rfl
theorem kw_7_121 : (Jvm.Cond.code ({ cls := "ParishUnionModel", name := "house", desc := "(II)I" } : Jvm.MethodName) prog_14_method_67_code (5 : Nat) (Option.some Jvm.ClassFile.FieldType.int)) ∈ gT := gT_of (tb_7 _ (List.mem_of_getElem? (i := 121) rfl)) rfl
theorem okX12_house : gQok yX12_house cX12_house 5 (Option.some Jvm.ClassFile.FieldType.int) 2 := ⟨kw_7_121, kw_1_13, by decide +kernel, by decide +kernel, by decide +kernel⟩
theorem kw_7_119 : (Jvm.Cond.instanceMethod ({ cls := "ParishUnionModel", name := "house", desc := "(II)I" } : Jvm.MethodName)) ∈ gT := gT_of (tb_7 _ (List.mem_of_getElem? (i := 119) rfl)) rfl
theorem kw_7_120 : (Jvm.Cond.selects "ParishUnionModel" ({ cls := "ParishUnionModel", name := "house", desc := "(II)I" } : Jvm.MethodName) ({ cls := "ParishUnionModel", name := "house", desc := "(II)I" } : Jvm.MethodName)) ∈ gT := gT_of (tb_7 _ (List.mem_of_getElem? (i := 120) rfl)) rfl
theorem dL_law_1216 : decode code 1216 = .ok (.pop, 1) := dc_87 (by decide +kernel)
theorem dL_law_1217 : decode code 1217 = .ok (.goto 775, 3) := dc_167 3 7 775 (by decide +kernel)
set_option maxRecDepth 100000 in
set_option maxHeartbeats 4000000 in
theorem law_case_21 {p : Program} {e : Env} {s : State} {m : MethodId} {below : List Frame} {meth : Method} {cd : Code} {l : Launch} {D : va_G} {cA : Nat → ClassId} {b Ln : Nat} {xs : Nat → Int32} (X : gCx p s m #[Value.ref b] meth cd s.heap.size D cA "ParishUnionLaw" code 4) (hr : meth.sig.returnType = ret) (hb : b < s.heap.size ∧ va_X b Ln xs s s.heap) (hLn : Ln ≤ 3584) {sz cs ss : Nat} {M : gM} (L : lwI sz cs ss M) (i : Int) (hi : 0 ≤ i ∧ i + 7 ≤ (Ln : Int)) (kk : ∀ (sz cs ss : Nat) (M1 : gM), lwI sz cs ss M1 → G p l e room_1 s m #[Value.ref b] below meth cd s.heap.size D cA 4 (lw_Z below #[Value.ref b] s) cs ss M1 sz 1992 [(3, gJ i), (2, gA s.heap.size 190), (1, gA s.heap.size 0), (0, .ref b)] []) : G p l e room_1 s m #[Value.ref b] below meth cd s.heap.size D cA 4 (lw_Z below #[Value.ref b] s) cs ss M sz 1187 [(3, gJ i), (2, gA s.heap.size 190), (1, gA s.heap.size 0), (0, .ref b)] [] := by
  obtain ⟨hsz, I, C, W, LA, LB, LK, LR⟩ := L
  have hN := gN_of hsz I
  obtain ⟨ac, hac, rac⟩ : ∃ v : Int, M 1 13 = v ∧ (0 ≤ v ∧ v ≤ 10) := by
    obtain ⟨v, hv, rv⟩ := gRd I (by decide) (gsz hsz (by decide)) rc_1_13.1
    exact ⟨v, hv, by omega⟩
  obtain ⟨ab, hab, rab⟩ : ∃ v : Int, M 191 4 = v ∧ (0 ≤ v ∧ v ≤ 10) := by
    obtain ⟨v, hv, rv⟩ := gRd I (by decide) (gsz hsz (by decide)) (rs_NA (k := 4) (by omega)).1
    exact ⟨v, hv, by omega⟩
  have hRm : cs + 0 ≤ room_1.cells ∧ ss + 0 ≤ room_1.slots := by
    show cs + 0 ≤ 349274 ∧ ss + 0 ≤ 8054428
    have := lwK.room LK
    omega
  obtain ⟨u1, eu1, ru1⟩ : ∃ z : Int, xs (i + 1).toNat = Int32.ofInt z ∧ (-2147483648 ≤ z ∧ z ≤ 2147483647) := ⟨_, gi_of _, gi_rg _⟩
  obtain ⟨u2, eu2, ru2⟩ : ∃ z : Int, xs (i + 2).toNat = Int32.ofInt z ∧ (-2147483648 ≤ z ∧ z ≤ 2147483647) := ⟨_, gi_of _, gi_rg _⟩
  obtain ⟨u3, eu3, ru3⟩ : ∃ z : Int, xs (i + 3).toNat = Int32.ofInt z ∧ (-2147483648 ≤ z ∧ z ≤ 2147483647) := ⟨_, gi_of _, gi_rg _⟩
  obtain ⟨u4, eu4, ru4⟩ : ∃ z : Int, xs (i + 4).toNat = Int32.ofInt z ∧ (-2147483648 ≤ z ∧ z ≤ 2147483647) := ⟨_, gi_of _, gi_rg _⟩
  obtain ⟨u5, eu5, ru5⟩ : ∃ z : Int, xs (i + 5).toNat = Int32.ofInt z ∧ (-2147483648 ≤ z ∧ z ≤ 2147483647) := ⟨_, gi_of _, gi_rg _⟩
  obtain ⟨u6, eu6, ru6⟩ : ∃ z : Int, xs (i + 6).toNat = Int32.ofInt z ∧ (-2147483648 ≤ z ∧ z ≤ 2147483647) := ⟨_, gi_of _, gi_rg _⟩
  refine g_aload_n (n := 1188) X 2 dL_law_1187 rfl rfl rfl ?_
  refine g_aload_n (n := 1189) X 3 dL_law_1188 rfl rfl rfl ?_
  refine g_iload_n (n := 1190) X 0 dL_law_1189 rfl rfl rfl ?_
  refine g_iconst (n := 1191) X dL_law_1190 rfl ?_
  refine g_iadd (n := 1192) (z := i + 1) X dL_law_1191 (by omega) rfl ?_
  refine g_scrld (n := 1193) (z := u1) X hb (by omega) (by omega) (by omega) dL_law_1192 rfl eu1 ?_
  refine g_aload_n (n := 1194) X 3 dL_law_1193 rfl rfl rfl ?_
  refine g_iload_n (n := 1195) X 0 dL_law_1194 rfl rfl rfl ?_
  refine g_iconst (n := 1196) X dL_law_1195 rfl ?_
  refine g_iadd (n := 1197) (z := i + 2) X dL_law_1196 (by omega) rfl ?_
  refine g_scrld (n := 1198) (z := u2) X hb (by omega) (by omega) (by omega) dL_law_1197 rfl eu2 ?_
  refine g_callVi (n := 1201) (As := [gJ u1, gJ u2]) (rest := []) (cs1 := cs) (ss1 := ss) X (s_X11_house u1 (by omega) u2 (by omega) hsz I C ) okX11_house kw_4_155 ⟨kw_4_156, kw_4_157⟩ ⟨rfl, rfl⟩ ⟨Nat.le_of_ble_eq_true rfl, Nat.le_of_ble_eq_true rfl⟩ rfl (by decide) (gsz hsz (by decide)) lay_0 rfl rfl (Nat.le_of_ble_eq_true rfl) hRm rfl rfl dL_law_1198 rfl (fun v1 M2 P3 => ?_)
  obtain ⟨rv1, IM2, CM2, FM2⟩ := P3
  refine g_pop (n := 1202) X dL_law_1201 rfl rfl ?_
  refine g_aload_n (n := 1203) X 1 dL_law_1202 rfl rfl rfl ?_
  refine g_aload_n (n := 1204) X 3 dL_law_1203 rfl rfl rfl ?_
  refine g_iload_n (n := 1205) X 0 dL_law_1204 rfl rfl rfl ?_
  refine g_iconst (n := 1206) X dL_law_1205 rfl ?_
  refine g_iadd (n := 1207) (z := i + 1) X dL_law_1206 (by omega) rfl ?_
  refine g_scrld (n := 1208) (z := u1) X hb (by omega) (by omega) (by omega) dL_law_1207 rfl eu1 ?_
  refine g_aload_n (n := 1209) X 3 dL_law_1208 rfl rfl rfl ?_
  refine g_iload_n (n := 1210) X 0 dL_law_1209 rfl rfl rfl ?_
  refine g_iconst (n := 1211) X dL_law_1210 rfl ?_
  refine g_iadd (n := 1212) (z := i + 2) X dL_law_1211 (by omega) rfl ?_
  refine g_scrld (n := 1213) (z := u2) X hb (by omega) (by omega) (by omega) dL_law_1212 rfl eu2 ?_
  refine g_callVi (n := 1216) (As := [gJ u1, gJ u2]) (rest := []) (cs1 := cs) (ss1 := ss) X (s_X12_house u1 (by omega) u2 (by omega) hsz IM2 CM2 ) okX12_house kw_7_118 ⟨kw_7_119, kw_7_120⟩ ⟨rfl, rfl⟩ ⟨Nat.le_of_ble_eq_true rfl, Nat.le_of_ble_eq_true rfl⟩ rfl (by decide) (gsz hsz (by decide)) lay_190 rfl rfl (Nat.le_of_ble_eq_true rfl) hRm rfl rfl dL_law_1213 rfl (fun v4 M5 P6 => ?_)
  obtain ⟨rv4, IM5, CM5, FM5⟩ := P6
  refine g_pop (n := 1217) X dL_law_1216 rfl rfl ?_
  refine g_goto (tgt := 1992) X dL_law_1217 (by decide) ?_
  exact kk _ _ _ _ ⟨hsz, IM5, CM5, (gW.fr (S := 145135534868480) W ⟨sz, hsz, I⟩ (gFr.c (gFr.c gFr.rf FM2 rfl) FM5 rfl) rfl), (by rw [((gFr.at FM5 rc_1_13.2.2 rfl).trans (gFr.at FM2 rc_1_13.2.2 rfl))]; exact LA), (by rw [((gFr.at FM5 (rs_NA (k := 4) (by omega)).2.2 rfl).trans (gFr.at FM2 (rs_NA (k := 4) (by omega)).2.2 rfl))]; exact LB), (lwK.fr LK ((gFr.c (gFr.c gFr.rf FM2 rfl) FM5 rfl) : gFr 145135534868480 M M5) rfl), ⟨(rl_now.fr (rl_now.fr LR.1 hN FM2 rfl) (gN_of hsz IM2) FM5 rfl), (rl_npers.fr (rl_npers.fr LR.2.1 hN FM2 rfl) (gN_of hsz IM2) FM5 rfl), (rl_sex.fr (rl_sex.fr LR.2.2.1 hN FM2 rfl) (gN_of hsz IM2) FM5 rfl), (rl_born.fr (rl_born.fr LR.2.2.2.1 hN FM2 rfl) (gN_of hsz IM2) FM5 rfl), (rl_nright.fr (rl_nright.fr LR.2.2.2.2.1 hN FM2 rfl) (gN_of hsz IM2) FM5 rfl), (rl_nent.fr (rl_nent.fr LR.2.2.2.2.2.1 hN FM2 rfl) (gN_of hsz IM2) FM5 rfl), (rl_rkind.fr (rl_rkind.fr LR.2.2.2.2.2.2.1 hN FM2 rfl) (gN_of hsz IM2) FM5 rfl), (rl_rwho.fr (rl_rwho.fr LR.2.2.2.2.2.2.2.1 hN FM2 rfl) (gN_of hsz IM2) FM5 rfl), (rl_rto.fr (rl_rto.fr LR.2.2.2.2.2.2.2.2.1 hN FM2 rfl) (gN_of hsz IM2) FM5 rfl), (rl_rn.fr (rl_rn.fr LR.2.2.2.2.2.2.2.2.2.1 hN FM2 rfl) (gN_of hsz IM2) FM5 rfl), (rl_rweek.fr (rl_rweek.fr LR.2.2.2.2.2.2.2.2.2.2.1 hN FM2 rfl) (gN_of hsz IM2) FM5 rfl), (rl_rsure.fr (rl_rsure.fr LR.2.2.2.2.2.2.2.2.2.2.2.1 hN FM2 rfl) (gN_of hsz IM2) FM5 rfl), (rl_proofs.fr (rl_proofs.fr LR.2.2.2.2.2.2.2.2.2.2.2.2 hN FM2 rfl) (gN_of hsz IM2) FM5 rfl)⟩⟩
theorem dL_law_1220 : decode code 1220 = .ok (.aload_n 1, 1) := dc_43 (by decide +kernel)
theorem dL_law_1221 : decode code 1221 = .ok (.aload_n 0, 1) := dc_42 (by decide +kernel)
theorem dL_law_1222 : decode code 1222 = .ok (.iload_n 3, 1) := dc_29 (by decide +kernel)
theorem dL_law_1223 : decode code 1223 = .ok (.iconst 1, 1) := dc_4 (by decide +kernel)
theorem dL_law_1224 : decode code 1224 = .ok (.iadd, 1) := dc_96 (by decide +kernel)
theorem dL_law_1225 : decode code 1225 = .ok (.iaload, 1) := dc_46 (by decide +kernel)
theorem dL_law_1226 : decode code 1226 = .ok (.invokevirtual 113, 3) := dc_182 0 113 (by decide +kernel)
theorem kw_4_159 : (Jvm.Cond.methodLink "ParishUnionLaw" (113 : Nat) ({ cls := "ParishUnion", name := "price", desc := "(I)I" } : Jvm.MethodName)) ∈ gT := gT_of (tb_4 _ (List.mem_of_getElem? (i := 159) rfl)) rfl
theorem kw_4_162 : (Jvm.Cond.code ({ cls := "ParishUnion", name := "price", desc := "(I)I" } : Jvm.MethodName) prog_1_method_24_code (3 : Nat) (Option.some Jvm.ClassFile.FieldType.int)) ∈ gT := gT_of (tb_4 _ (List.mem_of_getElem? (i := 162) rfl)) rfl
theorem okX11_price : gQok yX11_price cX11_price 3 (Option.some Jvm.ClassFile.FieldType.int) 1 := ⟨kw_4_162, kw_1_1, by decide +kernel, by decide +kernel, by decide +kernel⟩
theorem kw_4_160 : (Jvm.Cond.instanceMethod ({ cls := "ParishUnion", name := "price", desc := "(I)I" } : Jvm.MethodName)) ∈ gT := gT_of (tb_4 _ (List.mem_of_getElem? (i := 160) rfl)) rfl
theorem kw_4_161 : (Jvm.Cond.selects "ParishUnion" ({ cls := "ParishUnion", name := "price", desc := "(I)I" } : Jvm.MethodName) ({ cls := "ParishUnion", name := "price", desc := "(I)I" } : Jvm.MethodName)) ∈ gT := gT_of (tb_4 _ (List.mem_of_getElem? (i := 161) rfl)) rfl
theorem dL_law_1229 : decode code 1229 = .ok (.pop, 1) := dc_87 (by decide +kernel)
theorem dL_law_1230 : decode code 1230 = .ok (.aload_n 2, 1) := dc_44 (by decide +kernel)
theorem dL_law_1231 : decode code 1231 = .ok (.aload_n 0, 1) := dc_42 (by decide +kernel)
theorem dL_law_1232 : decode code 1232 = .ok (.iload_n 3, 1) := dc_29 (by decide +kernel)
theorem dL_law_1233 : decode code 1233 = .ok (.iconst 1, 1) := dc_4 (by decide +kernel)
theorem dL_law_1234 : decode code 1234 = .ok (.iadd, 1) := dc_96 (by decide +kernel)
theorem dL_law_1235 : decode code 1235 = .ok (.iaload, 1) := dc_46 (by decide +kernel)
theorem dL_law_1236 : decode code 1236 = .ok (.invokevirtual 116, 3) := dc_182 0 116 (by decide +kernel)
theorem kw_7_122 : (Jvm.Cond.methodLink "ParishUnionLaw" (116 : Nat) ({ cls := "ParishUnionModel", name := "price", desc := "(I)I" } : Jvm.MethodName)) ∈ gT := gT_of (tb_7 _ (List.mem_of_getElem? (i := 122) rfl)) rfl
theorem kw_7_125 : (Jvm.Cond.code ({ cls := "ParishUnionModel", name := "price", desc := "(I)I" } : Jvm.MethodName) prog_14_method_68_code (3 : Nat) (Option.some Jvm.ClassFile.FieldType.int)) ∈ gT := gT_of (tb_7 _ (List.mem_of_getElem? (i := 125) rfl)) rfl
theorem okX12_price : gQok yX12_price cX12_price 3 (Option.some Jvm.ClassFile.FieldType.int) 1 := ⟨kw_7_125, kw_1_13, by decide +kernel, by decide +kernel, by decide +kernel⟩
theorem kw_7_123 : (Jvm.Cond.instanceMethod ({ cls := "ParishUnionModel", name := "price", desc := "(I)I" } : Jvm.MethodName)) ∈ gT := gT_of (tb_7 _ (List.mem_of_getElem? (i := 123) rfl)) rfl
theorem kw_7_124 : (Jvm.Cond.selects "ParishUnionModel" ({ cls := "ParishUnionModel", name := "price", desc := "(I)I" } : Jvm.MethodName) ({ cls := "ParishUnionModel", name := "price", desc := "(I)I" } : Jvm.MethodName)) ∈ gT := gT_of (tb_7 _ (List.mem_of_getElem? (i := 124) rfl)) rfl
theorem dL_law_1239 : decode code 1239 = .ok (.pop, 1) := dc_87 (by decide +kernel)
theorem dL_law_1240 : decode code 1240 = .ok (.goto 752, 3) := dc_167 2 240 752 (by decide +kernel)
set_option maxRecDepth 100000 in
set_option maxHeartbeats 4000000 in
theorem law_case_22 {p : Program} {e : Env} {s : State} {m : MethodId} {below : List Frame} {meth : Method} {cd : Code} {l : Launch} {D : va_G} {cA : Nat → ClassId} {b Ln : Nat} {xs : Nat → Int32} (X : gCx p s m #[Value.ref b] meth cd s.heap.size D cA "ParishUnionLaw" code 4) (hr : meth.sig.returnType = ret) (hb : b < s.heap.size ∧ va_X b Ln xs s s.heap) (hLn : Ln ≤ 3584) {sz cs ss : Nat} {M : gM} (L : lwI sz cs ss M) (i : Int) (hi : 0 ≤ i ∧ i + 7 ≤ (Ln : Int)) (kk : ∀ (sz cs ss : Nat) (M1 : gM), lwI sz cs ss M1 → G p l e room_1 s m #[Value.ref b] below meth cd s.heap.size D cA 4 (lw_Z below #[Value.ref b] s) cs ss M1 sz 1992 [(3, gJ i), (2, gA s.heap.size 190), (1, gA s.heap.size 0), (0, .ref b)] []) : G p l e room_1 s m #[Value.ref b] below meth cd s.heap.size D cA 4 (lw_Z below #[Value.ref b] s) cs ss M sz 1220 [(3, gJ i), (2, gA s.heap.size 190), (1, gA s.heap.size 0), (0, .ref b)] [] := by
  obtain ⟨hsz, I, C, W, LA, LB, LK, LR⟩ := L
  have hN := gN_of hsz I
  obtain ⟨ac, hac, rac⟩ : ∃ v : Int, M 1 13 = v ∧ (0 ≤ v ∧ v ≤ 10) := by
    obtain ⟨v, hv, rv⟩ := gRd I (by decide) (gsz hsz (by decide)) rc_1_13.1
    exact ⟨v, hv, by omega⟩
  obtain ⟨ab, hab, rab⟩ : ∃ v : Int, M 191 4 = v ∧ (0 ≤ v ∧ v ≤ 10) := by
    obtain ⟨v, hv, rv⟩ := gRd I (by decide) (gsz hsz (by decide)) (rs_NA (k := 4) (by omega)).1
    exact ⟨v, hv, by omega⟩
  have hRm : cs + 0 ≤ room_1.cells ∧ ss + 0 ≤ room_1.slots := by
    show cs + 0 ≤ 349274 ∧ ss + 0 ≤ 8054428
    have := lwK.room LK
    omega
  obtain ⟨u1, eu1, ru1⟩ : ∃ z : Int, xs (i + 1).toNat = Int32.ofInt z ∧ (-2147483648 ≤ z ∧ z ≤ 2147483647) := ⟨_, gi_of _, gi_rg _⟩
  obtain ⟨u2, eu2, ru2⟩ : ∃ z : Int, xs (i + 2).toNat = Int32.ofInt z ∧ (-2147483648 ≤ z ∧ z ≤ 2147483647) := ⟨_, gi_of _, gi_rg _⟩
  obtain ⟨u3, eu3, ru3⟩ : ∃ z : Int, xs (i + 3).toNat = Int32.ofInt z ∧ (-2147483648 ≤ z ∧ z ≤ 2147483647) := ⟨_, gi_of _, gi_rg _⟩
  obtain ⟨u4, eu4, ru4⟩ : ∃ z : Int, xs (i + 4).toNat = Int32.ofInt z ∧ (-2147483648 ≤ z ∧ z ≤ 2147483647) := ⟨_, gi_of _, gi_rg _⟩
  obtain ⟨u5, eu5, ru5⟩ : ∃ z : Int, xs (i + 5).toNat = Int32.ofInt z ∧ (-2147483648 ≤ z ∧ z ≤ 2147483647) := ⟨_, gi_of _, gi_rg _⟩
  obtain ⟨u6, eu6, ru6⟩ : ∃ z : Int, xs (i + 6).toNat = Int32.ofInt z ∧ (-2147483648 ≤ z ∧ z ≤ 2147483647) := ⟨_, gi_of _, gi_rg _⟩
  refine g_aload_n (n := 1221) X 2 dL_law_1220 rfl rfl rfl ?_
  refine g_aload_n (n := 1222) X 3 dL_law_1221 rfl rfl rfl ?_
  refine g_iload_n (n := 1223) X 0 dL_law_1222 rfl rfl rfl ?_
  refine g_iconst (n := 1224) X dL_law_1223 rfl ?_
  refine g_iadd (n := 1225) (z := i + 1) X dL_law_1224 (by omega) rfl ?_
  refine g_scrld (n := 1226) (z := u1) X hb (by omega) (by omega) (by omega) dL_law_1225 rfl eu1 ?_
  refine g_callVi (n := 1229) (As := [gJ u1]) (rest := []) (cs1 := cs) (ss1 := ss) X (s_X11_price u1 (by omega) hsz I C ) okX11_price kw_4_159 ⟨kw_4_160, kw_4_161⟩ ⟨rfl, rfl⟩ ⟨Nat.le_of_ble_eq_true rfl, Nat.le_of_ble_eq_true rfl⟩ rfl (by decide) (gsz hsz (by decide)) lay_0 rfl rfl (Nat.le_of_ble_eq_true rfl) hRm rfl rfl dL_law_1226 rfl (fun v1 M2 P3 => ?_)
  obtain ⟨rv1, IM2, CM2, FM2, xM2⟩ := P3
  refine g_pop (n := 1230) X dL_law_1229 rfl rfl ?_
  refine g_aload_n (n := 1231) X 1 dL_law_1230 rfl rfl rfl ?_
  refine g_aload_n (n := 1232) X 3 dL_law_1231 rfl rfl rfl ?_
  refine g_iload_n (n := 1233) X 0 dL_law_1232 rfl rfl rfl ?_
  refine g_iconst (n := 1234) X dL_law_1233 rfl ?_
  refine g_iadd (n := 1235) (z := i + 1) X dL_law_1234 (by omega) rfl ?_
  refine g_scrld (n := 1236) (z := u1) X hb (by omega) (by omega) (by omega) dL_law_1235 rfl eu1 ?_
  refine g_callVi (n := 1239) (As := [gJ u1]) (rest := []) (cs1 := cs) (ss1 := ss) X (s_X12_price u1 (by omega) hsz IM2 CM2 ) okX12_price kw_7_122 ⟨kw_7_123, kw_7_124⟩ ⟨rfl, rfl⟩ ⟨Nat.le_of_ble_eq_true rfl, Nat.le_of_ble_eq_true rfl⟩ rfl (by decide) (gsz hsz (by decide)) lay_190 rfl rfl (Nat.le_of_ble_eq_true rfl) hRm rfl rfl dL_law_1236 rfl (fun v4 M5 P6 => ?_)
  obtain ⟨rv4, IM5, CM5, FM5, xM5⟩ := P6
  refine g_pop (n := 1240) X dL_law_1239 rfl rfl ?_
  refine g_goto (tgt := 1992) X dL_law_1240 (by decide) ?_
  exact kk _ _ _ _ ⟨hsz, IM5, CM5, (gW.fr (S := 8796093054976) W ⟨sz, hsz, I⟩ (gFr.c (gFr.c gFr.rf FM2 rfl) FM5 rfl) rfl), (by rw [((gFr.at FM5 rc_1_13.2.2 rfl).trans (gFr.at FM2 rc_1_13.2.2 rfl))]; exact LA), (by rw [((gFr.at FM5 (rs_NA (k := 4) (by omega)).2.2 rfl).trans (gFr.at FM2 (rs_NA (k := 4) (by omega)).2.2 rfl))]; exact LB), (lwK.fr LK ((gFr.c (gFr.c gFr.rf FM2 rfl) FM5 rfl) : gFr 8796093054976 M M5) rfl), ⟨(rl_now.fr (rl_now.fr LR.1 hN FM2 rfl) (gN_of hsz IM2) FM5 rfl), (rl_npers.fr (rl_npers.fr LR.2.1 hN FM2 rfl) (gN_of hsz IM2) FM5 rfl), (rl_sex.fr (rl_sex.fr LR.2.2.1 hN FM2 rfl) (gN_of hsz IM2) FM5 rfl), (rl_born.fr (rl_born.fr LR.2.2.2.1 hN FM2 rfl) (gN_of hsz IM2) FM5 rfl), (rl_nright.fr (rl_nright.fr LR.2.2.2.2.1 hN FM2 rfl) (gN_of hsz IM2) FM5 rfl), (rl_nent.fr (rl_nent.fr LR.2.2.2.2.2.1 hN FM2 rfl) (gN_of hsz IM2) FM5 rfl), (rl_rkind.fr (rl_rkind.fr LR.2.2.2.2.2.2.1 hN FM2 rfl) (gN_of hsz IM2) FM5 rfl), (rl_rwho.fr (rl_rwho.fr LR.2.2.2.2.2.2.2.1 hN FM2 rfl) (gN_of hsz IM2) FM5 rfl), (rl_rto.fr (rl_rto.fr LR.2.2.2.2.2.2.2.2.1 hN FM2 rfl) (gN_of hsz IM2) FM5 rfl), (rl_rn.fr (rl_rn.fr LR.2.2.2.2.2.2.2.2.2.1 hN FM2 rfl) (gN_of hsz IM2) FM5 rfl), (rl_rweek.fr (rl_rweek.fr LR.2.2.2.2.2.2.2.2.2.2.1 hN FM2 rfl) (gN_of hsz IM2) FM5 rfl), (rl_rsure.fr (rl_rsure.fr LR.2.2.2.2.2.2.2.2.2.2.2.1 hN FM2 rfl) (gN_of hsz IM2) FM5 rfl), (rl_proofs.fr (rl_proofs.fr LR.2.2.2.2.2.2.2.2.2.2.2.2 hN FM2 rfl) (gN_of hsz IM2) FM5 rfl)⟩⟩
theorem dL_law_1243 : decode code 1243 = .ok (.aload_n 1, 1) := dc_43 (by decide +kernel)
theorem dL_law_1244 : decode code 1244 = .ok (.aload_n 0, 1) := dc_42 (by decide +kernel)
theorem dL_law_1245 : decode code 1245 = .ok (.iload_n 3, 1) := dc_29 (by decide +kernel)
theorem dL_law_1246 : decode code 1246 = .ok (.iconst 1, 1) := dc_4 (by decide +kernel)
theorem dL_law_1247 : decode code 1247 = .ok (.iadd, 1) := dc_96 (by decide +kernel)
theorem dL_law_1248 : decode code 1248 = .ok (.iaload, 1) := dc_46 (by decide +kernel)
theorem dL_law_1249 : decode code 1249 = .ok (.aload_n 0, 1) := dc_42 (by decide +kernel)
theorem dL_law_1250 : decode code 1250 = .ok (.iload_n 3, 1) := dc_29 (by decide +kernel)
theorem dL_law_1251 : decode code 1251 = .ok (.iconst 2, 1) := dc_5 (by decide +kernel)
theorem dL_law_1252 : decode code 1252 = .ok (.iadd, 1) := dc_96 (by decide +kernel)
theorem dL_law_1253 : decode code 1253 = .ok (.iaload, 1) := dc_46 (by decide +kernel)
theorem dL_law_1254 : decode code 1254 = .ok (.invokevirtual 117, 3) := dc_182 0 117 (by decide +kernel)
theorem kw_4_163 : (Jvm.Cond.methodLink "ParishUnionLaw" (117 : Nat) ({ cls := "ParishUnion", name := "frost", desc := "(II)I" } : Jvm.MethodName)) ∈ gT := gT_of (tb_4 _ (List.mem_of_getElem? (i := 163) rfl)) rfl
theorem kw_4_166 : (Jvm.Cond.code ({ cls := "ParishUnion", name := "frost", desc := "(II)I" } : Jvm.MethodName) prog_1_method_25_code (4 : Nat) (Option.some Jvm.ClassFile.FieldType.int)) ∈ gT := gT_of (tb_4 _ (List.mem_of_getElem? (i := 166) rfl)) rfl
theorem okX11_frost : gQok yX11_frost cX11_frost 4 (Option.some Jvm.ClassFile.FieldType.int) 2 := ⟨kw_4_166, kw_1_1, by decide +kernel, by decide +kernel, by decide +kernel⟩
theorem kw_4_164 : (Jvm.Cond.instanceMethod ({ cls := "ParishUnion", name := "frost", desc := "(II)I" } : Jvm.MethodName)) ∈ gT := gT_of (tb_4 _ (List.mem_of_getElem? (i := 164) rfl)) rfl
theorem kw_4_165 : (Jvm.Cond.selects "ParishUnion" ({ cls := "ParishUnion", name := "frost", desc := "(II)I" } : Jvm.MethodName) ({ cls := "ParishUnion", name := "frost", desc := "(II)I" } : Jvm.MethodName)) ∈ gT := gT_of (tb_4 _ (List.mem_of_getElem? (i := 165) rfl)) rfl
theorem dL_law_1257 : decode code 1257 = .ok (.pop, 1) := dc_87 (by decide +kernel)
theorem dL_law_1258 : decode code 1258 = .ok (.aload_n 2, 1) := dc_44 (by decide +kernel)
theorem dL_law_1259 : decode code 1259 = .ok (.aload_n 0, 1) := dc_42 (by decide +kernel)
theorem dL_law_1260 : decode code 1260 = .ok (.iload_n 3, 1) := dc_29 (by decide +kernel)
theorem dL_law_1261 : decode code 1261 = .ok (.iconst 1, 1) := dc_4 (by decide +kernel)
theorem dL_law_1262 : decode code 1262 = .ok (.iadd, 1) := dc_96 (by decide +kernel)
theorem dL_law_1263 : decode code 1263 = .ok (.iaload, 1) := dc_46 (by decide +kernel)
theorem dL_law_1264 : decode code 1264 = .ok (.aload_n 0, 1) := dc_42 (by decide +kernel)
theorem dL_law_1265 : decode code 1265 = .ok (.iload_n 3, 1) := dc_29 (by decide +kernel)
theorem dL_law_1266 : decode code 1266 = .ok (.iconst 2, 1) := dc_5 (by decide +kernel)
theorem dL_law_1267 : decode code 1267 = .ok (.iadd, 1) := dc_96 (by decide +kernel)
theorem dL_law_1268 : decode code 1268 = .ok (.iaload, 1) := dc_46 (by decide +kernel)
theorem dL_law_1269 : decode code 1269 = .ok (.invokevirtual 120, 3) := dc_182 0 120 (by decide +kernel)
theorem kw_7_126 : (Jvm.Cond.methodLink "ParishUnionLaw" (120 : Nat) ({ cls := "ParishUnionModel", name := "frost", desc := "(II)I" } : Jvm.MethodName)) ∈ gT := gT_of (tb_7 _ (List.mem_of_getElem? (i := 126) rfl)) rfl
theorem kw_7_129 : (Jvm.Cond.code ({ cls := "ParishUnionModel", name := "frost", desc := "(II)I" } : Jvm.MethodName) prog_14_method_69_code (4 : Nat) (Option.some Jvm.ClassFile.FieldType.int)) ∈ gT := gT_of (tb_7 _ (List.mem_of_getElem? (i := 129) rfl)) rfl
theorem okX12_frost : gQok yX12_frost cX12_frost 4 (Option.some Jvm.ClassFile.FieldType.int) 2 := ⟨kw_7_129, kw_1_13, by decide +kernel, by decide +kernel, by decide +kernel⟩
theorem kw_7_127 : (Jvm.Cond.instanceMethod ({ cls := "ParishUnionModel", name := "frost", desc := "(II)I" } : Jvm.MethodName)) ∈ gT := gT_of (tb_7 _ (List.mem_of_getElem? (i := 127) rfl)) rfl
theorem kw_7_128 : (Jvm.Cond.selects "ParishUnionModel" ({ cls := "ParishUnionModel", name := "frost", desc := "(II)I" } : Jvm.MethodName) ({ cls := "ParishUnionModel", name := "frost", desc := "(II)I" } : Jvm.MethodName)) ∈ gT := gT_of (tb_7 _ (List.mem_of_getElem? (i := 128) rfl)) rfl
theorem dL_law_1272 : decode code 1272 = .ok (.pop, 1) := dc_87 (by decide +kernel)
theorem dL_law_1273 : decode code 1273 = .ok (.goto 719, 3) := dc_167 2 207 719 (by decide +kernel)
set_option maxRecDepth 100000 in
set_option maxHeartbeats 4000000 in
theorem law_case_23 {p : Program} {e : Env} {s : State} {m : MethodId} {below : List Frame} {meth : Method} {cd : Code} {l : Launch} {D : va_G} {cA : Nat → ClassId} {b Ln : Nat} {xs : Nat → Int32} (X : gCx p s m #[Value.ref b] meth cd s.heap.size D cA "ParishUnionLaw" code 4) (hr : meth.sig.returnType = ret) (hb : b < s.heap.size ∧ va_X b Ln xs s s.heap) (hLn : Ln ≤ 3584) {sz cs ss : Nat} {M : gM} (L : lwI sz cs ss M) (i : Int) (hi : 0 ≤ i ∧ i + 7 ≤ (Ln : Int)) (kk : ∀ (sz cs ss : Nat) (M1 : gM), lwI sz cs ss M1 → G p l e room_1 s m #[Value.ref b] below meth cd s.heap.size D cA 4 (lw_Z below #[Value.ref b] s) cs ss M1 sz 1992 [(3, gJ i), (2, gA s.heap.size 190), (1, gA s.heap.size 0), (0, .ref b)] []) : G p l e room_1 s m #[Value.ref b] below meth cd s.heap.size D cA 4 (lw_Z below #[Value.ref b] s) cs ss M sz 1243 [(3, gJ i), (2, gA s.heap.size 190), (1, gA s.heap.size 0), (0, .ref b)] [] := by
  obtain ⟨hsz, I, C, W, LA, LB, LK, LR⟩ := L
  have hN := gN_of hsz I
  obtain ⟨ac, hac, rac⟩ : ∃ v : Int, M 1 13 = v ∧ (0 ≤ v ∧ v ≤ 10) := by
    obtain ⟨v, hv, rv⟩ := gRd I (by decide) (gsz hsz (by decide)) rc_1_13.1
    exact ⟨v, hv, by omega⟩
  obtain ⟨ab, hab, rab⟩ : ∃ v : Int, M 191 4 = v ∧ (0 ≤ v ∧ v ≤ 10) := by
    obtain ⟨v, hv, rv⟩ := gRd I (by decide) (gsz hsz (by decide)) (rs_NA (k := 4) (by omega)).1
    exact ⟨v, hv, by omega⟩
  have hRm : cs + 0 ≤ room_1.cells ∧ ss + 0 ≤ room_1.slots := by
    show cs + 0 ≤ 349274 ∧ ss + 0 ≤ 8054428
    have := lwK.room LK
    omega
  obtain ⟨u1, eu1, ru1⟩ : ∃ z : Int, xs (i + 1).toNat = Int32.ofInt z ∧ (-2147483648 ≤ z ∧ z ≤ 2147483647) := ⟨_, gi_of _, gi_rg _⟩
  obtain ⟨u2, eu2, ru2⟩ : ∃ z : Int, xs (i + 2).toNat = Int32.ofInt z ∧ (-2147483648 ≤ z ∧ z ≤ 2147483647) := ⟨_, gi_of _, gi_rg _⟩
  obtain ⟨u3, eu3, ru3⟩ : ∃ z : Int, xs (i + 3).toNat = Int32.ofInt z ∧ (-2147483648 ≤ z ∧ z ≤ 2147483647) := ⟨_, gi_of _, gi_rg _⟩
  obtain ⟨u4, eu4, ru4⟩ : ∃ z : Int, xs (i + 4).toNat = Int32.ofInt z ∧ (-2147483648 ≤ z ∧ z ≤ 2147483647) := ⟨_, gi_of _, gi_rg _⟩
  obtain ⟨u5, eu5, ru5⟩ : ∃ z : Int, xs (i + 5).toNat = Int32.ofInt z ∧ (-2147483648 ≤ z ∧ z ≤ 2147483647) := ⟨_, gi_of _, gi_rg _⟩
  obtain ⟨u6, eu6, ru6⟩ : ∃ z : Int, xs (i + 6).toNat = Int32.ofInt z ∧ (-2147483648 ≤ z ∧ z ≤ 2147483647) := ⟨_, gi_of _, gi_rg _⟩
  refine g_aload_n (n := 1244) X 2 dL_law_1243 rfl rfl rfl ?_
  refine g_aload_n (n := 1245) X 3 dL_law_1244 rfl rfl rfl ?_
  refine g_iload_n (n := 1246) X 0 dL_law_1245 rfl rfl rfl ?_
  refine g_iconst (n := 1247) X dL_law_1246 rfl ?_
  refine g_iadd (n := 1248) (z := i + 1) X dL_law_1247 (by omega) rfl ?_
  refine g_scrld (n := 1249) (z := u1) X hb (by omega) (by omega) (by omega) dL_law_1248 rfl eu1 ?_
  refine g_aload_n (n := 1250) X 3 dL_law_1249 rfl rfl rfl ?_
  refine g_iload_n (n := 1251) X 0 dL_law_1250 rfl rfl rfl ?_
  refine g_iconst (n := 1252) X dL_law_1251 rfl ?_
  refine g_iadd (n := 1253) (z := i + 2) X dL_law_1252 (by omega) rfl ?_
  refine g_scrld (n := 1254) (z := u2) X hb (by omega) (by omega) (by omega) dL_law_1253 rfl eu2 ?_
  refine g_callVi (n := 1257) (As := [gJ u1, gJ u2]) (rest := []) (cs1 := cs) (ss1 := ss) X (s_X11_frost u1 (by omega) u2 (by omega) hsz I C ) okX11_frost kw_4_163 ⟨kw_4_164, kw_4_165⟩ ⟨rfl, rfl⟩ ⟨Nat.le_of_ble_eq_true rfl, Nat.le_of_ble_eq_true rfl⟩ rfl (by decide) (gsz hsz (by decide)) lay_0 rfl rfl (Nat.le_of_ble_eq_true rfl) hRm rfl rfl dL_law_1254 rfl (fun v1 M2 P3 => ?_)
  obtain ⟨rv1, IM2, CM2, FM2, xM2⟩ := P3
  refine g_pop (n := 1258) X dL_law_1257 rfl rfl ?_
  refine g_aload_n (n := 1259) X 1 dL_law_1258 rfl rfl rfl ?_
  refine g_aload_n (n := 1260) X 3 dL_law_1259 rfl rfl rfl ?_
  refine g_iload_n (n := 1261) X 0 dL_law_1260 rfl rfl rfl ?_
  refine g_iconst (n := 1262) X dL_law_1261 rfl ?_
  refine g_iadd (n := 1263) (z := i + 1) X dL_law_1262 (by omega) rfl ?_
  refine g_scrld (n := 1264) (z := u1) X hb (by omega) (by omega) (by omega) dL_law_1263 rfl eu1 ?_
  refine g_aload_n (n := 1265) X 3 dL_law_1264 rfl rfl rfl ?_
  refine g_iload_n (n := 1266) X 0 dL_law_1265 rfl rfl rfl ?_
  refine g_iconst (n := 1267) X dL_law_1266 rfl ?_
  refine g_iadd (n := 1268) (z := i + 2) X dL_law_1267 (by omega) rfl ?_
  refine g_scrld (n := 1269) (z := u2) X hb (by omega) (by omega) (by omega) dL_law_1268 rfl eu2 ?_
  refine g_callVi (n := 1272) (As := [gJ u1, gJ u2]) (rest := []) (cs1 := cs) (ss1 := ss) X (s_X12_frost u1 (by omega) u2 (by omega) hsz IM2 CM2 ) okX12_frost kw_7_126 ⟨kw_7_127, kw_7_128⟩ ⟨rfl, rfl⟩ ⟨Nat.le_of_ble_eq_true rfl, Nat.le_of_ble_eq_true rfl⟩ rfl (by decide) (gsz hsz (by decide)) lay_190 rfl rfl (Nat.le_of_ble_eq_true rfl) hRm rfl rfl dL_law_1269 rfl (fun v4 M5 P6 => ?_)
  obtain ⟨rv4, IM5, CM5, FM5, xM5⟩ := P6
  refine g_pop (n := 1273) X dL_law_1272 rfl rfl ?_
  refine g_goto (tgt := 1992) X dL_law_1273 (by decide) ?_
  exact kk _ _ _ _ ⟨hsz, IM5, CM5, (gW.fr (S := 576460752303427584) W ⟨sz, hsz, I⟩ (gFr.c (gFr.c gFr.rf FM2 rfl) FM5 rfl) rfl), (by rw [((gFr.at FM5 rc_1_13.2.2 rfl).trans (gFr.at FM2 rc_1_13.2.2 rfl))]; exact LA), (by rw [((gFr.at FM5 (rs_NA (k := 4) (by omega)).2.2 rfl).trans (gFr.at FM2 (rs_NA (k := 4) (by omega)).2.2 rfl))]; exact LB), (lwK.fr LK ((gFr.c (gFr.c gFr.rf FM2 rfl) FM5 rfl) : gFr 576460752303427584 M M5) rfl), ⟨(rl_now.fr (rl_now.fr LR.1 hN FM2 rfl) (gN_of hsz IM2) FM5 rfl), (rl_npers.fr (rl_npers.fr LR.2.1 hN FM2 rfl) (gN_of hsz IM2) FM5 rfl), (rl_sex.fr (rl_sex.fr LR.2.2.1 hN FM2 rfl) (gN_of hsz IM2) FM5 rfl), (rl_born.fr (rl_born.fr LR.2.2.2.1 hN FM2 rfl) (gN_of hsz IM2) FM5 rfl), (rl_nright.fr (rl_nright.fr LR.2.2.2.2.1 hN FM2 rfl) (gN_of hsz IM2) FM5 rfl), (rl_nent.fr (rl_nent.fr LR.2.2.2.2.2.1 hN FM2 rfl) (gN_of hsz IM2) FM5 rfl), (rl_rkind.fr (rl_rkind.fr LR.2.2.2.2.2.2.1 hN FM2 rfl) (gN_of hsz IM2) FM5 rfl), (rl_rwho.fr (rl_rwho.fr LR.2.2.2.2.2.2.2.1 hN FM2 rfl) (gN_of hsz IM2) FM5 rfl), (rl_rto.fr (rl_rto.fr LR.2.2.2.2.2.2.2.2.1 hN FM2 rfl) (gN_of hsz IM2) FM5 rfl), (rl_rn.fr (rl_rn.fr LR.2.2.2.2.2.2.2.2.2.1 hN FM2 rfl) (gN_of hsz IM2) FM5 rfl), (rl_rweek.fr (rl_rweek.fr LR.2.2.2.2.2.2.2.2.2.2.1 hN FM2 rfl) (gN_of hsz IM2) FM5 rfl), (rl_rsure.fr (rl_rsure.fr LR.2.2.2.2.2.2.2.2.2.2.2.1 hN FM2 rfl) (gN_of hsz IM2) FM5 rfl), (rl_proofs.fr (rl_proofs.fr LR.2.2.2.2.2.2.2.2.2.2.2.2 hN FM2 rfl) (gN_of hsz IM2) FM5 rfl)⟩⟩
