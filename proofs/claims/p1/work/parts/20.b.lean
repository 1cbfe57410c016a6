theorem dX12_without_0 : decode cX12_without 0 = .ok (.iload_n 0, 1) := by decide +kernel
theorem dX12_without_1 : decode cX12_without 1 = .ok (.tableswitch 59 0 6 #[43, 46, 49, 52, 54, 57, 57], 43) := by decide +kernel
theorem dX12_without_44 : decode cX12_without 44 = .ok (.bipush 50, 2) := by decide +kernel
theorem dX12_without_46 : decode cX12_without 46 = .ok (.ireturn, 1) := by decide +kernel
theorem dX12_without_47 : decode cX12_without 47 = .ok (.bipush 100, 2) := by decide +kernel
theorem dX12_without_49 : decode cX12_without 49 = .ok (.ireturn, 1) := by decide +kernel
theorem dX12_without_50 : decode cX12_without 50 = .ok (.bipush 10, 2) := by decide +kernel
theorem dX12_without_52 : decode cX12_without 52 = .ok (.ireturn, 1) := by decide +kernel
theorem dX12_without_53 : decode cX12_without 53 = .ok (.iconst 5, 1) := by decide +kernel
theorem dX12_without_54 : decode cX12_without 54 = .ok (.ireturn, 1) := by decide +kernel
theorem dX12_without_55 : decode cX12_without 55 = .ok (.bipush 14, 2) := by decide +kernel
theorem dX12_without_57 : decode cX12_without 57 = .ok (.ireturn, 1) := by decide +kernel
theorem dX12_without_58 : decode cX12_without 58 = .ok (.iconst 1, 1) := by decide +kernel
theorem dX12_without_59 : decode cX12_without 59 = .ok (.ireturn, 1) := by decide +kernel
theorem dX12_without_60 : decode cX12_without 60 = .ok (.iconst 0, 1) := by decide +kernel
theorem dX12_without_61 : decode cX12_without 61 = .ok (.ireturn, 1) := by decide +kernel
set_option maxRecDepth 100000 in
set_option maxHeartbeats 4000000 in
theorem c_X12_without {l : Launch} {n0 : Nat} {D : va_G} {cA : Nat → ClassId} {M : gM} (a : Int) (r_a : -2147483648 ≤ a ∧ a ≤ 2147483647) {sz : Nat} (hsz : 206 ≤ sz) (hab : 0 ≤ a ∧ a ≤ 9) : Met l yX12_without (gWsOf yX12_without cX12_without 1 (Option.some Jvm.ClassFile.FieldType.int)) { frames := 0, cells := 0, slots := 0, locals := 0 } (gPc n0 D cA [gJ a] M sz) (gQi n0 D cA sz (fun z M1 => M = M1 ∧ ((a = 0 → z = 50) ∧ (a = 1 → z = 100) ∧ (a = 2 → z = 10) ∧ (a = 3 → z = 5) ∧ (a = 4 → z = 14) ∧ (a = 5 → z = 1) ∧ (a = 6 → z = 1) ∧ (a = 7 → z = 0) ∧ (a = 8 → z = 0) ∧ (a = 9 → z = 0)))) 0 0 (fun q => n0 ≤ q) := by
  refine gMet_of [gJ a] (by decide) (Nat.le_of_ble_eq_true rfl) ?_
  intro p e s m args below meth cd X hr hm
  have X : gCx p s m args meth cd n0 D cA "ParishUnionModel" cX12_without 1 := X
  show G p l e ({ frames := 0, cells := 0, slots := 0, locals := 0 } : Room) s m args below meth cd n0 D cA 1 (MQ below (gQi n0 D cA sz (fun z M1 => M = M1 ∧ ((a = 0 → z = 50) ∧ (a = 1 → z = 100) ∧ (a = 2 → z = 10) ∧ (a = 3 → z = 5) ∧ (a = 4 → z = 14) ∧ (a = 5 → z = 1) ∧ (a = 6 → z = 1) ∧ (a = 7 → z = 0) ∧ (a = 8 → z = 0) ∧ (a = 9 → z = 0)))) args s 0 0 (fun q => n0 ≤ q)) 0 0 M sz 0 [(0, gJ a)] []
  refine g_iload_n (n := 1) X 0 dX12_without_0 rfl rfl rfl ?_
  by_cases c1 : a = 0
  · refine g_tableIn (tgt := 44) X 0 dX12_without_1 (by omega) (by omega) (by omega) (by omega) rfl (by decide) ?_
    refine g_bipush (n := 46) X dX12_without_44 (by decide +kernel) rfl ?_
    exact g_ireturn X hr dX12_without_46 (by exact ⟨rfl, by omega⟩)
  by_cases c2 : a = 1
  · refine g_tableIn (tgt := 47) X 1 dX12_without_1 (by omega) (by omega) (by omega) (by omega) rfl (by decide) ?_
    refine g_bipush (n := 49) X dX12_without_47 (by decide +kernel) rfl ?_
    exact g_ireturn X hr dX12_without_49 (by exact ⟨rfl, by omega⟩)
  by_cases c3 : a = 2
  · refine g_tableIn (tgt := 50) X 2 dX12_without_1 (by omega) (by omega) (by omega) (by omega) rfl (by decide) ?_
    refine g_bipush (n := 52) X dX12_without_50 (by decide +kernel) rfl ?_
    exact g_ireturn X hr dX12_without_52 (by exact ⟨rfl, by omega⟩)
  by_cases c4 : a = 3
  · refine g_tableIn (tgt := 53) X 3 dX12_without_1 (by omega) (by omega) (by omega) (by omega) rfl (by decide) ?_
    refine g_iconst (n := 54) X dX12_without_53 rfl ?_
    exact g_ireturn X hr dX12_without_54 (by exact ⟨rfl, by omega⟩)
  by_cases c5 : a = 4
  · refine g_tableIn (tgt := 55) X 4 dX12_without_1 (by omega) (by omega) (by omega) (by omega) rfl (by decide) ?_
    refine g_bipush (n := 57) X dX12_without_55 (by decide +kernel) rfl ?_
    exact g_ireturn X hr dX12_without_57 (by exact ⟨rfl, by omega⟩)
  by_cases c6 : a = 5
  · refine g_tableIn (tgt := 58) X 5 dX12_without_1 (by omega) (by omega) (by omega) (by omega) rfl (by decide) ?_
    refine g_iconst (n := 59) X dX12_without_58 rfl ?_
    exact g_ireturn X hr dX12_without_59 (by exact ⟨rfl, by omega⟩)
  by_cases c7 : a = 6
  · refine g_tableIn (tgt := 58) X 6 dX12_without_1 (by omega) (by omega) (by omega) (by omega) rfl (by decide) ?_
    refine g_iconst (n := 59) X dX12_without_58 rfl ?_
    exact g_ireturn X hr dX12_without_59 (by exact ⟨rfl, by omega⟩)
  refine g_tableOut (tgt := 60) X dX12_without_1 (by omega) (by omega) (by decide) ?_
  refine g_iconst (n := 61) X dX12_without_60 rfl ?_
  exact g_ireturn X hr dX12_without_61 (by exact ⟨rfl, by omega⟩)
theorem dX12_actOf_0 : decode cX12_actOf 0 = .ok (.iconst (-1), 1) := by decide +kernel
theorem dX12_actOf_1 : decode cX12_actOf 1 = .ok (.istore_n 3, 1) := by decide +kernel
theorem dX12_actOf_2 : decode cX12_actOf 2 = .ok (.iconst 0, 1) := by decide +kernel
theorem dX12_actOf_3 : decode cX12_actOf 3 = .ok (.istore 4, 2) := by decide +kernel
theorem dX12_actOf_5 : decode cX12_actOf 5 = .ok (.iload 4, 2) := by decide +kernel
theorem dX12_actOf_7 : decode cX12_actOf 7 = .ok (.aload_n 0, 1) := by decide +kernel
theorem dX12_actOf_8 : decode cX12_actOf 8 = .ok (.getfield 7, 3) := by decide +kernel
theorem dX12_actOf_11 : decode cX12_actOf 11 = .ok (.iconst 4, 1) := by decide +kernel
theorem dX12_actOf_12 : decode cX12_actOf 12 = .ok (.iaload, 1) := by decide +kernel
theorem dX12_actOf_13 : decode cX12_actOf 13 = .ok (.if_icmp .ge 70, 3) := by decide +kernel
theorem dX12_actOf_83 : decode cX12_actOf 83 = .ok (.iload_n 3, 1) := by decide +kernel
theorem dX12_actOf_84 : decode cX12_actOf 84 = .ok (.ireturn, 1) := by decide +kernel
set_option maxRecDepth 100000 in
set_option maxHeartbeats 4000000 in
theorem c_X12_actOf {l : Launch} {n0 : Nat} {D : va_G} {cA : Nat → ClassId} {M : gM} (a b : Int) (r_a : -2147483648 ≤ a ∧ a ≤ 2147483647) (r_b : -2147483648 ≤ b ∧ b ≤ 2147483647) {sz : Nat} (hsz : 206 ≤ sz) (f_190_1 : M 190 1 = 192) (f_191_4 : M 191 4 = 0) : Met l yX12_actOf (gWsOf yX12_actOf cX12_actOf 5 (Option.some Jvm.ClassFile.FieldType.int)) { frames := 1, cells := 0, slots := 0, locals := 23 } (gPc n0 D cA [gA n0 190, gJ a, gJ b] M sz) (gQi n0 D cA sz (fun z M1 => M = M1 ∧ (z = -1))) 0 0 (fun q => n0 ≤ q) := by
  refine gMet_of [gA n0 190, gJ a, gJ b] (by decide) (Nat.le_of_ble_eq_true rfl) ?_
  intro p e s m args below meth cd X hr hm
  have X : gCx p s m args meth cd n0 D cA "ParishUnionModel" cX12_actOf 5 := X
  show G p l e ({ frames := 1, cells := 0, slots := 0, locals := 23 } : Room) s m args below meth cd n0 D cA 5 (MQ below (gQi n0 D cA sz (fun z M1 => M = M1 ∧ (z = -1))) args s 0 0 (fun q => n0 ≤ q)) 0 0 M sz 0 [(0, gA n0 190), (1, gJ a), (2, gJ b)] []
  refine g_iconst (n := 1) X dX12_actOf_0 rfl ?_
  refine g_istore_n (n := 2) (L' := [(3, gJ (-1)), (0, gA n0 190), (1, gJ a), (2, gJ b)]) X dX12_actOf_1 rfl (by decide) rfl rfl ?_
  refine g_iconst (n := 3) X dX12_actOf_2 rfl ?_
  refine g_istore (n := 5) (L' := [(4, gJ 0), (3, gJ (-1)), (0, gA n0 190), (1, gJ a), (2, gJ b)]) X dX12_actOf_3 (by decide) rfl rfl ?_
  refine g_iload (n := 7) X 0 dX12_actOf_5 rfl rfl ?_
  refine g_aload_n (n := 8) X 2 dX12_actOf_7 rfl rfl rfl ?_
  refine gg_12_1 (n := 11) (z := 191) X (by omega) (by omega) lay_190 kw_6_27 dX12_actOf_8 rfl f_190_1 (by omega) ?_
  refine g_iconst (n := 12) X dX12_actOf_11 rfl ?_
  refine g_iald (n := 13) X (by omega) (by omega) lay_191 (by omega) (by omega) (by omega) dX12_actOf_12 rfl ?_
  rw [show M 191 4 = 0 from f_191_4]
  refine g_icmp_ge (n := 16) (tgt := 83) X dX12_actOf_13 (by decide) (by omega) (by omega) rfl (fun c1 => ?_) (fun c1 => by exfalso; omega)
  refine g_iload_n (n := 84) X 1 dX12_actOf_83 rfl rfl rfl ?_
  exact g_ireturn X hr dX12_actOf_84 (by exact ⟨rfl, by omega⟩)
theorem dX12_law_0 : decode cX12_law 0 = .ok (.aload_n 0, 1) := by decide +kernel
theorem dX12_law_1 : decode cX12_law 1 = .ok (.iload_n 1, 1) := by decide +kernel
theorem dX12_law_2 : decode cX12_law 2 = .ok (.iload_n 2, 1) := by decide +kernel
theorem dX12_law_3 : decode cX12_law 3 = .ok (.invokevirtual 230, 3) := by decide +kernel
theorem kw_6_197 : (Jvm.Cond.methodLink "ParishUnionModel" (230 : Nat) ({ cls := "ParishUnionModel", name := "actOf", desc := "(II)I" } : Jvm.MethodName)) ∈ gT := gT_of (tb_6 _ (List.mem_of_getElem? (i := 197) rfl)) rfl
theorem kw_6_200 : (Jvm.Cond.code ({ cls := "ParishUnionModel", name := "actOf", desc := "(II)I" } : Jvm.MethodName) prog_14_method_51_code (5 : Nat) (Option.some Jvm.ClassFile.FieldType.int)) ∈ gT := gT_of (tb_6 _ (List.mem_of_getElem? (i := 200) rfl)) rfl
theorem okX12_actOf : gQok yX12_actOf cX12_actOf 5 (Option.some Jvm.ClassFile.FieldType.int) 2 := ⟨kw_6_200, kw_1_13, by decide +kernel, by decide +kernel, by decide +kernel⟩
theorem kw_6_199 : (Jvm.Cond.instanceMethod ({ cls := "ParishUnionModel", name := "actOf", desc := "(II)I" } : Jvm.MethodName)) ∈ gT := gT_of (tb_6 _ (List.mem_of_getElem? (i := 199) rfl)) rfl
theorem kw_0_50 : (Jvm.Cond.selects "ParishUnionModel" ({ cls := "ParishUnionModel", name := "actOf", desc := "(II)I" } : Jvm.MethodName) ({ cls := "ParishUnionModel", name := "actOf", desc := "(II)I" } : Jvm.MethodName)) ∈ gT := gT_of (tb_0 _ (List.mem_of_getElem? (i := 50) rfl)) rfl
theorem dX12_law_6 : decode cX12_law 6 = .ok (.istore_n 3, 1) := by decide +kernel
theorem dX12_law_7 : decode cX12_law 7 = .ok (.iload_n 1, 1) := by decide +kernel
theorem dX12_law_8 : decode cX12_law 8 = .ok (.invokestatic 233, 3) := by decide +kernel
theorem kw_6_205 : (Jvm.Cond.methodLink "ParishUnionModel" (233 : Nat) ({ cls := "ParishUnionModel", name := "without", desc := "(I)I" } : Jvm.MethodName)) ∈ gT := gT_of (tb_6 _ (List.mem_of_getElem? (i := 205) rfl)) rfl
theorem kw_6_207 : (Jvm.Cond.code ({ cls := "ParishUnionModel", name := "without", desc := "(I)I" } : Jvm.MethodName) prog_14_method_52_code (1 : Nat) (Option.some Jvm.ClassFile.FieldType.int)) ∈ gT := gT_of (tb_6 _ (List.mem_of_getElem? (i := 207) rfl)) rfl
theorem okX12_without : gQok yX12_without cX12_without 1 (Option.some Jvm.ClassFile.FieldType.int) 1 := ⟨kw_6_207, kw_1_13, by decide +kernel, by decide +kernel, by decide +kernel⟩
theorem kw_6_206 : (Jvm.Cond.static ({ cls := "ParishUnionModel", name := "without", desc := "(I)I" } : Jvm.MethodName)) ∈ gT := gT_of (tb_6 _ (List.mem_of_getElem? (i := 206) rfl)) rfl
theorem dX12_law_11 : decode cX12_law 11 = .ok (.istore 4, 2) := by decide +kernel
theorem dX12_law_13 : decode cX12_law 13 = .ok (.iconst 0, 1) := by decide +kernel
theorem dX12_law_14 : decode cX12_law 14 = .ok (.istore 5, 2) := by decide +kernel
theorem dX12_law_16 : decode cX12_law 16 = .ok (.iload_n 3, 1) := by decide +kernel
theorem dX12_law_17 : decode cX12_law 17 = .ok (.iconst (-1), 1) := by decide +kernel
theorem dX12_law_18 : decode cX12_law 18 = .ok (.if_icmp .eq 67, 3) := by decide +kernel
theorem dX12_law_85 : decode cX12_law 85 = .ok (.iload 4, 2) := by decide +kernel
theorem dX12_law_87 : decode cX12_law 87 = .ok (.ireturn, 1) := by decide +kernel
set_option maxRecDepth 100000 in
set_option maxHeartbeats 4000000 in
theorem c_X12_law {l : Launch} {n0 : Nat} {D : va_G} {cA : Nat → ClassId} {M : gM} (a b : Int) (r_a : -2147483648 ≤ a ∧ a ≤ 2147483647) (r_b : -2147483648 ≤ b ∧ b ≤ 2147483647) {sz : Nat} (hsz : 206 ≤ sz) (f_190_1 : M 190 1 = 192) (f_191_4 : M 191 4 = 0) (hab : 0 ≤ a ∧ a ≤ 9) : Met l yX12_law (gWsOf yX12_law cX12_law 6 (Option.some Jvm.ClassFile.FieldType.int)) { frames := 2, cells := 0, slots := 0, locals := 47 } (gPc n0 D cA [gA n0 190, gJ a, gJ b] M sz) (gQi n0 D cA sz (fun z M1 => M = M1 ∧ ((a = 0 → z = 50) ∧ (a = 1 → z = 100) ∧ (a = 2 → z = 10) ∧ (a = 3 → z = 5) ∧ (a = 4 → z = 14) ∧ (a = 5 → z = 1) ∧ (a = 6 → z = 1) ∧ (a = 7 → z = 0) ∧ (a = 8 → z = 0) ∧ (a = 9 → z = 0)))) 0 0 (fun q => n0 ≤ q) := by
  refine gMet_of [gA n0 190, gJ a, gJ b] (by decide) (Nat.le_of_ble_eq_true rfl) ?_
  intro p e s m args below meth cd X hr hm
  have X : gCx p s m args meth cd n0 D cA "ParishUnionModel" cX12_law 6 := X
  show G p l e ({ frames := 2, cells := 0, slots := 0, locals := 47 } : Room) s m args below meth cd n0 D cA 6 (MQ below (gQi n0 D cA sz (fun z M1 => M = M1 ∧ ((a = 0 → z = 50) ∧ (a = 1 → z = 100) ∧ (a = 2 → z = 10) ∧ (a = 3 → z = 5) ∧ (a = 4 → z = 14) ∧ (a = 5 → z = 1) ∧ (a = 6 → z = 1) ∧ (a = 7 → z = 0) ∧ (a = 8 → z = 0) ∧ (a = 9 → z = 0)))) args s 0 0 (fun q => n0 ≤ q)) 0 0 M sz 0 [(0, gA n0 190), (1, gJ a), (2, gJ b)] []
  refine g_aload_n (n := 1) X 0 dX12_law_0 rfl rfl rfl ?_
  refine g_iload_n (n := 2) X 1 dX12_law_1 rfl rfl rfl ?_
  refine g_iload_n (n := 3) X 2 dX12_law_2 rfl rfl rfl ?_
  refine g_callVi (n := 6) (As := [gJ a, gJ b]) (rest := []) (cs1 := 0) (ss1 := 0) X (c_X12_actOf a b (by omega) (by omega) (by omega) f_190_1 f_191_4) okX12_actOf kw_6_197 ⟨kw_6_199, kw_0_50⟩ ⟨rfl, rfl⟩ ⟨Nat.le_of_ble_eq_true rfl, Nat.le_of_ble_eq_true rfl⟩ rfl (by omega) (by omega) lay_190 rfl rfl (Nat.le_of_ble_eq_true rfl) ⟨Nat.le_of_ble_eq_true rfl, Nat.le_of_ble_eq_true rfl⟩ rfl rfl dX12_law_3 rfl (fun z1 M2 P3 => ?_)
  obtain ⟨rfl, rfl⟩ := P3
  refine g_istore_n (n := 7) (L' := [(3, gJ (-1)), (0, gA n0 190), (1, gJ a), (2, gJ b)]) X dX12_law_6 rfl (by decide) rfl rfl ?_
  refine g_iload_n (n := 8) X 2 dX12_law_7 rfl rfl rfl ?_
  refine g_callSi (n := 11) (As := [gJ a]) (rest := []) (cs1 := 0) (ss1 := 0) X (c_X12_without a (by omega) (by omega) (by omega)) okX12_without kw_6_205 kw_6_206 ⟨rfl, rfl⟩ ⟨Nat.le_of_ble_eq_true rfl, Nat.le_of_ble_eq_true rfl⟩ rfl rfl (Nat.le_of_ble_eq_true rfl) ⟨Nat.le_of_ble_eq_true rfl, Nat.le_of_ble_eq_true rfl⟩ rfl rfl dX12_law_8 rfl (fun z4 M5 P6 => ?_)
  obtain ⟨rfl, P6⟩ := P6
  refine g_istore (n := 13) (L' := [(4, gJ z4), (3, gJ (-1)), (0, gA n0 190), (1, gJ a), (2, gJ b)]) X dX12_law_11 (by decide) rfl rfl ?_
  refine g_iconst (n := 14) X dX12_law_13 rfl ?_
  refine g_istore (n := 16) (L' := [(5, gJ 0), (4, gJ z4), (3, gJ (-1)), (0, gA n0 190), (1, gJ a), (2, gJ b)]) X dX12_law_14 (by decide) rfl rfl ?_
  refine g_iload_n (n := 17) X 2 dX12_law_16 rfl rfl rfl ?_
  refine g_iconst (n := 18) X dX12_law_17 rfl ?_
  refine g_icmp_eq (n := 21) (tgt := 85) X dX12_law_18 (by decide) (by omega) (by omega) rfl (fun c7 => ?_) (fun c7 => by exfalso; omega)
  refine g_iload (n := 87) X 1 dX12_law_85 rfl rfl ?_
  exact g_ireturn X hr dX12_law_87 (by exact ⟨rfl, by omega⟩)
theorem dX12_manyOf_0 : decode cX12_manyOf 0 = .ok (.aload_n 0, 1) := by decide +kernel
theorem dX12_manyOf_1 : decode cX12_manyOf 1 = .ok (.iload_n 1, 1) := by decide +kernel
theorem dX12_manyOf_2 : decode cX12_manyOf 2 = .ok (.iload_n 2, 1) := by decide +kernel
theorem dX12_manyOf_3 : decode cX12_manyOf 3 = .ok (.invokevirtual 230, 3) := by decide +kernel
theorem dX12_manyOf_6 : decode cX12_manyOf 6 = .ok (.istore_n 3, 1) := by decide +kernel
theorem dX12_manyOf_7 : decode cX12_manyOf 7 = .ok (.iconst 0, 1) := by decide +kernel
theorem dX12_manyOf_8 : decode cX12_manyOf 8 = .ok (.istore 4, 2) := by decide +kernel
theorem dX12_manyOf_10 : decode cX12_manyOf 10 = .ok (.iconst 0, 1) := by decide +kernel
theorem dX12_manyOf_11 : decode cX12_manyOf 11 = .ok (.istore 5, 2) := by decide +kernel
theorem dX12_manyOf_13 : decode cX12_manyOf 13 = .ok (.iload_n 3, 1) := by decide +kernel
theorem dX12_manyOf_14 : decode cX12_manyOf 14 = .ok (.iconst (-1), 1) := by decide +kernel
theorem dX12_manyOf_15 : decode cX12_manyOf 15 = .ok (.if_icmp .eq 54, 3) := by decide +kernel
theorem dX12_manyOf_69 : decode cX12_manyOf 69 = .ok (.iload 4, 2) := by decide +kernel
theorem dX12_manyOf_71 : decode cX12_manyOf 71 = .ok (.ireturn, 1) := by decide +kernel
set_option maxRecDepth 100000 in
set_option maxHeartbeats 4000000 in
theorem c_X12_manyOf {l : Launch} {n0 : Nat} {D : va_G} {cA : Nat → ClassId} {M : gM} (a b : Int) (r_a : -2147483648 ≤ a ∧ a ≤ 2147483647) (r_b : -2147483648 ≤ b ∧ b ≤ 2147483647) {sz : Nat} (hsz : 206 ≤ sz) (f_190_1 : M 190 1 = 192) (f_191_4 : M 191 4 = 0) : Met l yX12_manyOf (gWsOf yX12_manyOf cX12_manyOf 6 (Option.some Jvm.ClassFile.FieldType.int)) { frames := 2, cells := 0, slots := 0, locals := 47 } (gPc n0 D cA [gA n0 190, gJ a, gJ b] M sz) (gQi n0 D cA sz (fun z M1 => M = M1 ∧ (z = 0))) 0 0 (fun q => n0 ≤ q) := by
  refine gMet_of [gA n0 190, gJ a, gJ b] (by decide) (Nat.le_of_ble_eq_true rfl) ?_
  intro p e s m args below meth cd X hr hm
  have X : gCx p s m args meth cd n0 D cA "ParishUnionModel" cX12_manyOf 6 := X
  show G p l e ({ frames := 2, cells := 0, slots := 0, locals := 47 } : Room) s m args below meth cd n0 D cA 6 (MQ below (gQi n0 D cA sz (fun z M1 => M = M1 ∧ (z = 0))) args s 0 0 (fun q => n0 ≤ q)) 0 0 M sz 0 [(0, gA n0 190), (1, gJ a), (2, gJ b)] []
  refine g_aload_n (n := 1) X 0 dX12_manyOf_0 rfl rfl rfl ?_
  refine g_iload_n (n := 2) X 1 dX12_manyOf_1 rfl rfl rfl ?_
  refine g_iload_n (n := 3) X 2 dX12_manyOf_2 rfl rfl rfl ?_
  refine g_callVi (n := 6) (As := [gJ a, gJ b]) (rest := []) (cs1 := 0) (ss1 := 0) X (c_X12_actOf a b (by omega) (by omega) (by omega) f_190_1 f_191_4) okX12_actOf kw_6_197 ⟨kw_6_199, kw_0_50⟩ ⟨rfl, rfl⟩ ⟨Nat.le_of_ble_eq_true rfl, Nat.le_of_ble_eq_true rfl⟩ rfl (by omega) (by omega) lay_190 rfl rfl (Nat.le_of_ble_eq_true rfl) ⟨Nat.le_of_ble_eq_true rfl, Nat.le_of_ble_eq_true rfl⟩ rfl rfl dX12_manyOf_3 rfl (fun z1 M2 P3 => ?_)
  obtain ⟨rfl, rfl⟩ := P3
  refine g_istore_n (n := 7) (L' := [(3, gJ (-1)), (0, gA n0 190), (1, gJ a), (2, gJ b)]) X dX12_manyOf_6 rfl (by decide) rfl rfl ?_
  refine g_iconst (n := 8) X dX12_manyOf_7 rfl ?_
  refine g_istore (n := 10) (L' := [(4, gJ 0), (3, gJ (-1)), (0, gA n0 190), (1, gJ a), (2, gJ b)]) X dX12_manyOf_8 (by decide) rfl rfl ?_
  refine g_iconst (n := 11) X dX12_manyOf_10 rfl ?_
  refine g_istore (n := 13) (L' := [(5, gJ 0), (4, gJ 0), (3, gJ (-1)), (0, gA n0 190), (1, gJ a), (2, gJ b)]) X dX12_manyOf_11 (by decide) rfl rfl ?_
  refine g_iload_n (n := 14) X 2 dX12_manyOf_13 rfl rfl rfl ?_
  refine g_iconst (n := 15) X dX12_manyOf_14 rfl ?_
  refine g_icmp_eq (n := 18) (tgt := 69) X dX12_manyOf_15 (by decide) (by omega) (by omega) rfl (fun c4 => ?_) (fun c4 => by exfalso; omega)
  refine g_iload (n := 71) X 1 dX12_manyOf_69 rfl rfl ?_
  exact g_ireturn X hr dX12_manyOf_71 (by exact ⟨rfl, by omega⟩)
theorem dX12_force_0 : decode cX12_force 0 = .ok (.iload_n 2, 1) := by decide +kernel
theorem dX12_force_1 : decode cX12_force 1 = .ok (.iconst 0, 1) := by decide +kernel
theorem dX12_force_2 : decode cX12_force 2 = .ok (.bipush 19, 2) := by decide +kernel
theorem dX12_force_4 : decode cX12_force 4 = .ok (.invokestatic 64, 3) := by decide +kernel
theorem dX12_force_7 : decode cX12_force 7 = .ok (.ifCond .ne 5, 3) := by decide +kernel
theorem dX12_force_12 : decode cX12_force 12 = .ok (.iload_n 1, 1) := by decide +kernel
theorem dX12_force_13 : decode cX12_force 13 = .ok (.invokestatic 220, 3) := by decide +kernel
theorem dX12_force_16 : decode cX12_force 16 = .ok (.ifCond .ne 6, 3) := by decide +kernel
theorem dX12_force_22 : decode cX12_force 22 = .ok (.iload_n 2, 1) := by decide +kernel
theorem dX12_force_23 : decode cX12_force 23 = .ok (.bipush 9, 2) := by decide +kernel
theorem dX12_force_25 : decode cX12_force 25 = .ok (.if_icmp .le 15, 3) := by decide +kernel
theorem dX12_force_40 : decode cX12_force 40 = .ok (.iload_n 2, 1) := by decide +kernel
theorem dX12_force_41 : decode cX12_force 41 = .ok (.bipush 7, 2) := by decide +kernel
theorem dX12_force_43 : decode cX12_force 43 = .ok (.if_icmp .le 12, 3) := by decide +kernel
theorem dX12_force_55 : decode cX12_force 55 = .ok (.aload_n 0, 1) := by decide +kernel
theorem dX12_force_56 : decode cX12_force 56 = .ok (.iload_n 2, 1) := by decide +kernel
theorem dX12_force_57 : decode cX12_force 57 = .ok (.iload_n 1, 1) := by decide +kernel
theorem dX12_force_58 : decode cX12_force 58 = .ok (.invokevirtual 101, 3) := by decide +kernel
theorem kw_6_193 : (Jvm.Cond.methodLink "ParishUnionModel" (101 : Nat) ({ cls := "ParishUnionModel", name := "law", desc := "(II)I" } : Jvm.MethodName)) ∈ gT := gT_of (tb_6 _ (List.mem_of_getElem? (i := 193) rfl)) rfl
theorem kw_6_196 : (Jvm.Cond.code ({ cls := "ParishUnionModel", name := "law", desc := "(II)I" } : Jvm.MethodName) prog_14_method_53_code (6 : Nat) (Option.some Jvm.ClassFile.FieldType.int)) ∈ gT := gT_of (tb_6 _ (List.mem_of_getElem? (i := 196) rfl)) rfl
theorem okX12_law : gQok yX12_law cX12_law 6 (Option.some Jvm.ClassFile.FieldType.int) 2 := ⟨kw_6_196, kw_1_13, by decide +kernel, by decide +kernel, by decide +kernel⟩
theorem kw_6_195 : (Jvm.Cond.instanceMethod ({ cls := "ParishUnionModel", name := "law", desc := "(II)I" } : Jvm.MethodName)) ∈ gT := gT_of (tb_6 _ (List.mem_of_getElem? (i := 195) rfl)) rfl
theorem kw_0_49 : (Jvm.Cond.selects "ParishUnionModel" ({ cls := "ParishUnionModel", name := "law", desc := "(II)I" } : Jvm.MethodName) ({ cls := "ParishUnionModel", name := "law", desc := "(II)I" } : Jvm.MethodName)) ∈ gT := gT_of (tb_0 _ (List.mem_of_getElem? (i := 49) rfl)) rfl
theorem dX12_force_61 : decode cX12_force 61 = .ok (.ireturn, 1) := by decide +kernel
theorem dX12_force_46 : decode cX12_force 46 = .ok (.aload_n 0, 1) := by decide +kernel
theorem dX12_force_47 : decode cX12_force 47 = .ok (.iload_n 2, 1) := by decide +kernel
theorem dX12_force_48 : decode cX12_force 48 = .ok (.iload_n 1, 1) := by decide +kernel
theorem dX12_force_49 : decode cX12_force 49 = .ok (.invokevirtual 236, 3) := by decide +kernel
theorem kw_7_74 : (Jvm.Cond.methodLink "ParishUnionModel" (236 : Nat) ({ cls := "ParishUnionModel", name := "manyOf", desc := "(II)I" } : Jvm.MethodName)) ∈ gT := gT_of (tb_7 _ (List.mem_of_getElem? (i := 74) rfl)) rfl
theorem kw_7_77 : (Jvm.Cond.code ({ cls := "ParishUnionModel", name := "manyOf", desc := "(II)I" } : Jvm.MethodName) prog_14_method_54_code (6 : Nat) (Option.some Jvm.ClassFile.FieldType.int)) ∈ gT := gT_of (tb_7 _ (List.mem_of_getElem? (i := 77) rfl)) rfl
theorem okX12_manyOf : gQok yX12_manyOf cX12_manyOf 6 (Option.some Jvm.ClassFile.FieldType.int) 2 := ⟨kw_7_77, kw_1_13, by decide +kernel, by decide +kernel, by decide +kernel⟩
theorem kw_7_76 : (Jvm.Cond.instanceMethod ({ cls := "ParishUnionModel", name := "manyOf", desc := "(II)I" } : Jvm.MethodName)) ∈ gT := gT_of (tb_7 _ (List.mem_of_getElem? (i := 76) rfl)) rfl
theorem kw_0_69 : (Jvm.Cond.selects "ParishUnionModel" ({ cls := "ParishUnionModel", name := "manyOf", desc := "(II)I" } : Jvm.MethodName) ({ cls := "ParishUnionModel", name := "manyOf", desc := "(II)I" } : Jvm.MethodName)) ∈ gT := gT_of (tb_0 _ (List.mem_of_getElem? (i := 69) rfl)) rfl
theorem dX12_force_52 : decode cX12_force 52 = .ok (.goto 9, 3) := by decide +kernel
theorem dX12_force_28 : decode cX12_force 28 = .ok (.aload_n 0, 1) := by decide +kernel
theorem dX12_force_29 : decode cX12_force 29 = .ok (.iload_n 2, 1) := by decide +kernel
theorem dX12_force_30 : decode cX12_force 30 = .ok (.bipush 10, 2) := by decide +kernel
theorem dX12_force_32 : decode cX12_force 32 = .ok (.isub, 1) := by decide +kernel
theorem dX12_force_33 : decode cX12_force 33 = .ok (.iload_n 1, 1) := by decide +kernel
theorem dX12_force_34 : decode cX12_force 34 = .ok (.invokevirtual 230, 3) := by decide +kernel
theorem dX12_force_37 : decode cX12_force 37 = .ok (.goto 24, 3) := by decide +kernel
theorem dX12_force_19 : decode cX12_force 19 = .ok (.bipush (-2), 2) := by decide +kernel
theorem dX12_force_21 : decode cX12_force 21 = .ok (.ireturn, 1) := by decide +kernel
theorem dX12_force_10 : decode cX12_force 10 = .ok (.iconst (-1), 1) := by decide +kernel
theorem dX12_force_11 : decode cX12_force 11 = .ok (.ireturn, 1) := by decide +kernel
set_option maxRecDepth 100000 in
set_option maxHeartbeats 4000000 in
theorem c_X12_force {l : Launch} {n0 : Nat} {D : va_G} {cA : Nat → ClassId} {M : gM} (a b : Int) (r_a : -2147483648 ≤ a ∧ a ≤ 2147483647) (r_b : -2147483648 ≤ b ∧ b ≤ 2147483647) {sz : Nat} (hsz : 206 ≤ sz) (f_190_1 : M 190 1 = 192) (f_191_4 : M 191 4 = 0) : Met l yX12_force (gWsOf yX12_force cX12_force 3 (Option.some Jvm.ClassFile.FieldType.int)) { frames := 3, cells := 0, slots := 0, locals := 72 } (gPc n0 D cA [gA n0 190, gJ a, gJ b] M sz) (gQi n0 D cA sz (fun z M1 => ((¬(0 ≤ b ∧ b ≤ 19) → z = -1) ∧ (0 ≤ b → b ≤ 19 → ¬(0 ≤ a ∧ a ≤ 300) → z = -2) ∧ (10 ≤ b → b ≤ 19 → 0 ≤ a → a ≤ 300 → z = -1) ∧ (0 ≤ b → b ≤ 9 → 0 ≤ a → a ≤ 300 → ((b = 0 → z = 50) ∧ (b = 1 → z = 100) ∧ (b = 2 → z = 10) ∧ (b = 3 → z = 5) ∧ (b = 4 → z = 14) ∧ (b = 5 → z = 1) ∧ (b = 6 → z = 1) ∧ (b = 7 → z = 0) ∧ (b = 8 → z = 0) ∧ (b = 9 → z = 0)))) ∧ ∀ a : Int, M1 a = M a)) 0 0 (fun q => n0 ≤ q) := by
  refine gMet_of [gA n0 190, gJ a, gJ b] (by decide) (Nat.le_of_ble_eq_true rfl) ?_
  intro p e s m args below meth cd X hr hm
  have X : gCx p s m args meth cd n0 D cA "ParishUnionModel" cX12_force 3 := X
  show G p l e ({ frames := 3, cells := 0, slots := 0, locals := 72 } : Room) s m args below meth cd n0 D cA 3 (MQ below (gQi n0 D cA sz (fun z M1 => ((¬(0 ≤ b ∧ b ≤ 19) → z = -1) ∧ (0 ≤ b → b ≤ 19 → ¬(0 ≤ a ∧ a ≤ 300) → z = -2) ∧ (10 ≤ b → b ≤ 19 → 0 ≤ a → a ≤ 300 → z = -1) ∧ (0 ≤ b → b ≤ 9 → 0 ≤ a → a ≤ 300 → ((b = 0 → z = 50) ∧ (b = 1 → z = 100) ∧ (b = 2 → z = 10) ∧ (b = 3 → z = 5) ∧ (b = 4 → z = 14) ∧ (b = 5 → z = 1) ∧ (b = 6 → z = 1) ∧ (b = 7 → z = 0) ∧ (b = 8 → z = 0) ∧ (b = 9 → z = 0)))) ∧ ∀ a : Int, M1 a = M a)) args s 0 0 (fun q => n0 ≤ q)) 0 0 M sz 0 [(0, gA n0 190), (1, gJ a), (2, gJ b)] []
  refine g_iload_n (n := 1) X 2 dX12_force_0 rfl rfl rfl ?_
  refine g_iconst (n := 2) X dX12_force_1 rfl ?_
  refine g_bipush (n := 4) X dX12_force_2 (by decide +kernel) rfl ?_
  refine g_callSi (n := 7) (As := [gJ b, gJ 0, gJ 19]) (rest := []) (cs1 := 0) (ss1 := 0) X (c_X12_in b 0 19 (by omega) (by omega) (by omega) (by omega)) okX12_in kw_6_106 kw_6_107 ⟨rfl, rfl⟩ ⟨Nat.le_of_ble_eq_true rfl, Nat.le_of_ble_eq_true rfl⟩ rfl rfl (Nat.le_of_ble_eq_true rfl) ⟨Nat.le_of_ble_eq_true rfl, Nat.le_of_ble_eq_true rfl⟩ rfl rfl dX12_force_4 rfl (fun z1 M2 P3 => ?_)
  obtain ⟨rfl, P3⟩ := P3
  refine g_if_ne (n := 10) (tgt := 12) X dX12_force_7 (by decide) (by omega) rfl (fun c4 => ?_) (fun c4 => ?_)
  · refine g_iload_n (n := 13) X 1 dX12_force_12 rfl rfl rfl ?_
    refine g_callSi (n := 16) (As := [gJ a]) (rest := []) (cs1 := 0) (ss1 := 0) X (c_X12_isWeek a (by omega) (by omega)) okX12_isWeek kw_6_236 kw_6_237 ⟨rfl, rfl⟩ ⟨Nat.le_of_ble_eq_true rfl, Nat.le_of_ble_eq_true rfl⟩ rfl rfl (Nat.le_of_ble_eq_true rfl) ⟨Nat.le_of_ble_eq_true rfl, Nat.le_of_ble_eq_true rfl⟩ rfl rfl dX12_force_13 rfl (fun z5 M6 P7 => ?_)
    obtain ⟨rfl, P7⟩ := P7
    refine g_if_ne (n := 19) (tgt := 22) X dX12_force_16 (by decide) (by omega) rfl (fun c8 => ?_) (fun c8 => ?_)
    · refine g_iload_n (n := 23) X 2 dX12_force_22 rfl rfl rfl ?_
      refine g_bipush (n := 25) X dX12_force_23 (by decide +kernel) rfl ?_
      refine g_icmp_le (n := 28) (tgt := 40) X dX12_force_25 (by decide) (by omega) (by omega) rfl (fun c9 => ?_) (fun c9 => ?_)
      · refine g_iload_n (n := 41) X 2 dX12_force_40 rfl rfl rfl ?_
        refine g_bipush (n := 43) X dX12_force_41 (by decide +kernel) rfl ?_
        refine g_icmp_le (n := 46) (tgt := 55) X dX12_force_43 (by decide) (by omega) (by omega) rfl (fun c10 => ?_) (fun c10 => ?_)
        · refine g_aload_n (n := 56) X 0 dX12_force_55 rfl rfl rfl ?_
          refine g_iload_n (n := 57) X 2 dX12_force_56 rfl rfl rfl ?_
          refine g_iload_n (n := 58) X 1 dX12_force_57 rfl rfl rfl ?_
          refine g_callVi (n := 61) (As := [gJ b, gJ a]) (rest := []) (cs1 := 0) (ss1 := 0) X (c_X12_law b a (by omega) (by omega) (by omega) f_190_1 f_191_4 (by omega)) okX12_law kw_6_193 ⟨kw_6_195, kw_0_49⟩ ⟨rfl, rfl⟩ ⟨Nat.le_of_ble_eq_true rfl, Nat.le_of_ble_eq_true rfl⟩ rfl (by omega) (by omega) lay_190 rfl rfl (Nat.le_of_ble_eq_true rfl) ⟨Nat.le_of_ble_eq_true rfl, Nat.le_of_ble_eq_true rfl⟩ rfl rfl dX12_force_58 rfl (fun z11 M12 P13 => ?_)
          obtain ⟨rfl, P13⟩ := P13
          exact g_ireturn X hr dX12_force_61 (by exact ⟨by omega, fun a  => rfl⟩)
        · refine g_aload_n (n := 47) X 0 dX12_force_46 rfl rfl rfl ?_
          refine g_iload_n (n := 48) X 2 dX12_force_47 rfl rfl rfl ?_
          refine g_iload_n (n := 49) X 1 dX12_force_48 rfl rfl rfl ?_
          refine g_callVi (n := 52) (As := [gJ b, gJ a]) (rest := []) (cs1 := 0) (ss1 := 0) X (c_X12_manyOf b a (by omega) (by omega) (by omega) f_190_1 f_191_4) okX12_manyOf kw_7_74 ⟨kw_7_76, kw_0_69⟩ ⟨rfl, rfl⟩ ⟨Nat.le_of_ble_eq_true rfl, Nat.le_of_ble_eq_true rfl⟩ rfl (by omega) (by omega) lay_190 rfl rfl (Nat.le_of_ble_eq_true rfl) ⟨Nat.le_of_ble_eq_true rfl, Nat.le_of_ble_eq_true rfl⟩ rfl rfl dX12_force_49 rfl (fun z14 M15 P16 => ?_)
          obtain ⟨rfl, rfl⟩ := P16
          refine g_goto (tgt := 61) X dX12_force_52 (by decide) ?_
          exact g_ireturn X hr dX12_force_61 (by exact ⟨by omega, fun a  => rfl⟩)
      · refine g_aload_n (n := 29) X 0 dX12_force_28 rfl rfl rfl ?_
        refine g_iload_n (n := 30) X 2 dX12_force_29 rfl rfl rfl ?_
        refine g_bipush (n := 32) X dX12_force_30 (by decide +kernel) rfl ?_
        refine g_isub (n := 33) (z := b - 10) X dX12_force_32 rfl rfl ?_
        refine g_iload_n (n := 34) X 1 dX12_force_33 rfl rfl rfl ?_
        refine g_callVi (n := 37) (As := [gJ (b - 10), gJ a]) (rest := []) (cs1 := 0) (ss1 := 0) X (c_X12_actOf (b - 10) a (by omega) (by omega) (by omega) f_190_1 f_191_4) okX12_actOf kw_6_197 ⟨kw_6_199, kw_0_50⟩ ⟨rfl, rfl⟩ ⟨Nat.le_of_ble_eq_true rfl, Nat.le_of_ble_eq_true rfl⟩ rfl (by omega) (by omega) lay_190 rfl rfl (Nat.le_of_ble_eq_true rfl) ⟨Nat.le_of_ble_eq_true rfl, Nat.le_of_ble_eq_true rfl⟩ rfl rfl dX12_force_34 rfl (fun z17 M18 P19 => ?_)
        obtain ⟨rfl, rfl⟩ := P19
        refine g_goto (tgt := 61) X dX12_force_37 (by decide) ?_
        exact g_ireturn X hr dX12_force_61 (by exact ⟨by omega, fun a  => rfl⟩)
    · refine g_bipush (n := 21) X dX12_force_19 (by decide +kernel) rfl ?_
      exact g_ireturn X hr dX12_force_21 (by exact ⟨by omega, fun a  => rfl⟩)
  · refine g_iconst (n := 11) X dX12_force_10 rfl ?_
    exact g_ireturn X hr dX12_force_11 (by exact ⟨by omega, fun a  => rfl⟩)
theorem dX12_unlike_0 : decode cX12_unlike 0 = .ok (.aload_n 0, 1) := by decide +kernel
theorem dX12_unlike_1 : decode cX12_unlike 1 = .ok (.iload_n 1, 1) := by decide +kernel
theorem dX12_unlike_2 : decode cX12_unlike 2 = .ok (.invokevirtual 113, 3) := by decide +kernel
theorem kw_6_181 : (Jvm.Cond.methodLink "ParishUnionModel" (113 : Nat) ({ cls := "ParishUnionModel", name := "isBy", desc := "(I)Z" } : Jvm.MethodName)) ∈ gT := gT_of (tb_6 _ (List.mem_of_getElem? (i := 181) rfl)) rfl
theorem kw_6_184 : (Jvm.Cond.code ({ cls := "ParishUnionModel", name := "isBy", desc := "(I)Z" } : Jvm.MethodName) prog_14_method_6_code (2 : Nat) (Option.some Jvm.ClassFile.FieldType.boolean)) ∈ gT := gT_of (tb_6 _ (List.mem_of_getElem? (i := 184) rfl)) rfl
theorem okX12_isBy : gQok yX12_isBy cX12_isBy 2 (Option.some Jvm.ClassFile.FieldType.boolean) 1 := ⟨kw_6_184, kw_1_13, by decide +kernel, by decide +kernel, by decide +kernel⟩
theorem kw_6_183 : (Jvm.Cond.instanceMethod ({ cls := "ParishUnionModel", name := "isBy", desc := "(I)Z" } : Jvm.MethodName)) ∈ gT := gT_of (tb_6 _ (List.mem_of_getElem? (i := 183) rfl)) rfl
theorem kw_0_46 : (Jvm.Cond.selects "ParishUnionModel" ({ cls := "ParishUnionModel", name := "isBy", desc := "(I)Z" } : Jvm.MethodName) ({ cls := "ParishUnionModel", name := "isBy", desc := "(I)Z" } : Jvm.MethodName)) ∈ gT := gT_of (tb_0 _ (List.mem_of_getElem? (i := 46) rfl)) rfl
theorem dX12_unlike_5 : decode cX12_unlike 5 = .ok (.ifCond .ne 5, 3) := by decide +kernel
theorem dX12_unlike_10 : decode cX12_unlike 10 = .ok (.iconst 0, 1) := by decide +kernel
theorem dX12_unlike_11 : decode cX12_unlike 11 = .ok (.istore_n 2, 1) := by decide +kernel
theorem dX12_unlike_12 : decode cX12_unlike 12 = .ok (.iconst 0, 1) := by decide +kernel
theorem dX12_unlike_13 : decode cX12_unlike 13 = .ok (.istore_n 3, 1) := by decide +kernel
theorem dX12_unlike_14 : decode cX12_unlike 14 = .ok (.iload_n 3, 1) := by decide +kernel
theorem dX12_unlike_15 : decode cX12_unlike 15 = .ok (.aload_n 0, 1) := by decide +kernel
theorem dX12_unlike_16 : decode cX12_unlike 16 = .ok (.getfield 7, 3) := by decide +kernel
theorem dX12_unlike_19 : decode cX12_unlike 19 = .ok (.iconst 5, 1) := by decide +kernel
theorem dX12_unlike_20 : decode cX12_unlike 20 = .ok (.iaload, 1) := by decide +kernel
theorem dX12_unlike_21 : decode cX12_unlike 21 = .ok (.if_icmp .ge 36, 3) := by decide +kernel
theorem dX12_unlike_57 : decode cX12_unlike 57 = .ok (.iload_n 2, 1) := by decide +kernel
theorem dX12_unlike_58 : decode cX12_unlike 58 = .ok (.ireturn, 1) := by decide +kernel
theorem dX12_unlike_8 : decode cX12_unlike 8 = .ok (.iconst (-1), 1) := by decide +kernel
theorem dX12_unlike_9 : decode cX12_unlike 9 = .ok (.ireturn, 1) := by decide +kernel
set_option maxRecDepth 100000 in
set_option maxHeartbeats 4000000 in
theorem c_X12_unlike {l : Launch} {n0 : Nat} {D : va_G} {cA : Nat → ClassId} {M : gM} (a : Int) (r_a : -2147483648 ≤ a ∧ a ≤ 2147483647) {sz : Nat} (hsz : 206 ≤ sz) (f_190_1 : M 190 1 = 192) (f_191_3 : M 191 3 = 0) (f_191_5 : M 191 5 = 0) : Met l yX12_unlike (gWsOf yX12_unlike cX12_unlike 4 (Option.some Jvm.ClassFile.FieldType.int)) { frames := 63, cells := 0, slots := 0, locals := 2473 } (gPc n0 D cA [gA n0 190, gJ a] M sz) (gQi n0 D cA sz (fun z M1 => (((¬(-1 ≤ a ∧ a ≤ 0)) → z = -1) ∧ (¬(¬(-1 ≤ a ∧ a ≤ 0)) → (z = 0))) ∧ ∀ a : Int, M1 a = M a)) 0 0 (fun q => n0 ≤ q) := by
  refine gMet_of [gA n0 190, gJ a] (by decide) (Nat.le_of_ble_eq_true rfl) ?_
  intro p e s m args below meth cd X hr hm
  have X : gCx p s m args meth cd n0 D cA "ParishUnionModel" cX12_unlike 4 := X
  show G p l e ({ frames := 63, cells := 0, slots := 0, locals := 2473 } : Room) s m args below meth cd n0 D cA 4 (MQ below (gQi n0 D cA sz (fun z M1 => (((¬(-1 ≤ a ∧ a ≤ 0)) → z = -1) ∧ (¬(¬(-1 ≤ a ∧ a ≤ 0)) → (z = 0))) ∧ ∀ a : Int, M1 a = M a)) args s 0 0 (fun q => n0 ≤ q)) 0 0 M sz 0 [(0, gA n0 190), (1, gJ a)] []
  refine g_aload_n (n := 1) X 0 dX12_unlike_0 rfl rfl rfl ?_
  refine g_iload_n (n := 2) X 1 dX12_unlike_1 rfl rfl rfl ?_
  refine g_callVi (n := 5) (As := [gJ a]) (rest := []) (cs1 := 0) (ss1 := 0) X (c_X12_isBy a (by omega) (by omega) f_190_1 f_191_3) okX12_isBy kw_6_181 ⟨kw_6_183, kw_0_46⟩ ⟨rfl, rfl⟩ ⟨Nat.le_of_ble_eq_true rfl, Nat.le_of_ble_eq_true rfl⟩ rfl (by omega) (by omega) lay_190 rfl rfl (Nat.le_of_ble_eq_true rfl) ⟨Nat.le_of_ble_eq_true rfl, Nat.le_of_ble_eq_true rfl⟩ rfl rfl dX12_unlike_2 rfl (fun z1 M2 P3 => ?_)
  obtain ⟨rfl, P3⟩ := P3
  refine g_if_ne (n := 8) (tgt := 10) X dX12_unlike_5 (by decide) (by omega) rfl (fun c4 => ?_) (fun c4 => ?_)
  · refine g_iconst (n := 11) X dX12_unlike_10 rfl ?_
    refine g_istore_n (n := 12) (L' := [(2, gJ 0), (0, gA n0 190), (1, gJ a)]) X dX12_unlike_11 rfl (by decide) rfl rfl ?_
    refine g_iconst (n := 13) X dX12_unlike_12 rfl ?_
    refine g_istore_n (n := 14) (L' := [(3, gJ 0), (2, gJ 0), (0, gA n0 190), (1, gJ a)]) X dX12_unlike_13 rfl (by decide) rfl rfl ?_
    refine g_iload_n (n := 15) X 0 dX12_unlike_14 rfl rfl rfl ?_
    refine g_aload_n (n := 16) X 2 dX12_unlike_15 rfl rfl rfl ?_
    refine gg_12_1 (n := 19) (z := 191) X (by omega) (by omega) lay_190 kw_6_27 dX12_unlike_16 rfl f_190_1 (by omega) ?_
    refine g_iconst (n := 20) X dX12_unlike_19 rfl ?_
    refine g_iald (n := 21) X (by omega) (by omega) lay_191 (by omega) (by omega) (by omega) dX12_unlike_20 rfl ?_
    rw [show M 191 5 = 0 from f_191_5]
    refine g_icmp_ge (n := 24) (tgt := 57) X dX12_unlike_21 (by decide) (by omega) (by omega) rfl (fun c5 => ?_) (fun c5 => by exfalso; omega)
    refine g_iload_n (n := 58) X 1 dX12_unlike_57 rfl rfl rfl ?_
    exact g_ireturn X hr dX12_unlike_58 (by exact ⟨by omega, fun a  => rfl⟩)
  · refine g_iconst (n := 9) X dX12_unlike_8 rfl ?_
    exact g_ireturn X hr dX12_unlike_9 (by exact ⟨by omega, fun a  => rfl⟩)
theorem dX12_heardIn_0 : decode cX12_heardIn 0 = .ok (.aload_n 0, 1) := by decide +kernel
theorem dX12_heardIn_1 : decode cX12_heardIn 1 = .ok (.iload_n 1, 1) := by decide +kernel
theorem dX12_heardIn_2 : decode cX12_heardIn 2 = .ok (.iconst 0, 1) := by decide +kernel
theorem dX12_heardIn_3 : decode cX12_heardIn 3 = .ok (.invokevirtual 72, 3) := by decide +kernel
theorem dX12_heardIn_6 : decode cX12_heardIn 6 = .ok (.istore_n 3, 1) := by decide +kernel
theorem dX12_heardIn_7 : decode cX12_heardIn 7 = .ok (.iconst 0, 1) := by decide +kernel
theorem dX12_heardIn_8 : decode cX12_heardIn 8 = .ok (.istore 4, 2) := by decide +kernel
theorem dX12_heardIn_10 : decode cX12_heardIn 10 = .ok (.iconst 0, 1) := by decide +kernel
theorem dX12_heardIn_11 : decode cX12_heardIn 11 = .ok (.istore 5, 2) := by decide +kernel
theorem dX12_heardIn_13 : decode cX12_heardIn 13 = .ok (.iload_n 3, 1) := by decide +kernel
theorem dX12_heardIn_14 : decode cX12_heardIn 14 = .ok (.bipush 99, 2) := by decide +kernel
theorem dX12_heardIn_16 : decode cX12_heardIn 16 = .ok (.if_icmp .ge 58, 3) := by decide +kernel
theorem dX12_heardIn_74 : decode cX12_heardIn 74 = .ok (.iload 4, 2) := by decide +kernel
theorem dX12_heardIn_76 : decode cX12_heardIn 76 = .ok (.ireturn, 1) := by decide +kernel
theorem dX12_heardIn_19 : decode cX12_heardIn 19 = .ok (.iload 5, 2) := by decide +kernel
theorem dX12_heardIn_21 : decode cX12_heardIn 21 = .ok (.iload_n 2, 1) := by decide +kernel
theorem dX12_heardIn_22 : decode cX12_heardIn 22 = .ok (.iload_n 3, 1) := by decide +kernel
theorem dX12_heardIn_23 : decode cX12_heardIn 23 = .ok (.isub, 1) := by decide +kernel
theorem dX12_heardIn_24 : decode cX12_heardIn 24 = .ok (.iconst 1, 1) := by decide +kernel
theorem dX12_heardIn_25 : decode cX12_heardIn 25 = .ok (.isub, 1) := by decide +kernel
theorem dX12_heardIn_26 : decode cX12_heardIn 26 = .ok (.if_icmp .gt 48, 3) := by decide +kernel
theorem dX12_heardIn_29 : decode cX12_heardIn 29 = .ok (.iload 5, 2) := by decide +kernel
theorem dX12_heardIn_31 : decode cX12_heardIn 31 = .ok (.aload_n 0, 1) := by decide +kernel
theorem dX12_heardIn_32 : decode cX12_heardIn 32 = .ok (.getfield 7, 3) := by decide +kernel
theorem dX12_heardIn_35 : decode cX12_heardIn 35 = .ok (.iconst 0, 1) := by decide +kernel
theorem dX12_heardIn_36 : decode cX12_heardIn 36 = .ok (.iaload, 1) := by decide +kernel
theorem dX12_heardIn_37 : decode cX12_heardIn 37 = .ok (.if_icmp .ge 37, 3) := by decide +kernel
set_option maxRecDepth 100000 in
set_option maxHeartbeats 4000000 in
theorem c_X12_heardIn {l : Launch} {n0 : Nat} {D : va_G} {cA : Nat → ClassId} {M : gM} (a b : Int) (r_a : -2147483648 ≤ a ∧ a ≤ 2147483647) (r_b : -2147483648 ≤ b ∧ b ≤ 2147483647) {sz : Nat} (hsz : 206 ≤ sz) (f_190_1 : M 190 1 = 192) (hab : 0 ≤ a ∧ a ≤ 5 ∧ 0 ≤ b ∧ b ≤ 300) (hS : ∀ i : Int, 0 ≤ i → i < 25301 → M 191 i = gS0 i) : Met l yX12_heardIn (gWsOf yX12_heardIn cX12_heardIn 6 (Option.some Jvm.ClassFile.FieldType.int)) { frames := 1, cells := 0, slots := 0, locals := 22 } (gPc n0 D cA [gA n0 190, gJ a, gJ b] M sz) (gQi n0 D cA sz (fun z M1 => M = M1 ∧ (z = 0))) 0 0 (fun q => n0 ≤ q) := by
  refine gMet_of [gA n0 190, gJ a, gJ b] (by decide) (Nat.le_of_ble_eq_true rfl) ?_
  intro p e s m args below meth cd X hr hm
  have X : gCx p s m args meth cd n0 D cA "ParishUnionModel" cX12_heardIn 6 := X
  show G p l e ({ frames := 1, cells := 0, slots := 0, locals := 22 } : Room) s m args below meth cd n0 D cA 6 (MQ below (gQi n0 D cA sz (fun z M1 => M = M1 ∧ (z = 0))) args s 0 0 (fun q => n0 ≤ q)) 0 0 M sz 0 [(0, gA n0 190), (1, gJ a), (2, gJ b)] []
  refine g_aload_n (n := 1) X 0 dX12_heardIn_0 rfl rfl rfl ?_
  refine g_iload_n (n := 2) X 1 dX12_heardIn_1 rfl rfl rfl ?_
  refine g_iconst (n := 3) X dX12_heardIn_2 rfl ?_
  refine g_callVi (n := 6) (As := [gJ a, gJ 0]) (rest := []) (cs1 := 0) (ss1 := 0) X (c_X12_farOf a 0 (by omega) (by omega) (by omega) f_190_1 (by omega) hS) okX12_farOf kw_6_113 ⟨kw_6_115, kw_0_39⟩ ⟨rfl, rfl⟩ ⟨Nat.le_of_ble_eq_true rfl, Nat.le_of_ble_eq_true rfl⟩ rfl (by omega) (by omega) lay_190 rfl rfl (Nat.le_of_ble_eq_true rfl) ⟨Nat.le_of_ble_eq_true rfl, Nat.le_of_ble_eq_true rfl⟩ rfl rfl dX12_heardIn_3 rfl (fun z1 M2 P3 => ?_)
  obtain ⟨rfl, P3⟩ := P3
  refine g_istore_n (n := 7) (L' := [(3, gJ z1), (0, gA n0 190), (1, gJ a), (2, gJ b)]) X dX12_heardIn_6 rfl (by decide) rfl rfl ?_
  refine g_iconst (n := 8) X dX12_heardIn_7 rfl ?_
  refine g_istore (n := 10) (L' := [(4, gJ 0), (3, gJ z1), (0, gA n0 190), (1, gJ a), (2, gJ b)]) X dX12_heardIn_8 (by decide) rfl rfl ?_
  refine g_iconst (n := 11) X dX12_heardIn_10 rfl ?_
  refine g_istore (n := 13) (L' := [(5, gJ 0), (4, gJ 0), (3, gJ z1), (0, gA n0 190), (1, gJ a), (2, gJ b)]) X dX12_heardIn_11 (by decide) rfl rfl ?_
  refine g_iload_n (n := 14) X 2 dX12_heardIn_13 rfl rfl rfl ?_
  refine g_bipush (n := 16) X dX12_heardIn_14 (by decide +kernel) rfl ?_
  refine g_icmp_ge (n := 19) (tgt := 74) X dX12_heardIn_16 (by decide) (by omega) (by omega) rfl (fun c4 => ?_) (fun c4 => ?_)
  · refine g_iload (n := 76) X 1 dX12_heardIn_74 rfl rfl ?_
    exact g_ireturn X hr dX12_heardIn_76 (by exact ⟨rfl, by omega⟩)
  · refine g_iload (n := 21) X 0 dX12_heardIn_19 rfl rfl ?_
    refine g_iload_n (n := 22) X 5 dX12_heardIn_21 rfl rfl rfl ?_
    refine g_iload_n (n := 23) X 2 dX12_heardIn_22 rfl rfl rfl ?_
    refine g_isub (n := 24) (z := b - z1) X dX12_heardIn_23 rfl rfl ?_
    refine g_iconst (n := 25) X dX12_heardIn_24 rfl ?_
    refine g_isub (n := 26) (z := (b - z1) - 1) X dX12_heardIn_25 rfl rfl ?_
    refine g_icmp_gt (n := 29) (tgt := 74) X dX12_heardIn_26 (by decide) (by omega) (by omega) rfl (fun c5 => ?_) (fun c5 => ?_)
    · refine g_iload (n := 76) X 1 dX12_heardIn_74 rfl rfl ?_
      exact g_ireturn X hr dX12_heardIn_76 (by exact ⟨rfl, by omega⟩)
    · refine g_iload (n := 31) X 0 dX12_heardIn_29 rfl rfl ?_
      refine g_aload_n (n := 32) X 3 dX12_heardIn_31 rfl rfl rfl ?_
      refine gg_12_1 (n := 35) (z := 191) X (by omega) (by omega) lay_190 kw_6_27 dX12_heardIn_32 rfl f_190_1 (by omega) ?_
      refine g_iconst (n := 36) X dX12_heardIn_35 rfl ?_
      refine g_iald (n := 37) X (by omega) (by omega) lay_191 (by omega) (by omega) (by omega) dX12_heardIn_36 rfl ?_
      rw [show M 191 0 = 0 from ((hS 0 (by omega) (by omega)).trans (by decide))]
      refine g_icmp_ge (n := 40) (tgt := 74) X dX12_heardIn_37 (by decide) (by omega) (by omega) rfl (fun c6 => ?_) (fun c6 => by exfalso; omega)
      refine g_iload (n := 76) X 1 dX12_heardIn_74 rfl rfl ?_
      exact g_ireturn X hr dX12_heardIn_76 (by exact ⟨rfl, by omega⟩)
theorem dX12_heard_0 : decode cX12_heard 0 = .ok (.iload_n 1, 1) := by decide +kernel
theorem dX12_heard_1 : decode cX12_heard 1 = .ok (.invokestatic 68, 3) := by decide +kernel
theorem dX12_heard_4 : decode cX12_heard 4 = .ok (.ifCond .ne 7, 3) := by decide +kernel
theorem dX12_heard_11 : decode cX12_heard 11 = .ok (.iload_n 2, 1) := by decide +kernel
theorem dX12_heard_12 : decode cX12_heard 12 = .ok (.invokestatic 220, 3) := by decide +kernel
theorem dX12_heard_15 : decode cX12_heard 15 = .ok (.ifCond .eq 12, 3) := by decide +kernel
theorem dX12_heard_27 : decode cX12_heard 27 = .ok (.bipush (-2), 2) := by decide +kernel
theorem dX12_heard_29 : decode cX12_heard 29 = .ok (.ireturn, 1) := by decide +kernel
theorem dX12_heard_18 : decode cX12_heard 18 = .ok (.aload_n 0, 1) := by decide +kernel
theorem dX12_heard_19 : decode cX12_heard 19 = .ok (.iload_n 1, 1) := by decide +kernel
theorem dX12_heard_20 : decode cX12_heard 20 = .ok (.iload_n 2, 1) := by decide +kernel
theorem dX12_heard_21 : decode cX12_heard 21 = .ok (.invokevirtual 254, 3) := by decide +kernel
theorem kw_7_134 : (Jvm.Cond.methodLink "ParishUnionModel" (254 : Nat) ({ cls := "ParishUnionModel", name := "heardIn", desc := "(II)I" } : Jvm.MethodName)) ∈ gT := gT_of (tb_7 _ (List.mem_of_getElem? (i := 134) rfl)) rfl
theorem kw_7_137 : (Jvm.Cond.code ({ cls := "ParishUnionModel", name := "heardIn", desc := "(II)I" } : Jvm.MethodName) prog_14_method_70_code (6 : Nat) (Option.some Jvm.ClassFile.FieldType.int)) ∈ gT := gT_of (tb_7 _ (List.mem_of_getElem? (i := 137) rfl)) rfl
theorem okX12_heardIn : gQok yX12_heardIn cX12_heardIn 6 (Option.some Jvm.ClassFile.FieldType.int) 2 := ⟨kw_7_137, kw_1_13, by decide +kernel, by decide +kernel, by decide +kernel⟩
theorem kw_7_136 : (Jvm.Cond.instanceMethod ({ cls := "ParishUnionModel", name := "heardIn", desc := "(II)I" } : Jvm.MethodName)) ∈ gT := gT_of (tb_7 _ (List.mem_of_getElem? (i := 136) rfl)) rfl
theorem kw_0_75 : (Jvm.Cond.selects "ParishUnionModel" ({ cls := "ParishUnionModel", name := "heardIn", desc := "(II)I" } : Jvm.MethodName) ({ cls := "ParishUnionModel", name := "heardIn", desc := "(II)I" } : Jvm.MethodName)) ∈ gT := gT_of (tb_0 _ (List.mem_of_getElem? (i := 75) rfl)) rfl
theorem dX12_heard_24 : decode cX12_heard 24 = .ok (.goto 5, 3) := by decide +kernel
theorem dX12_heard_7 : decode cX12_heard 7 = .ok (.iconst (-1), 1) := by decide +kernel
theorem dX12_heard_8 : decode cX12_heard 8 = .ok (.goto 21, 3) := by decide +kernel
set_option maxRecDepth 100000 in
set_option maxHeartbeats 4000000 in
theorem c_X12_heard {l : Launch} {n0 : Nat} {D : va_G} {cA : Nat → ClassId} {M : gM} (a b : Int) (r_a : -2147483648 ≤ a ∧ a ≤ 2147483647) (r_b : -2147483648 ≤ b ∧ b ≤ 2147483647) {sz : Nat} (hsz : 206 ≤ sz) (f_190_1 : M 190 1 = 192) (hS : ∀ i : Int, 0 ≤ i → i < 25301 → M 191 i = gS0 i) : Met l yX12_heard (gWsOf yX12_heard cX12_heard 3 (Option.some Jvm.ClassFile.FieldType.int)) { frames := 2, cells := 0, slots := 0, locals := 47 } (gPc n0 D cA [gA n0 190, gJ a, gJ b] M sz) (gQi n0 D cA sz (fun z M1 => (((¬(0 ≤ a ∧ a ≤ 5)) → z = -1) ∧ (¬(¬(0 ≤ a ∧ a ≤ 5)) → (¬(0 ≤ b ∧ b ≤ 300)) → z = -2) ∧ (¬(¬(0 ≤ a ∧ a ≤ 5)) → ¬(¬(0 ≤ b ∧ b ≤ 300)) → (z = 0))) ∧ ∀ a : Int, M1 a = M a)) 0 0 (fun q => n0 ≤ q) := by
  refine gMet_of [gA n0 190, gJ a, gJ b] (by decide) (Nat.le_of_ble_eq_true rfl) ?_
  intro p e s m args below meth cd X hr hm
  have X : gCx p s m args meth cd n0 D cA "ParishUnionModel" cX12_heard 3 := X
  show G p l e ({ frames := 2, cells := 0, slots := 0, locals := 47 } : Room) s m args below meth cd n0 D cA 3 (MQ below (gQi n0 D cA sz (fun z M1 => (((¬(0 ≤ a ∧ a ≤ 5)) → z = -1) ∧ (¬(¬(0 ≤ a ∧ a ≤ 5)) → (¬(0 ≤ b ∧ b ≤ 300)) → z = -2) ∧ (¬(¬(0 ≤ a ∧ a ≤ 5)) → ¬(¬(0 ≤ b ∧ b ≤ 300)) → (z = 0))) ∧ ∀ a : Int, M1 a = M a)) args s 0 0 (fun q => n0 ≤ q)) 0 0 M sz 0 [(0, gA n0 190), (1, gJ a), (2, gJ b)] []
  refine g_iload_n (n := 1) X 1 dX12_heard_0 rfl rfl rfl ?_
  refine g_callSi (n := 4) (As := [gJ a]) (rest := []) (cs1 := 0) (ss1 := 0) X (c_X12_isParish a (by omega) (by omega)) okX12_isParish kw_6_103 kw_6_104 ⟨rfl, rfl⟩ ⟨Nat.le_of_ble_eq_true rfl, Nat.le_of_ble_eq_true rfl⟩ rfl rfl (Nat.le_of_ble_eq_true rfl) ⟨Nat.le_of_ble_eq_true rfl, Nat.le_of_ble_eq_true rfl⟩ rfl rfl dX12_heard_1 rfl (fun z1 M2 P3 => ?_)
  obtain ⟨rfl, P3⟩ := P3
  refine g_if_ne (n := 7) (tgt := 11) X dX12_heard_4 (by decide) (by omega) rfl (fun c4 => ?_) (fun c4 => ?_)
  · refine g_iload_n (n := 12) X 2 dX12_heard_11 rfl rfl rfl ?_
    refine g_callSi (n := 15) (As := [gJ b]) (rest := []) (cs1 := 0) (ss1 := 0) X (c_X12_isWeek b (by omega) (by omega)) okX12_isWeek kw_6_236 kw_6_237 ⟨rfl, rfl⟩ ⟨Nat.le_of_ble_eq_true rfl, Nat.le_of_ble_eq_true rfl⟩ rfl rfl (Nat.le_of_ble_eq_true rfl) ⟨Nat.le_of_ble_eq_true rfl, Nat.le_of_ble_eq_true rfl⟩ rfl rfl dX12_heard_12 rfl (fun z5 M6 P7 => ?_)
    obtain ⟨rfl, P7⟩ := P7
    refine g_if_eq (n := 18) (tgt := 27) X dX12_heard_15 (by decide) (by omega) rfl (fun c8 => ?_) (fun c8 => ?_)
    · refine g_bipush (n := 29) X dX12_heard_27 (by decide +kernel) rfl ?_
      exact g_ireturn X hr dX12_heard_29 (by exact ⟨by omega, fun a  => rfl⟩)
    · refine g_aload_n (n := 19) X 0 dX12_heard_18 rfl rfl rfl ?_
      refine g_iload_n (n := 20) X 1 dX12_heard_19 rfl rfl rfl ?_
      refine g_iload_n (n := 21) X 2 dX12_heard_20 rfl rfl rfl ?_
      refine g_callVi (n := 24) (As := [gJ a, gJ b]) (rest := []) (cs1 := 0) (ss1 := 0) X (c_X12_heardIn a b (by omega) (by omega) (by omega) f_190_1 (by omega) hS) okX12_heardIn kw_7_134 ⟨kw_7_136, kw_0_75⟩ ⟨rfl, rfl⟩ ⟨Nat.le_of_ble_eq_true rfl, Nat.le_of_ble_eq_true rfl⟩ rfl (by omega) (by omega) lay_190 rfl rfl (Nat.le_of_ble_eq_true rfl) ⟨Nat.le_of_ble_eq_true rfl, Nat.le_of_ble_eq_true rfl⟩ rfl rfl dX12_heard_21 rfl (fun z9 M10 P11 => ?_)
      obtain ⟨rfl, rfl⟩ := P11
      refine g_goto (tgt := 29) X dX12_heard_24 (by decide) ?_
      exact g_ireturn X hr dX12_heard_29 (by exact ⟨by omega, fun a  => rfl⟩)
  · refine g_iconst (n := 8) X dX12_heard_7 rfl ?_
    refine g_goto (tgt := 29) X dX12_heard_8 (by decide) ?_
    exact g_ireturn X hr dX12_heard_29 (by exact ⟨by omega, fun a  => rfl⟩)
theorem dX12_nextNight_0 : decode cX12_nextNight 0 = .ok (.iconst (-1), 1) := by decide +kernel
theorem dX12_nextNight_1 : decode cX12_nextNight 1 = .ok (.istore_n 3, 1) := by decide +kernel
theorem dX12_nextNight_2 : decode cX12_nextNight 2 = .ok (.iconst 0, 1) := by decide +kernel
theorem dX12_nextNight_3 : decode cX12_nextNight 3 = .ok (.istore 4, 2) := by decide +kernel
theorem dX12_nextNight_5 : decode cX12_nextNight 5 = .ok (.iload 4, 2) := by decide +kernel
theorem dX12_nextNight_7 : decode cX12_nextNight 7 = .ok (.aload_n 0, 1) := by decide +kernel
theorem dX12_nextNight_8 : decode cX12_nextNight 8 = .ok (.getfield 7, 3) := by decide +kernel
theorem dX12_nextNight_11 : decode cX12_nextNight 11 = .ok (.bipush 6, 2) := by decide +kernel
theorem dX12_nextNight_13 : decode cX12_nextNight 13 = .ok (.iaload, 1) := by decide +kernel
theorem dX12_nextNight_14 : decode cX12_nextNight 14 = .ok (.if_icmp .ge 147, 3) := by decide +kernel
theorem dX12_nextNight_161 : decode cX12_nextNight 161 = .ok (.iload_n 3, 1) := by decide +kernel
theorem dX12_nextNight_162 : decode cX12_nextNight 162 = .ok (.ireturn, 1) := by decide +kernel
set_option maxRecDepth 100000 in
set_option maxHeartbeats 4000000 in
theorem c_X12_nextNight {l : Launch} {n0 : Nat} {D : va_G} {cA : Nat → ClassId} {M : gM} (a b : Int) (r_a : -2147483648 ≤ a ∧ a ≤ 2147483647) (r_b : -2147483648 ≤ b ∧ b ≤ 2147483647) {sz : Nat} (hsz : 206 ≤ sz) (f_190_1 : M 190 1 = 192) (f_191_6 : M 191 6 = 0) : Met l yX12_nextNight (gWsOf yX12_nextNight cX12_nextNight 7 (Option.some Jvm.ClassFile.FieldType.int)) { frames := 0, cells := 0, slots := 0, locals := 0 } (gPc n0 D cA [gA n0 190, gJ a, gJ b] M sz) (gQi n0 D cA sz (fun z M1 => M = M1 ∧ (z = -1))) 0 0 (fun q => n0 ≤ q) := by
  refine gMet_of [gA n0 190, gJ a, gJ b] (by decide) (Nat.le_of_ble_eq_true rfl) ?_
  intro p e s m args below meth cd X hr hm
  have X : gCx p s m args meth cd n0 D cA "ParishUnionModel" cX12_nextNight 7 := X
  show G p l e ({ frames := 0, cells := 0, slots := 0, locals := 0 } : Room) s m args below meth cd n0 D cA 7 (MQ below (gQi n0 D cA sz (fun z M1 => M = M1 ∧ (z = -1))) args s 0 0 (fun q => n0 ≤ q)) 0 0 M sz 0 [(0, gA n0 190), (1, gJ a), (2, gJ b)] []
  refine g_iconst (n := 1) X dX12_nextNight_0 rfl ?_
  refine g_istore_n (n := 2) (L' := [(3, gJ (-1)), (0, gA n0 190), (1, gJ a), (2, gJ b)]) X dX12_nextNight_1 rfl (by decide) rfl rfl ?_
  refine g_iconst (n := 3) X dX12_nextNight_2 rfl ?_
  refine g_istore (n := 5) (L' := [(4, gJ 0), (3, gJ (-1)), (0, gA n0 190), (1, gJ a), (2, gJ b)]) X dX12_nextNight_3 (by decide) rfl rfl ?_
  refine g_iload (n := 7) X 0 dX12_nextNight_5 rfl rfl ?_
  refine g_aload_n (n := 8) X 2 dX12_nextNight_7 rfl rfl rfl ?_
  refine gg_12_1 (n := 11) (z := 191) X (by omega) (by omega) lay_190 kw_6_27 dX12_nextNight_8 rfl f_190_1 (by omega) ?_
  refine g_bipush (n := 13) X dX12_nextNight_11 (by decide +kernel) rfl ?_
  refine g_iald (n := 14) X (by omega) (by omega) lay_191 (by omega) (by omega) (by omega) dX12_nextNight_13 rfl ?_
  rw [show M 191 6 = 0 from f_191_6]
  refine g_icmp_ge (n := 17) (tgt := 161) X dX12_nextNight_14 (by decide) (by omega) (by omega) rfl (fun c1 => ?_) (fun c1 => by exfalso; omega)
  refine g_iload_n (n := 162) X 1 dX12_nextNight_161 rfl rfl rfl ?_
  exact g_ireturn X hr dX12_nextNight_162 (by exact ⟨rfl, by omega⟩)
theorem dX12_isOne_0 : decode cX12_isOne 0 = .ok (.aload_n 0, 1) := by decide +kernel
theorem dX12_isOne_1 : decode cX12_isOne 1 = .ok (.iload_n 1, 1) := by decide +kernel
theorem dX12_isOne_2 : decode cX12_isOne 2 = .ok (.iconst (-1), 1) := by decide +kernel
theorem dX12_isOne_3 : decode cX12_isOne 3 = .ok (.invokevirtual 288, 3) := by decide +kernel
theorem kw_7_212 : (Jvm.Cond.methodLink "ParishUnionModel" (288 : Nat) ({ cls := "ParishUnionModel", name := "nextNight", desc := "(II)I" } : Jvm.MethodName)) ∈ gT := gT_of (tb_7 _ (List.mem_of_getElem? (i := 212) rfl)) rfl
theorem kw_7_215 : (Jvm.Cond.code ({ cls := "ParishUnionModel", name := "nextNight", desc := "(II)I" } : Jvm.MethodName) prog_14_method_87_code (7 : Nat) (Option.some Jvm.ClassFile.FieldType.int)) ∈ gT := gT_of (tb_7 _ (List.mem_of_getElem? (i := 215) rfl)) rfl
theorem okX12_nextNight : gQok yX12_nextNight cX12_nextNight 7 (Option.some Jvm.ClassFile.FieldType.int) 2 := ⟨kw_7_215, kw_1_13, by decide +kernel, by decide +kernel, by decide +kernel⟩
theorem kw_7_214 : (Jvm.Cond.instanceMethod ({ cls := "ParishUnionModel", name := "nextNight", desc := "(II)I" } : Jvm.MethodName)) ∈ gT := gT_of (tb_7 _ (List.mem_of_getElem? (i := 214) rfl)) rfl
theorem kw_0_86 : (Jvm.Cond.selects "ParishUnionModel" ({ cls := "ParishUnionModel", name := "nextNight", desc := "(II)I" } : Jvm.MethodName) ({ cls := "ParishUnionModel", name := "nextNight", desc := "(II)I" } : Jvm.MethodName)) ∈ gT := gT_of (tb_0 _ (List.mem_of_getElem? (i := 86) rfl)) rfl
theorem dX12_isOne_6 : decode cX12_isOne 6 = .ok (.istore_n 2, 1) := by decide +kernel
theorem dX12_isOne_7 : decode cX12_isOne 7 = .ok (.iconst 1, 1) := by decide +kernel
theorem dX12_isOne_8 : decode cX12_isOne 8 = .ok (.istore_n 3, 1) := by decide +kernel
theorem dX12_isOne_9 : decode cX12_isOne 9 = .ok (.iload_n 2, 1) := by decide +kernel
theorem dX12_isOne_10 : decode cX12_isOne 10 = .ok (.iconst (-1), 1) := by decide +kernel
theorem dX12_isOne_11 : decode cX12_isOne 11 = .ok (.if_icmp .eq 104, 3) := by decide +kernel
theorem dX12_isOne_115 : decode cX12_isOne 115 = .ok (.iload_n 3, 1) := by decide +kernel
theorem dX12_isOne_116 : decode cX12_isOne 116 = .ok (.ireturn, 1) := by decide +kernel
set_option maxRecDepth 100000 in
set_option maxHeartbeats 4000000 in
theorem c_X12_isOne {l : Launch} {n0 : Nat} {D : va_G} {cA : Nat → ClassId} {M : gM} (a : Int) (r_a : -2147483648 ≤ a ∧ a ≤ 2147483647) {sz : Nat} (hsz : 206 ≤ sz) (f_190_1 : M 190 1 = 192) (f_191_6 : M 191 6 = 0) : Met l yX12_isOne (gWsOf yX12_isOne cX12_isOne 6 (Option.some Jvm.ClassFile.FieldType.boolean)) { frames := 1, cells := 0, slots := 0, locals := 26 } (gPc n0 D cA [gA n0 190, gJ a] M sz) (gQi n0 D cA sz (fun z M1 => M = M1 ∧ (z = 1))) 0 0 (fun q => n0 ≤ q) := by
  refine gMet_of [gA n0 190, gJ a] (by decide) (Nat.le_of_ble_eq_true rfl) ?_
  intro p e s m args below meth cd X hr hm
  have X : gCx p s m args meth cd n0 D cA "ParishUnionModel" cX12_isOne 6 := X
  show G p l e ({ frames := 1, cells := 0, slots := 0, locals := 26 } : Room) s m args below meth cd n0 D cA 6 (MQ below (gQi n0 D cA sz (fun z M1 => M = M1 ∧ (z = 1))) args s 0 0 (fun q => n0 ≤ q)) 0 0 M sz 0 [(0, gA n0 190), (1, gJ a)] []
  refine g_aload_n (n := 1) X 0 dX12_isOne_0 rfl rfl rfl ?_
  refine g_iload_n (n := 2) X 1 dX12_isOne_1 rfl rfl rfl ?_
  refine g_iconst (n := 3) X dX12_isOne_2 rfl ?_
  refine g_callVi (n := 6) (As := [gJ a, gJ (-1)]) (rest := []) (cs1 := 0) (ss1 := 0) X (c_X12_nextNight a (-1) (by omega) (by omega) (by omega) f_190_1 f_191_6) okX12_nextNight kw_7_212 ⟨kw_7_214, kw_0_86⟩ ⟨rfl, rfl⟩ ⟨Nat.le_of_ble_eq_true rfl, Nat.le_of_ble_eq_true rfl⟩ rfl (by omega) (by omega) lay_190 rfl rfl (Nat.le_of_ble_eq_true rfl) ⟨Nat.le_of_ble_eq_true rfl, Nat.le_of_ble_eq_true rfl⟩ rfl rfl dX12_isOne_3 rfl (fun z1 M2 P3 => ?_)
  obtain ⟨rfl, rfl⟩ := P3
  refine g_istore_n (n := 7) (L' := [(2, gJ (-1)), (0, gA n0 190), (1, gJ a)]) X dX12_isOne_6 rfl (by decide) rfl rfl ?_
  refine g_iconst (n := 8) X dX12_isOne_7 rfl ?_
  refine g_istore_n (n := 9) (L' := [(3, gJ 1), (2, gJ (-1)), (0, gA n0 190), (1, gJ a)]) X dX12_isOne_8 rfl (by decide) rfl rfl ?_
  refine g_iload_n (n := 10) X 1 dX12_isOne_9 rfl rfl rfl ?_
  refine g_iconst (n := 11) X dX12_isOne_10 rfl ?_
  refine g_icmp_eq (n := 14) (tgt := 115) X dX12_isOne_11 (by decide) (by omega) (by omega) rfl (fun c4 => ?_) (fun c4 => by exfalso; omega)
  refine g_iload_n (n := 116) X 0 dX12_isOne_115 rfl rfl rfl ?_
  exact g_zreturn X (by omega) hr dX12_isOne_116 (by exact ⟨rfl, by omega⟩)
theorem dX12_one_0 : decode cX12_one 0 = .ok (.iload_n 1, 1) := by decide +kernel
theorem dX12_one_1 : decode cX12_one 1 = .ok (.iconst 0, 1) := by decide +kernel
theorem dX12_one_2 : decode cX12_one 2 = .ok (.sipush 255, 3) := by decide +kernel
theorem dX12_one_5 : decode cX12_one 5 = .ok (.invokestatic 64, 3) := by decide +kernel
theorem dX12_one_8 : decode cX12_one 8 = .ok (.ifCond .ne 8, 3) := by decide +kernel
theorem dX12_one_16 : decode cX12_one 16 = .ok (.aload_n 0, 1) := by decide +kernel
theorem dX12_one_17 : decode cX12_one 17 = .ok (.iload_n 1, 1) := by decide +kernel
theorem dX12_one_18 : decode cX12_one 18 = .ok (.invokevirtual 291, 3) := by decide +kernel
theorem kw_7_208 : (Jvm.Cond.methodLink "ParishUnionModel" (291 : Nat) ({ cls := "ParishUnionModel", name := "isOne", desc := "(I)Z" } : Jvm.MethodName)) ∈ gT := gT_of (tb_7 _ (List.mem_of_getElem? (i := 208) rfl)) rfl
theorem kw_7_211 : (Jvm.Cond.code ({ cls := "ParishUnionModel", name := "isOne", desc := "(I)Z" } : Jvm.MethodName) prog_14_method_88_code (6 : Nat) (Option.some Jvm.ClassFile.FieldType.boolean)) ∈ gT := gT_of (tb_7 _ (List.mem_of_getElem? (i := 211) rfl)) rfl
theorem okX12_isOne : gQok yX12_isOne cX12_isOne 6 (Option.some Jvm.ClassFile.FieldType.boolean) 1 := ⟨kw_7_211, kw_1_13, by decide +kernel, by decide +kernel, by decide +kernel⟩
theorem kw_7_210 : (Jvm.Cond.instanceMethod ({ cls := "ParishUnionModel", name := "isOne", desc := "(I)Z" } : Jvm.MethodName)) ∈ gT := gT_of (tb_7 _ (List.mem_of_getElem? (i := 210) rfl)) rfl
theorem kw_0_85 : (Jvm.Cond.selects "ParishUnionModel" ({ cls := "ParishUnionModel", name := "isOne", desc := "(I)Z" } : Jvm.MethodName) ({ cls := "ParishUnionModel", name := "isOne", desc := "(I)Z" } : Jvm.MethodName)) ∈ gT := gT_of (tb_0 _ (List.mem_of_getElem? (i := 85) rfl)) rfl
theorem dX12_one_21 : decode cX12_one 21 = .ok (.ifCond .eq 7, 3) := by decide +kernel
theorem dX12_one_24 : decode cX12_one 24 = .ok (.iconst 1, 1) := by decide +kernel
theorem dX12_one_25 : decode cX12_one 25 = .ok (.goto 4, 3) := by decide +kernel
theorem dX12_one_29 : decode cX12_one 29 = .ok (.ireturn, 1) := by decide +kernel
theorem dX12_one_11 : decode cX12_one 11 = .ok (.bipush (-2), 2) := by decide +kernel
theorem dX12_one_13 : decode cX12_one 13 = .ok (.goto 16, 3) := by decide +kernel
set_option maxRecDepth 100000 in
set_option maxHeartbeats 4000000 in
theorem c_X12_one {l : Launch} {n0 : Nat} {D : va_G} {cA : Nat → ClassId} {M : gM} (a : Int) (r_a : -2147483648 ≤ a ∧ a ≤ 2147483647) {sz : Nat} (hsz : 206 ≤ sz) (f_190_1 : M 190 1 = 192) (f_191_6 : M 191 6 = 0) : Met l yX12_one (gWsOf yX12_one cX12_one 2 (Option.some Jvm.ClassFile.FieldType.int)) { frames := 2, cells := 0, slots := 0, locals := 51 } (gPc n0 D cA [gA n0 190, gJ a] M sz) (gQi n0 D cA sz (fun z M1 => (((¬(0 ≤ a ∧ a ≤ 255)) → z = -2) ∧ (¬(¬(0 ≤ a ∧ a ≤ 255)) → (z = 1))) ∧ ∀ a : Int, M1 a = M a)) 0 0 (fun q => n0 ≤ q) := by
  refine gMet_of [gA n0 190, gJ a] (by decide) (Nat.le_of_ble_eq_true rfl) ?_
  intro p e s m args below meth cd X hr hm
  have X : gCx p s m args meth cd n0 D cA "ParishUnionModel" cX12_one 2 := X
  show G p l e ({ frames := 2, cells := 0, slots := 0, locals := 51 } : Room) s m args below meth cd n0 D cA 2 (MQ below (gQi n0 D cA sz (fun z M1 => (((¬(0 ≤ a ∧ a ≤ 255)) → z = -2) ∧ (¬(¬(0 ≤ a ∧ a ≤ 255)) → (z = 1))) ∧ ∀ a : Int, M1 a = M a)) args s 0 0 (fun q => n0 ≤ q)) 0 0 M sz 0 [(0, gA n0 190), (1, gJ a)] []
  refine g_iload_n (n := 1) X 1 dX12_one_0 rfl rfl rfl ?_
  refine g_iconst (n := 2) X dX12_one_1 rfl ?_
  refine g_sipush (n := 5) X dX12_one_2 (by decide +kernel) rfl ?_
  refine g_callSi (n := 8) (As := [gJ a, gJ 0, gJ 255]) (rest := []) (cs1 := 0) (ss1 := 0) X (c_X12_in a 0 255 (by omega) (by omega) (by omega) (by omega)) okX12_in kw_6_106 kw_6_107 ⟨rfl, rfl⟩ ⟨Nat.le_of_ble_eq_true rfl, Nat.le_of_ble_eq_true rfl⟩ rfl rfl (Nat.le_of_ble_eq_true rfl) ⟨Nat.le_of_ble_eq_true rfl, Nat.le_of_ble_eq_true rfl⟩ rfl rfl dX12_one_5 rfl (fun z1 M2 P3 => ?_)
  obtain ⟨rfl, P3⟩ := P3
  refine g_if_ne (n := 11) (tgt := 16) X dX12_one_8 (by decide) (by omega) rfl (fun c4 => ?_) (fun c4 => ?_)
  · refine g_aload_n (n := 17) X 0 dX12_one_16 rfl rfl rfl ?_
    refine g_iload_n (n := 18) X 1 dX12_one_17 rfl rfl rfl ?_
    refine g_callVi (n := 21) (As := [gJ a]) (rest := []) (cs1 := 0) (ss1 := 0) X (c_X12_isOne a (by omega) (by omega) f_190_1 f_191_6) okX12_isOne kw_7_208 ⟨kw_7_210, kw_0_85⟩ ⟨rfl, rfl⟩ ⟨Nat.le_of_ble_eq_true rfl, Nat.le_of_ble_eq_true rfl⟩ rfl (by omega) (by omega) lay_190 rfl rfl (Nat.le_of_ble_eq_true rfl) ⟨Nat.le_of_ble_eq_true rfl, Nat.le_of_ble_eq_true rfl⟩ rfl rfl dX12_one_18 rfl (fun z5 M6 P7 => ?_)
    obtain ⟨rfl, rfl⟩ := P7
    refine g_if_eq (n := 24) (tgt := 28) X dX12_one_21 (by decide) (by omega) rfl (fun c8 => by exfalso; omega) (fun c8 => ?_)
    refine g_iconst (n := 25) X dX12_one_24 rfl ?_
    refine g_goto (tgt := 29) X dX12_one_25 (by decide) ?_
    exact g_ireturn X hr dX12_one_29 (by exact ⟨by omega, fun a  => rfl⟩)
  · refine g_bipush (n := 13) X dX12_one_11 (by decide +kernel) rfl ?_
    refine g_goto (tgt := 29) X dX12_one_13 (by decide) ?_
    exact g_ireturn X hr dX12_one_29 (by exact ⟨by omega, fun a  => rfl⟩)
theorem dX12_night_0 : decode cX12_night 0 = .ok (.iload_n 2, 1) := by decide +kernel
theorem dX12_night_1 : decode cX12_night 1 = .ok (.invokestatic 68, 3) := by decide +kernel
theorem dX12_night_4 : decode cX12_night 4 = .ok (.ifCond .ne 5, 3) := by decide +kernel
theorem dX12_night_9 : decode cX12_night 9 = .ok (.iload_n 1, 1) := by decide +kernel
theorem dX12_night_10 : decode cX12_night 10 = .ok (.iconst 0, 1) := by decide +kernel
theorem dX12_night_11 : decode cX12_night 11 = .ok (.bipush 7, 2) := by decide +kernel
theorem dX12_night_13 : decode cX12_night 13 = .ok (.invokestatic 64, 3) := by decide +kernel
theorem dX12_night_16 : decode cX12_night 16 = .ok (.ifCond .eq 10, 3) := by decide +kernel
theorem dX12_night_26 : decode cX12_night 26 = .ok (.bipush (-2), 2) := by decide +kernel
theorem dX12_night_28 : decode cX12_night 28 = .ok (.ireturn, 1) := by decide +kernel
theorem dX12_night_19 : decode cX12_night 19 = .ok (.iload_n 3, 1) := by decide +kernel
theorem dX12_night_20 : decode cX12_night 20 = .ok (.invokestatic 220, 3) := by decide +kernel
theorem dX12_night_23 : decode cX12_night 23 = .ok (.ifCond .ne 6, 3) := by decide +kernel
theorem dX12_night_29 : decode cX12_night 29 = .ok (.aload_n 0, 1) := by decide +kernel
theorem dX12_night_30 : decode cX12_night 30 = .ok (.getfield 7, 3) := by decide +kernel
theorem dX12_night_33 : decode cX12_night 33 = .ok (.bipush 6, 2) := by decide +kernel
theorem dX12_night_35 : decode cX12_night 35 = .ok (.iaload, 1) := by decide +kernel
theorem dX12_night_36 : decode cX12_night 36 = .ok (.bipush 40, 2) := by decide +kernel
theorem dX12_night_38 : decode cX12_night 38 = .ok (.if_icmp .ne 6, 3) := by decide +kernel
theorem dX12_night_44 : decode cX12_night 44 = .ok (.aload_n 0, 1) := by decide +kernel
theorem dX12_night_45 : decode cX12_night 45 = .ok (.getfield 7, 3) := by decide +kernel
theorem dX12_night_48 : decode cX12_night 48 = .ok (.bipush 6, 2) := by decide +kernel
theorem dX12_night_50 : decode cX12_night 50 = .ok (.iaload, 1) := by decide +kernel
theorem dX12_night_51 : decode cX12_night 51 = .ok (.istore 4, 2) := by decide +kernel
theorem dX12_night_53 : decode cX12_night 53 = .ok (.aload_n 0, 1) := by decide +kernel
theorem dX12_night_54 : decode cX12_night 54 = .ok (.getfield 7, 3) := by decide +kernel
theorem dX12_night_57 : decode cX12_night 57 = .ok (.sipush 2440, 3) := by decide +kernel
theorem dX12_night_60 : decode cX12_night 60 = .ok (.iload 4, 2) := by decide +kernel
theorem dX12_night_62 : decode cX12_night 62 = .ok (.iadd, 1) := by decide +kernel
theorem dX12_night_63 : decode cX12_night 63 = .ok (.iload_n 1, 1) := by decide +kernel
theorem dX12_night_64 : decode cX12_night 64 = .ok (.iastore, 1) := by decide +kernel
theorem dX12_night_65 : decode cX12_night 65 = .ok (.aload_n 0, 1) := by decide +kernel
theorem dX12_night_66 : decode cX12_night 66 = .ok (.getfield 7, 3) := by decide +kernel
theorem dX12_night_69 : decode cX12_night 69 = .ok (.sipush 2480, 3) := by decide +kernel
theorem dX12_night_72 : decode cX12_night 72 = .ok (.iload 4, 2) := by decide +kernel
theorem dX12_night_74 : decode cX12_night 74 = .ok (.iadd, 1) := by decide +kernel
theorem dX12_night_75 : decode cX12_night 75 = .ok (.iload_n 2, 1) := by decide +kernel
theorem dX12_night_76 : decode cX12_night 76 = .ok (.iastore, 1) := by decide +kernel
theorem dX12_night_77 : decode cX12_night 77 = .ok (.aload_n 0, 1) := by decide +kernel
theorem dX12_night_78 : decode cX12_night 78 = .ok (.getfield 7, 3) := by decide +kernel
theorem dX12_night_81 : decode cX12_night 81 = .ok (.sipush 2520, 3) := by decide +kernel
theorem dX12_night_84 : decode cX12_night 84 = .ok (.iload 4, 2) := by decide +kernel
theorem dX12_night_86 : decode cX12_night 86 = .ok (.iadd, 1) := by decide +kernel
theorem dX12_night_87 : decode cX12_night 87 = .ok (.iload_n 3, 1) := by decide +kernel
theorem dX12_night_88 : decode cX12_night 88 = .ok (.iastore, 1) := by decide +kernel
theorem dX12_night_89 : decode cX12_night 89 = .ok (.aload_n 0, 1) := by decide +kernel
theorem dX12_night_90 : decode cX12_night 90 = .ok (.getfield 7, 3) := by decide +kernel
theorem dX12_night_93 : decode cX12_night 93 = .ok (.bipush 6, 2) := by decide +kernel
theorem dX12_night_95 : decode cX12_night 95 = .ok (.dup2, 1) := by decide +kernel
theorem dX12_night_96 : decode cX12_night 96 = .ok (.iaload, 1) := by decide +kernel
theorem dX12_night_97 : decode cX12_night 97 = .ok (.iconst 1, 1) := by decide +kernel
theorem dX12_night_98 : decode cX12_night 98 = .ok (.iadd, 1) := by decide +kernel
theorem dX12_night_99 : decode cX12_night 99 = .ok (.iastore, 1) := by decide +kernel
theorem dX12_night_100 : decode cX12_night 100 = .ok (.aload_n 0, 1) := by decide +kernel
theorem dX12_night_101 : decode cX12_night 101 = .ok (.getfield 7, 3) := by decide +kernel
theorem dX12_night_104 : decode cX12_night 104 = .ok (.bipush 6, 2) := by decide +kernel
theorem dX12_night_106 : decode cX12_night 106 = .ok (.iaload, 1) := by decide +kernel
theorem dX12_night_107 : decode cX12_night 107 = .ok (.ireturn, 1) := by decide +kernel
theorem dX12_night_7 : decode cX12_night 7 = .ok (.iconst (-1), 1) := by decide +kernel
theorem dX12_night_8 : decode cX12_night 8 = .ok (.ireturn, 1) := by decide +kernel
set_option maxRecDepth 100000 in
set_option maxHeartbeats 4000000 in
theorem c_X12_night {l : Launch} {n0 : Nat} {D : va_G} {cA : Nat → ClassId} {M : gM} (a b g : Int) (r_a : -2147483648 ≤ a ∧ a ≤ 2147483647) (r_b : -2147483648 ≤ b ∧ b ≤ 2147483647) (r_g : -2147483648 ≤ g ∧ g ≤ 2147483647) {sz : Nat} (hsz : 206 ≤ sz) (f_190_1 : M 190 1 = 192) (f_191_6 : M 191 6 = 0) : Met l yX12_night (gWsOf yX12_night cX12_night 5 (Option.some Jvm.ClassFile.FieldType.int)) { frames := 2, cells := 0, slots := 0, locals := 42 } (gPc n0 D cA [gA n0 190, gJ a, gJ b, gJ g] M sz) (gQi n0 D cA sz (fun z M1 => (((¬(0 ≤ b ∧ b ≤ 5)) → z = -1) ∧ (¬(¬(0 ≤ b ∧ b ≤ 5)) → (¬(0 ≤ a ∧ a ≤ 7) ∨ ¬(0 ≤ g ∧ g ≤ 300)) → z = -2) ∧ (¬(¬(0 ≤ b ∧ b ≤ 5)) → ¬(¬(0 ≤ a ∧ a ≤ 7) ∨ ¬(0 ≤ g ∧ g ≤ 300)) → (z = 1))) ∧ ∀ a : Int, a ≠ 191 → M1 a = M a)) 0 0 (fun q => n0 ≤ q) := by
  refine gMet_of [gA n0 190, gJ a, gJ b, gJ g] (by decide) (Nat.le_of_ble_eq_true rfl) ?_
  intro p e s m args below meth cd X hr hm
  have X : gCx p s m args meth cd n0 D cA "ParishUnionModel" cX12_night 5 := X
  show G p l e ({ frames := 2, cells := 0, slots := 0, locals := 42 } : Room) s m args below meth cd n0 D cA 5 (MQ below (gQi n0 D cA sz (fun z M1 => (((¬(0 ≤ b ∧ b ≤ 5)) → z = -1) ∧ (¬(¬(0 ≤ b ∧ b ≤ 5)) → (¬(0 ≤ a ∧ a ≤ 7) ∨ ¬(0 ≤ g ∧ g ≤ 300)) → z = -2) ∧ (¬(¬(0 ≤ b ∧ b ≤ 5)) → ¬(¬(0 ≤ a ∧ a ≤ 7) ∨ ¬(0 ≤ g ∧ g ≤ 300)) → (z = 1))) ∧ ∀ a : Int, a ≠ 191 → M1 a = M a)) args s 0 0 (fun q => n0 ≤ q)) 0 0 M sz 0 [(0, gA n0 190), (1, gJ a), (2, gJ b), (3, gJ g)] []
  refine g_iload_n (n := 1) X 2 dX12_night_0 rfl rfl rfl ?_
  refine g_callSi (n := 4) (As := [gJ b]) (rest := []) (cs1 := 0) (ss1 := 0) X (c_X12_isParish b (by omega) (by omega)) okX12_isParish kw_6_103 kw_6_104 ⟨rfl, rfl⟩ ⟨Nat.le_of_ble_eq_true rfl, Nat.le_of_ble_eq_true rfl⟩ rfl rfl (Nat.le_of_ble_eq_true rfl) ⟨Nat.le_of_ble_eq_true rfl, Nat.le_of_ble_eq_true rfl⟩ rfl rfl dX12_night_1 rfl (fun z1 M2 P3 => ?_)
  obtain ⟨rfl, P3⟩ := P3
  refine g_if_ne (n := 7) (tgt := 9) X dX12_night_4 (by decide) (by omega) rfl (fun c4 => ?_) (fun c4 => ?_)
  · refine g_iload_n (n := 10) X 1 dX12_night_9 rfl rfl rfl ?_
    refine g_iconst (n := 11) X dX12_night_10 rfl ?_
    refine g_bipush (n := 13) X dX12_night_11 (by decide +kernel) rfl ?_
    refine g_callSi (n := 16) (As := [gJ a, gJ 0, gJ 7]) (rest := []) (cs1 := 0) (ss1 := 0) X (c_X12_in a 0 7 (by omega) (by omega) (by omega) (by omega)) okX12_in kw_6_106 kw_6_107 ⟨rfl, rfl⟩ ⟨Nat.le_of_ble_eq_true rfl, Nat.le_of_ble_eq_true rfl⟩ rfl rfl (Nat.le_of_ble_eq_true rfl) ⟨Nat.le_of_ble_eq_true rfl, Nat.le_of_ble_eq_true rfl⟩ rfl rfl dX12_night_13 rfl (fun z5 M6 P7 => ?_)
    obtain ⟨rfl, P7⟩ := P7
    refine g_if_eq (n := 19) (tgt := 26) X dX12_night_16 (by decide) (by omega) rfl (fun c8 => ?_) (fun c8 => ?_)
    · refine g_bipush (n := 28) X dX12_night_26 (by decide +kernel) rfl ?_
      exact g_ireturn X hr dX12_night_28 (by exact ⟨by omega, fun a h0 => rfl⟩)
    · refine g_iload_n (n := 20) X 3 dX12_night_19 rfl rfl rfl ?_
      refine g_callSi (n := 23) (As := [gJ g]) (rest := []) (cs1 := 0) (ss1 := 0) X (c_X12_isWeek g (by omega) (by omega)) okX12_isWeek kw_6_236 kw_6_237 ⟨rfl, rfl⟩ ⟨Nat.le_of_ble_eq_true rfl, Nat.le_of_ble_eq_true rfl⟩ rfl rfl (Nat.le_of_ble_eq_true rfl) ⟨Nat.le_of_ble_eq_true rfl, Nat.le_of_ble_eq_true rfl⟩ rfl rfl dX12_night_20 rfl (fun z9 M10 P11 => ?_)
      obtain ⟨rfl, P11⟩ := P11
      refine g_if_ne (n := 26) (tgt := 29) X dX12_night_23 (by decide) (by omega) rfl (fun c12 => ?_) (fun c12 => ?_)
      · refine g_aload_n (n := 30) X 0 dX12_night_29 rfl rfl rfl ?_
        refine gg_12_1 (n := 33) (z := 191) X (by omega) (by omega) lay_190 kw_6_27 dX12_night_30 rfl f_190_1 (by omega) ?_
        refine g_bipush (n := 35) X dX12_night_33 (by decide +kernel) rfl ?_
        refine g_iald (n := 36) X (by omega) (by omega) lay_191 (by omega) (by omega) (by omega) dX12_night_35 rfl ?_
        rw [show M 191 6 = 0 from f_191_6]
        refine g_bipush (n := 38) X dX12_night_36 (by decide +kernel) rfl ?_
        refine g_icmp_ne (n := 41) (tgt := 44) X dX12_night_38 (by decide) (by omega) (by omega) rfl (fun c13 => ?_) (fun c13 => by exfalso; omega)
        refine g_aload_n (n := 45) X 0 dX12_night_44 rfl rfl rfl ?_
        refine gg_12_1 (n := 48) (z := 191) X (by omega) (by omega) lay_190 kw_6_27 dX12_night_45 rfl f_190_1 (by omega) ?_
        refine g_bipush (n := 50) X dX12_night_48 (by decide +kernel) rfl ?_
        refine g_iald (n := 51) X (by omega) (by omega) lay_191 (by omega) (by omega) (by omega) dX12_night_50 rfl ?_
        rw [show M 191 6 = 0 from f_191_6]
        refine g_istore (n := 53) (L' := [(4, gJ 0), (0, gA n0 190), (1, gJ a), (2, gJ b), (3, gJ g)]) X dX12_night_51 (by decide) rfl rfl ?_
        refine g_aload_n (n := 54) X 1 dX12_night_53 rfl rfl rfl ?_
        refine gg_12_1 (n := 57) (z := 191) X (by omega) (by omega) lay_190 kw_6_27 dX12_night_54 rfl f_190_1 (by omega) ?_
        refine g_sipush (n := 60) X dX12_night_57 (by decide +kernel) rfl ?_
        refine g_iload (n := 62) X 0 dX12_night_60 rfl rfl ?_
        refine g_iadd (n := 63) (z := 2440) X dX12_night_62 rfl rfl ?_
        refine g_iload_n (n := 64) X 2 dX12_night_63 rfl rfl rfl ?_
        refine g_iast (n := 65) X (by omega) (by omega) lay_191 (by omega) (by omega) (by omega) dX12_night_64 rfl ?_
        refine G.nm (fun M14 e15 => ?_)
        refine g_aload_n (n := 66) X 1 dX12_night_65 rfl rfl rfl ?_
        refine gg_12_1 (n := 69) (z := 191) X (by omega) (by omega) lay_190 kw_6_27 dX12_night_66 rfl ((congrFun (congrFun e15 _) _).trans ((gset_ne (by omega)).trans f_190_1)) (by omega) ?_
        refine g_sipush (n := 72) X dX12_night_69 (by decide +kernel) rfl ?_
        refine g_iload (n := 74) X 0 dX12_night_72 rfl rfl ?_
        refine g_iadd (n := 75) (z := 2480) X dX12_night_74 rfl rfl ?_
        refine g_iload_n (n := 76) X 3 dX12_night_75 rfl rfl rfl ?_
        refine g_iast (n := 77) X (by omega) (by omega) lay_191 (by omega) (by omega) (by omega) dX12_night_76 rfl ?_
        refine G.nm (fun M16 e17 => ?_)
        refine g_aload_n (n := 78) X 1 dX12_night_77 rfl rfl rfl ?_
        refine gg_12_1 (n := 81) (z := 191) X (by omega) (by omega) lay_190 kw_6_27 dX12_night_78 rfl ((congrFun (congrFun e17 _) _).trans ((gset_ne (by omega)).trans ((congrFun (congrFun e15 _) _).trans ((gset_ne (by omega)).trans f_190_1)))) (by omega) ?_
        refine g_sipush (n := 84) X dX12_night_81 (by decide +kernel) rfl ?_
        refine g_iload (n := 86) X 0 dX12_night_84 rfl rfl ?_
        refine g_iadd (n := 87) (z := 2520) X dX12_night_86 rfl rfl ?_
        refine g_iload_n (n := 88) X 4 dX12_night_87 rfl rfl rfl ?_
        refine g_iast (n := 89) X (by omega) (by omega) lay_191 (by omega) (by omega) (by omega) dX12_night_88 rfl ?_
        refine G.nm (fun M18 e19 => ?_)
        refine g_aload_n (n := 90) X 1 dX12_night_89 rfl rfl rfl ?_
        refine gg_12_1 (n := 93) (z := 191) X (by omega) (by omega) lay_190 kw_6_27 dX12_night_90 rfl ((congrFun (congrFun e19 _) _).trans ((gset_ne (by omega)).trans ((congrFun (congrFun e17 _) _).trans ((gset_ne (by omega)).trans ((congrFun (congrFun e15 _) _).trans ((gset_ne (by omega)).trans f_190_1)))))) (by omega) ?_
        refine g_bipush (n := 95) X dX12_night_93 (by decide +kernel) rfl ?_
        refine g_dup2 (n := 96) X dX12_night_95 rfl rfl rfl ?_
        refine g_iald (n := 97) X (by omega) (by omega) lay_191 (by omega) (by omega) (by omega) dX12_night_96 rfl ?_
        rw [show M18 191 6 = 0 from ((congrFun (congrFun e19 _) _).trans ((gset_ne (by omega)).trans ((congrFun (congrFun e17 _) _).trans ((gset_ne (by omega)).trans ((congrFun (congrFun e15 _) _).trans ((gset_ne (by omega)).trans f_191_6))))))]
        refine g_iconst (n := 98) X dX12_night_97 rfl ?_
        refine g_iadd (n := 99) (z := 1) X dX12_night_98 rfl rfl ?_
        refine g_iast (n := 100) X (by omega) (by omega) lay_191 (by omega) (by omega) (by omega) dX12_night_99 rfl ?_
        refine G.nm (fun M20 e21 => ?_)
        refine g_aload_n (n := 101) X 1 dX12_night_100 rfl rfl rfl ?_
        refine gg_12_1 (n := 104) (z := 191) X (by omega) (by omega) lay_190 kw_6_27 dX12_night_101 rfl ((congrFun (congrFun e21 _) _).trans ((gset_ne (by omega)).trans ((congrFun (congrFun e19 _) _).trans ((gset_ne (by omega)).trans ((congrFun (congrFun e17 _) _).trans ((gset_ne (by omega)).trans ((congrFun (congrFun e15 _) _).trans ((gset_ne (by omega)).trans f_190_1)))))))) (by omega) ?_
        refine g_bipush (n := 106) X dX12_night_104 (by decide +kernel) rfl ?_
        refine g_iald (n := 107) X (by omega) (by omega) lay_191 (by omega) (by omega) (by omega) dX12_night_106 rfl ?_
        rw [show M20 191 6 = 1 from ((congrFun (congrFun e21 _) _).trans (gset_eq _ _ _ _))]
        exact g_ireturn X hr dX12_night_107 (by exact ⟨by omega, fun a h0 => ((congrFun e21 a).trans ((gset_off a (by omega)).trans ((congrFun e19 a).trans ((gset_off a (by omega)).trans ((congrFun e17 a).trans ((gset_off a (by omega)).trans ((congrFun e15 a).trans ((gset_off a (by omega)).trans rfl))))))))⟩)
      · refine g_bipush (n := 28) X dX12_night_26 (by decide +kernel) rfl ?_
        exact g_ireturn X hr dX12_night_28 (by exact ⟨by omega, fun a h0 => rfl⟩)
  · refine g_iconst (n := 8) X dX12_night_7 rfl ?_
    exact g_ireturn X hr dX12_night_8 (by exact ⟨by omega, fun a h0 => rfl⟩)
theorem dX12_greatest_0 : decode cX12_greatest 0 = .ok (.iconst 0, 1) := by decide +kernel
theorem dX12_greatest_1 : decode cX12_greatest 1 = .ok (.istore_n 1, 1) := by decide +kernel
theorem dX12_greatest_2 : decode cX12_greatest 2 = .ok (.iconst 0, 1) := by decide +kernel
theorem dX12_greatest_3 : decode cX12_greatest 3 = .ok (.istore_n 2, 1) := by decide +kernel
theorem dX12_greatest_4 : decode cX12_greatest 4 = .ok (.iload_n 2, 1) := by decide +kernel
theorem dX12_greatest_5 : decode cX12_greatest 5 = .ok (.aload_n 0, 1) := by decide +kernel
theorem dX12_greatest_6 : decode cX12_greatest 6 = .ok (.getfield 7, 3) := by decide +kernel
theorem dX12_greatest_9 : decode cX12_greatest 9 = .ok (.bipush 6, 2) := by decide +kernel
theorem dX12_greatest_11 : decode cX12_greatest 11 = .ok (.iaload, 1) := by decide +kernel
theorem dX12_greatest_12 : decode cX12_greatest 12 = .ok (.if_icmp .ge 24, 3) := by decide +kernel
theorem dX12_greatest_36 : decode cX12_greatest 36 = .ok (.iconst 0, 1) := by decide +kernel
theorem dX12_greatest_37 : decode cX12_greatest 37 = .ok (.istore_n 2, 1) := by decide +kernel
theorem dX12_greatest_38 : decode cX12_greatest 38 = .ok (.iconst 1, 1) := by decide +kernel
theorem dX12_greatest_39 : decode cX12_greatest 39 = .ok (.istore_n 3, 1) := by decide +kernel
theorem dX12_greatest_40 : decode cX12_greatest 40 = .ok (.iload_n 3, 1) := by decide +kernel
theorem dX12_greatest_41 : decode cX12_greatest 41 = .ok (.sipush 256, 3) := by decide +kernel
theorem dX12_greatest_44 : decode cX12_greatest 44 = .ok (.if_icmp .ge 62, 3) := by decide +kernel
theorem dX12_greatest_106 : decode cX12_greatest 106 = .ok (.iload_n 2, 1) := by decide +kernel
theorem dX12_greatest_107 : decode cX12_greatest 107 = .ok (.ireturn, 1) := by decide +kernel
theorem dX12_greatest_47 : decode cX12_greatest 47 = .ok (.iload_n 3, 1) := by decide +kernel
theorem dX12_greatest_48 : decode cX12_greatest 48 = .ok (.iload_n 1, 1) := by decide +kernel
theorem dX12_greatest_49 : decode cX12_greatest 49 = .ok (.iconst (-1), 1) := by decide +kernel
theorem dX12_greatest_50 : decode cX12_greatest 50 = .ok (.ixor, 1) := by decide +kernel
theorem dX12_greatest_51 : decode cX12_greatest 51 = .ok (.iand, 1) := by decide +kernel
theorem dX12_greatest_52 : decode cX12_greatest 52 = .ok (.ifCond .ne 26, 3) := by decide +kernel
theorem dX12_greatest_78 : decode cX12_greatest 78 = .ok (.iconst 0, 1) := by decide +kernel
theorem dX12_greatest_79 : decode cX12_greatest 79 = .ok (.istore 4, 2) := by decide +kernel
theorem dX12_greatest_81 : decode cX12_greatest 81 = .ok (.iload 4, 2) := by decide +kernel
theorem dX12_greatest_83 : decode cX12_greatest 83 = .ok (.ifCond .eq 15, 3) := by decide +kernel
theorem dX12_greatest_98 : decode cX12_greatest 98 = .ok (.iload_n 2, 1) := by decide +kernel
theorem dX12_greatest_99 : decode cX12_greatest 99 = .ok (.istore_n 2, 1) := by decide +kernel
theorem dX12_greatest_100 : decode cX12_greatest 100 = .ok (.iinc 3 1, 3) := by decide +kernel
theorem dX12_greatest_103 : decode cX12_greatest 103 = .ok (.goto (-63), 3) := by decide +kernel
set_option maxRecDepth 100000 in
set_option maxHeartbeats 4000000 in
theorem c_X12_greatest {l : Launch} {n0 : Nat} {D : va_G} {cA : Nat → ClassId} {M : gM}  {sz : Nat} (hsz : 206 ≤ sz) (f_190_1 : M 190 1 = 192) (f_191_6 : M 191 6 = 0) : Met l yX12_greatest (gWsOf yX12_greatest cX12_greatest 5 (Option.some Jvm.ClassFile.FieldType.int)) { frames := 2, cells := 0, slots := 0, locals := 51 } (gPc n0 D cA [gA n0 190] M sz) (gQi n0 D cA sz (fun z M1 => (z = 0) ∧ ∀ a : Int, M1 a = M a)) 0 0 (fun q => n0 ≤ q) := by
  refine gMet_of [gA n0 190] (by decide) (Nat.le_of_ble_eq_true rfl) ?_
  intro p e s m args below meth cd X hr hm
  have X : gCx p s m args meth cd n0 D cA "ParishUnionModel" cX12_greatest 5 := X
  show G p l e ({ frames := 2, cells := 0, slots := 0, locals := 51 } : Room) s m args below meth cd n0 D cA 5 (MQ below (gQi n0 D cA sz (fun z M1 => (z = 0) ∧ ∀ a : Int, M1 a = M a)) args s 0 0 (fun q => n0 ≤ q)) 0 0 M sz 0 [(0, gA n0 190)] []
  refine g_iconst (n := 1) X dX12_greatest_0 rfl ?_
  refine g_istore_n (n := 2) (L' := [(1, gJ 0), (0, gA n0 190)]) X dX12_greatest_1 rfl (by decide) rfl rfl ?_
  refine g_iconst (n := 3) X dX12_greatest_2 rfl ?_
  refine g_istore_n (n := 4) (L' := [(2, gJ 0), (1, gJ 0), (0, gA n0 190)]) X dX12_greatest_3 rfl (by decide) rfl rfl ?_
  refine g_iload_n (n := 5) X 0 dX12_greatest_4 rfl rfl rfl ?_
  refine g_aload_n (n := 6) X 2 dX12_greatest_5 rfl rfl rfl ?_
  refine gg_12_1 (n := 9) (z := 191) X (by omega) (by omega) lay_190 kw_6_27 dX12_greatest_6 rfl f_190_1 (by omega) ?_
  refine g_bipush (n := 11) X dX12_greatest_9 (by decide +kernel) rfl ?_
  refine g_iald (n := 12) X (by omega) (by omega) lay_191 (by omega) (by omega) (by omega) dX12_greatest_11 rfl ?_
  rw [show M 191 6 = 0 from f_191_6]
  refine g_icmp_ge (n := 15) (tgt := 36) X dX12_greatest_12 (by decide) (by omega) (by omega) rfl (fun c1 => ?_) (fun c1 => by exfalso; omega)
  refine g_iconst (n := 37) X dX12_greatest_36 rfl ?_
  refine g_istore_n (n := 38) (L' := [(2, gJ 0), (1, gJ 0), (0, gA n0 190)]) X dX12_greatest_37 rfl (by decide) rfl rfl ?_
  refine g_iconst (n := 39) X dX12_greatest_38 rfl ?_
  refine g_istore_n (n := 40) (L' := [(3, gJ 1), (2, gJ 0), (1, gJ 0), (0, gA n0 190)]) X dX12_greatest_39 rfl (by decide) rfl rfl ?_
  have loop2 : ∀ (N4 : Nat) (nm : Int), (1 ≤ nm ∧ nm ≤ 256) → (256 - nm).toNat < N4 → G p l e ({ frames := 2, cells := 0, slots := 0, locals := 51 } : Room) s m args below meth cd n0 D cA 5 (MQ below (gQi n0 D cA sz (fun z M1 => (z = 0) ∧ ∀ a : Int, M1 a = M a)) args s 0 0 (fun q => n0 ≤ q)) 0 0 M sz 40 [(0, gA n0 190), (1, gJ 0), (2, gJ 0), (3, gJ nm)] [] := by
    intro N4; induction N4 with
    | zero => intro nm  inm hm5; exfalso; omega
    | succ N4 ih3 =>
      intro nm  inm hm5
      refine g_iload_n (n := 41) X 3 dX12_greatest_40 rfl rfl rfl ?_
      refine g_sipush (n := 44) X dX12_greatest_41 (by decide +kernel) rfl ?_
      refine g_icmp_ge (n := 47) (tgt := 106) X dX12_greatest_44 (by decide) (by omega) (by omega) rfl (fun c7 => ?_) (fun c7 => ?_)
      · refine g_iload_n (n := 107) X 2 dX12_greatest_106 rfl rfl rfl ?_
        exact g_ireturn X hr dX12_greatest_107 (by exact ⟨by omega, fun a  => rfl⟩)
      · refine g_iload_n (n := 48) X 3 dX12_greatest_47 rfl rfl rfl ?_
        refine g_iload_n (n := 49) X 1 dX12_greatest_48 rfl rfl rfl ?_
        refine g_iconst (n := 50) X dX12_greatest_49 rfl ?_
        refine g_ixorE (n := 51) (z := (-1)) X dX12_greatest_50 (by decide +kernel) rfl ?_
        refine g_iandE (n := 52) (z := nm) X dX12_greatest_51 (gi_and_m1 _) rfl ?_
        refine g_if_ne (n := 55) (tgt := 78) X dX12_greatest_52 (by decide) (by omega) rfl (fun c8 => ?_) (fun c8 => by exfalso; omega)
        refine g_iconst (n := 79) X dX12_greatest_78 rfl ?_
        refine g_istore (n := 81) (L' := [(4, gJ 0), (0, gA n0 190), (1, gJ 0), (2, gJ 0), (3, gJ nm)]) X dX12_greatest_79 (by decide) rfl rfl ?_
        refine g_iload (n := 83) X 0 dX12_greatest_81 rfl rfl ?_
        refine g_if_eq (n := 86) (tgt := 98) X dX12_greatest_83 (by decide) (by omega) rfl (fun c9 => ?_) (fun c9 => by exfalso; omega)
        refine g_iload_n (n := 99) X 3 dX12_greatest_98 rfl rfl rfl ?_
        refine g_istore_n (n := 100) (L' := [(2, gJ 0), (4, gJ 0), (0, gA n0 190), (1, gJ 0), (3, gJ nm)]) X dX12_greatest_99 rfl (by decide) rfl rfl ?_
        refine g_iinc (n := 103) (w := nm + 1) (L' := [(3, gJ (nm + 1)), (2, gJ 0), (4, gJ 0), (0, gA n0 190), (1, gJ 0)]) X 4 dX12_greatest_100 rfl rfl (by decide) rfl rfl ?_
        refine g_goto (tgt := 40) X dX12_greatest_103 (by decide) ?_
        refine G.sub (L' := [(0, gA n0 190), (1, gJ 0), (2, gJ 0), (3, gJ (nm + 1))]) [3, 4, 1, 0] rfl ?_
        exact ih3 (nm + 1) (by omega) (by omega)
  refine G.sub (L' := [(0, gA n0 190), (1, gJ 0), (2, gJ 0), (3, gJ 1)]) [3, 2, 1, 0] rfl ?_
  exact loop2 _ 1 (by omega) (Nat.lt_succ_self _)
theorem dX12_master_0 : decode cX12_master 0 = .ok (.iload_n 1, 1) := by decide +kernel
theorem dX12_master_1 : decode cX12_master 1 = .ok (.iconst 0, 1) := by decide +kernel
theorem dX12_master_2 : decode cX12_master 2 = .ok (.iconst 3, 1) := by decide +kernel
theorem dX12_master_3 : decode cX12_master 3 = .ok (.invokestatic 64, 3) := by decide +kernel
theorem dX12_master_6 : decode cX12_master 6 = .ok (.ifCond .ne 5, 3) := by decide +kernel
theorem dX12_master_11 : decode cX12_master 11 = .ok (.iload_n 2, 1) := by decide +kernel
theorem dX12_master_12 : decode cX12_master 12 = .ok (.iconst 0, 1) := by decide +kernel
theorem dX12_master_13 : decode cX12_master 13 = .ok (.bipush 9, 2) := by decide +kernel
theorem dX12_master_15 : decode cX12_master 15 = .ok (.invokestatic 64, 3) := by decide +kernel
theorem dX12_master_18 : decode cX12_master 18 = .ok (.ifCond .eq 16, 3) := by decide +kernel
theorem dX12_master_34 : decode cX12_master 34 = .ok (.bipush (-2), 2) := by decide +kernel
theorem dX12_master_36 : decode cX12_master 36 = .ok (.ireturn, 1) := by decide +kernel
theorem dX12_master_21 : decode cX12_master 21 = .ok (.iload_n 2, 1) := by decide +kernel
theorem dX12_master_22 : decode cX12_master 22 = .ok (.aload_n 0, 1) := by decide +kernel
theorem dX12_master_23 : decode cX12_master 23 = .ok (.getfield 7, 3) := by decide +kernel
theorem dX12_master_26 : decode cX12_master 26 = .ok (.bipush 68, 2) := by decide +kernel
theorem dX12_master_28 : decode cX12_master 28 = .ok (.iload_n 1, 1) := by decide +kernel
theorem dX12_master_29 : decode cX12_master 29 = .ok (.iadd, 1) := by decide +kernel
theorem dX12_master_30 : decode cX12_master 30 = .ok (.iaload, 1) := by decide +kernel
theorem dX12_master_31 : decode cX12_master 31 = .ok (.if_icmp .ge 6, 3) := by decide +kernel
theorem dX12_master_37 : decode cX12_master 37 = .ok (.aload_n 0, 1) := by decide +kernel
theorem dX12_master_38 : decode cX12_master 38 = .ok (.getfield 7, 3) := by decide +kernel
theorem dX12_master_41 : decode cX12_master 41 = .ok (.bipush 64, 2) := by decide +kernel
theorem dX12_master_43 : decode cX12_master 43 = .ok (.iload_n 1, 1) := by decide +kernel
theorem dX12_master_44 : decode cX12_master 44 = .ok (.iadd, 1) := by decide +kernel
theorem dX12_master_45 : decode cX12_master 45 = .ok (.iaload, 1) := by decide +kernel
theorem dX12_master_46 : decode cX12_master 46 = .ok (.istore_n 3, 1) := by decide +kernel
theorem dX12_master_47 : decode cX12_master 47 = .ok (.aload_n 0, 1) := by decide +kernel
theorem dX12_master_48 : decode cX12_master 48 = .ok (.getfield 7, 3) := by decide +kernel
theorem dX12_master_51 : decode cX12_master 51 = .ok (.bipush 64, 2) := by decide +kernel
theorem dX12_master_53 : decode cX12_master 53 = .ok (.iload_n 1, 1) := by decide +kernel
theorem dX12_master_54 : decode cX12_master 54 = .ok (.iadd, 1) := by decide +kernel
theorem dX12_master_55 : decode cX12_master 55 = .ok (.iload_n 2, 1) := by decide +kernel
theorem dX12_master_56 : decode cX12_master 56 = .ok (.iastore, 1) := by decide +kernel
theorem dX12_master_57 : decode cX12_master 57 = .ok (.iload_n 3, 1) := by decide +kernel
theorem dX12_master_58 : decode cX12_master 58 = .ok (.ireturn, 1) := by decide +kernel
theorem dX12_master_9 : decode cX12_master 9 = .ok (.iconst (-1), 1) := by decide +kernel
theorem dX12_master_10 : decode cX12_master 10 = .ok (.ireturn, 1) := by decide +kernel
set_option maxRecDepth 100000 in
set_option maxHeartbeats 4000000 in
theorem c_X12_master {l : Launch} {n0 : Nat} {D : va_G} {cA : Nat → ClassId} {M : gM} (a b : Int) (r_a : -2147483648 ≤ a ∧ a ≤ 2147483647) (r_b : -2147483648 ≤ b ∧ b ≤ 2147483647) {sz : Nat} (hsz : 206 ≤ sz) (f_190_1 : M 190 1 = 192) (hS : ∀ i : Int, 0 ≤ i → i < 25301 → M 191 i = gS0 i) : Met l yX12_master (gWsOf yX12_master cX12_master 4 (Option.some Jvm.ClassFile.FieldType.int)) { frames := 1, cells := 0, slots := 0, locals := 22 } (gPc n0 D cA [gA n0 190, gJ a, gJ b] M sz) (gQi n0 D cA sz (fun z M1 => (((¬(0 ≤ a ∧ a ≤ 3)) → z = -1) ∧ (¬(¬(0 ≤ a ∧ a ≤ 3)) → (¬(0 ≤ b ∧ b ≤ 9)) → z = -2) ∧ (¬(¬(0 ≤ a ∧ a ≤ 3)) → ¬(¬(0 ≤ b ∧ b ≤ 9)) → (z = 0))) ∧ ∀ a : Int, a ≠ 191 → M1 a = M a)) 0 0 (fun q => n0 ≤ q) := by
  refine gMet_of [gA n0 190, gJ a, gJ b] (by decide) (Nat.le_of_ble_eq_true rfl) ?_
  intro p e s m args below meth cd X hr hm
  have X : gCx p s m args meth cd n0 D cA "ParishUnionModel" cX12_master 4 := X
  show G p l e ({ frames := 1, cells := 0, slots := 0, locals := 22 } : Room) s m args below meth cd n0 D cA 4 (MQ below (gQi n0 D cA sz (fun z M1 => (((¬(0 ≤ a ∧ a ≤ 3)) → z = -1) ∧ (¬(¬(0 ≤ a ∧ a ≤ 3)) → (¬(0 ≤ b ∧ b ≤ 9)) → z = -2) ∧ (¬(¬(0 ≤ a ∧ a ≤ 3)) → ¬(¬(0 ≤ b ∧ b ≤ 9)) → (z = 0))) ∧ ∀ a : Int, a ≠ 191 → M1 a = M a)) args s 0 0 (fun q => n0 ≤ q)) 0 0 M sz 0 [(0, gA n0 190), (1, gJ a), (2, gJ b)] []
  refine g_iload_n (n := 1) X 1 dX12_master_0 rfl rfl rfl ?_
  refine g_iconst (n := 2) X dX12_master_1 rfl ?_
  refine g_iconst (n := 3) X dX12_master_2 rfl ?_
  refine g_callSi (n := 6) (As := [gJ a, gJ 0, gJ 3]) (rest := []) (cs1 := 0) (ss1 := 0) X (c_X12_in a 0 3 (by omega) (by omega) (by omega) (by omega)) okX12_in kw_6_106 kw_6_107 ⟨rfl, rfl⟩ ⟨Nat.le_of_ble_eq_true rfl, Nat.le_of_ble_eq_true rfl⟩ rfl rfl (Nat.le_of_ble_eq_true rfl) ⟨Nat.le_of_ble_eq_true rfl, Nat.le_of_ble_eq_true rfl⟩ rfl rfl dX12_master_3 rfl (fun z1 M2 P3 => ?_)
  obtain ⟨rfl, P3⟩ := P3
  refine g_if_ne (n := 9) (tgt := 11) X dX12_master_6 (by decide) (by omega) rfl (fun c4 => ?_) (fun c4 => ?_)
  · refine g_iload_n (n := 12) X 2 dX12_master_11 rfl rfl rfl ?_
    refine g_iconst (n := 13) X dX12_master_12 rfl ?_
    refine g_bipush (n := 15) X dX12_master_13 (by decide +kernel) rfl ?_
    refine g_callSi (n := 18) (As := [gJ b, gJ 0, gJ 9]) (rest := []) (cs1 := 0) (ss1 := 0) X (c_X12_in b 0 9 (by omega) (by omega) (by omega) (by omega)) okX12_in kw_6_106 kw_6_107 ⟨rfl, rfl⟩ ⟨Nat.le_of_ble_eq_true rfl, Nat.le_of_ble_eq_true rfl⟩ rfl rfl (Nat.le_of_ble_eq_true rfl) ⟨Nat.le_of_ble_eq_true rfl, Nat.le_of_ble_eq_true rfl⟩ rfl rfl dX12_master_15 rfl (fun z5 M6 P7 => ?_)
    obtain ⟨rfl, P7⟩ := P7
    refine g_if_eq (n := 21) (tgt := 34) X dX12_master_18 (by decide) (by omega) rfl (fun c8 => ?_) (fun c8 => ?_)
    · refine g_bipush (n := 36) X dX12_master_34 (by decide +kernel) rfl ?_
      exact g_ireturn X hr dX12_master_36 (by exact ⟨by omega, fun a h0 => rfl⟩)
    · refine g_iload_n (n := 22) X 2 dX12_master_21 rfl rfl rfl ?_
      refine g_aload_n (n := 23) X 0 dX12_master_22 rfl rfl rfl ?_
      refine gg_12_1 (n := 26) (z := 191) X (by omega) (by omega) lay_190 kw_6_27 dX12_master_23 rfl f_190_1 (by omega) ?_
      refine g_bipush (n := 28) X dX12_master_26 (by decide +kernel) rfl ?_
      refine g_iload_n (n := 29) X 1 dX12_master_28 rfl rfl rfl ?_
      refine g_iadd (n := 30) (z := 68 + a) X dX12_master_29 rfl rfl ?_
      refine g_iald (n := 31) X (by omega) (by omega) lay_191 (by omega) (by omega) (by omega) dX12_master_30 rfl ?_
      rw [show M 191 (68 + a) = 0 from ((hS _ (by omega) (by omega)).trans (gS0_zero (by omega)))]
      refine g_icmp_ge (n := 34) (tgt := 37) X dX12_master_31 (by decide) (by omega) (by omega) rfl (fun c9 => ?_) (fun c9 => ?_)
      · refine g_aload_n (n := 38) X 0 dX12_master_37 rfl rfl rfl ?_
        refine gg_12_1 (n := 41) (z := 191) X (by omega) (by omega) lay_190 kw_6_27 dX12_master_38 rfl f_190_1 (by omega) ?_
        refine g_bipush (n := 43) X dX12_master_41 (by decide +kernel) rfl ?_
        refine g_iload_n (n := 44) X 1 dX12_master_43 rfl rfl rfl ?_
        refine g_iadd (n := 45) (z := 64 + a) X dX12_master_44 rfl rfl ?_
        refine g_iald (n := 46) X (by omega) (by omega) lay_191 (by omega) (by omega) (by omega) dX12_master_45 rfl ?_
        rw [show M 191 (64 + a) = 0 from ((hS _ (by omega) (by omega)).trans (gS0_zero (by omega)))]
        refine g_istore_n (n := 47) (L' := [(3, gJ 0), (0, gA n0 190), (1, gJ a), (2, gJ b)]) X dX12_master_46 rfl (by decide) rfl rfl ?_
        refine g_aload_n (n := 48) X 1 dX12_master_47 rfl rfl rfl ?_
        refine gg_12_1 (n := 51) (z := 191) X (by omega) (by omega) lay_190 kw_6_27 dX12_master_48 rfl f_190_1 (by omega) ?_
        refine g_bipush (n := 53) X dX12_master_51 (by decide +kernel) rfl ?_
        refine g_iload_n (n := 54) X 2 dX12_master_53 rfl rfl rfl ?_
        refine g_iadd (n := 55) (z := 64 + a) X dX12_master_54 rfl rfl ?_
        refine g_iload_n (n := 56) X 3 dX12_master_55 rfl rfl rfl ?_
        refine g_iast (n := 57) X (by omega) (by omega) lay_191 (by omega) (by omega) (by omega) dX12_master_56 rfl ?_
        refine G.nm (fun M10 e11 => ?_)
        refine g_iload_n (n := 58) X 0 dX12_master_57 rfl rfl rfl ?_
        exact g_ireturn X hr dX12_master_58 (by exact ⟨by omega, fun a h0 => ((congrFun e11 a).trans ((gset_off a (by omega)).trans rfl))⟩)
      · refine g_bipush (n := 36) X dX12_master_34 (by decide +kernel) rfl ?_
        exact g_ireturn X hr dX12_master_36 (by exact ⟨by omega, fun a h0 => rfl⟩)
  · refine g_iconst (n := 10) X dX12_master_9 rfl ?_
    exact g_ireturn X hr dX12_master_10 (by exact ⟨by omega, fun a h0 => rfl⟩)
theorem dX12_choice_0 : decode cX12_choice 0 = .ok (.iload_n 1, 1) := by decide +kernel
theorem dX12_choice_1 : decode cX12_choice 1 = .ok (.iconst 0, 1) := by decide +kernel
theorem dX12_choice_2 : decode cX12_choice 2 = .ok (.iconst 4, 1) := by decide +kernel
theorem dX12_choice_3 : decode cX12_choice 3 = .ok (.invokestatic 64, 3) := by decide +kernel
theorem dX12_choice_6 : decode cX12_choice 6 = .ok (.ifCond .ne 5, 3) := by decide +kernel
theorem dX12_choice_11 : decode cX12_choice 11 = .ok (.iload_n 2, 1) := by decide +kernel
theorem dX12_choice_12 : decode cX12_choice 12 = .ok (.iconst 1, 1) := by decide +kernel
theorem dX12_choice_13 : decode cX12_choice 13 = .ok (.bipush 99, 2) := by decide +kernel
theorem dX12_choice_15 : decode cX12_choice 15 = .ok (.invokestatic 64, 3) := by decide +kernel
theorem dX12_choice_18 : decode cX12_choice 18 = .ok (.ifCond .eq 14, 3) := by decide +kernel
theorem dX12_choice_32 : decode cX12_choice 32 = .ok (.bipush (-2), 2) := by decide +kernel
theorem dX12_choice_34 : decode cX12_choice 34 = .ok (.ireturn, 1) := by decide +kernel
theorem dX12_choice_21 : decode cX12_choice 21 = .ok (.iload_n 3, 1) := by decide +kernel
theorem dX12_choice_22 : decode cX12_choice 22 = .ok (.iconst 0, 1) := by decide +kernel
theorem dX12_choice_23 : decode cX12_choice 23 = .ok (.sipush 999, 3) := by decide +kernel
theorem dX12_choice_26 : decode cX12_choice 26 = .ok (.invokestatic 64, 3) := by decide +kernel
theorem dX12_choice_29 : decode cX12_choice 29 = .ok (.ifCond .ne 6, 3) := by decide +kernel
theorem dX12_choice_35 : decode cX12_choice 35 = .ok (.aload_n 0, 1) := by decide +kernel
theorem dX12_choice_36 : decode cX12_choice 36 = .ok (.getfield 7, 3) := by decide +kernel
theorem dX12_choice_39 : decode cX12_choice 39 = .ok (.bipush 7, 2) := by decide +kernel
theorem dX12_choice_41 : decode cX12_choice 41 = .ok (.iaload, 1) := by decide +kernel
theorem dX12_choice_42 : decode cX12_choice 42 = .ok (.bipush 6, 2) := by decide +kernel
theorem dX12_choice_44 : decode cX12_choice 44 = .ok (.if_icmp .ne 6, 3) := by decide +kernel
theorem dX12_choice_50 : decode cX12_choice 50 = .ok (.aload_n 0, 1) := by decide +kernel
theorem dX12_choice_51 : decode cX12_choice 51 = .ok (.getfield 7, 3) := by decide +kernel
theorem dX12_choice_54 : decode cX12_choice 54 = .ok (.sipush 2560, 3) := by decide +kernel
theorem dX12_choice_57 : decode cX12_choice 57 = .ok (.aload_n 0, 1) := by decide +kernel
theorem dX12_choice_58 : decode cX12_choice 58 = .ok (.getfield 7, 3) := by decide +kernel
theorem dX12_choice_61 : decode cX12_choice 61 = .ok (.bipush 7, 2) := by decide +kernel
theorem dX12_choice_63 : decode cX12_choice 63 = .ok (.iaload, 1) := by decide +kernel
theorem dX12_choice_64 : decode cX12_choice 64 = .ok (.iadd, 1) := by decide +kernel
theorem dX12_choice_65 : decode cX12_choice 65 = .ok (.iload_n 1, 1) := by decide +kernel
theorem dX12_choice_66 : decode cX12_choice 66 = .ok (.iastore, 1) := by decide +kernel
theorem dX12_choice_67 : decode cX12_choice 67 = .ok (.aload_n 0, 1) := by decide +kernel
theorem dX12_choice_68 : decode cX12_choice 68 = .ok (.getfield 7, 3) := by decide +kernel
theorem dX12_choice_71 : decode cX12_choice 71 = .ok (.sipush 2566, 3) := by decide +kernel
theorem dX12_choice_74 : decode cX12_choice 74 = .ok (.aload_n 0, 1) := by decide +kernel
theorem dX12_choice_75 : decode cX12_choice 75 = .ok (.getfield 7, 3) := by decide +kernel
theorem dX12_choice_78 : decode cX12_choice 78 = .ok (.bipush 7, 2) := by decide +kernel
theorem dX12_choice_80 : decode cX12_choice 80 = .ok (.iaload, 1) := by decide +kernel
theorem dX12_choice_81 : decode cX12_choice 81 = .ok (.iadd, 1) := by decide +kernel
theorem dX12_choice_82 : decode cX12_choice 82 = .ok (.iload_n 2, 1) := by decide +kernel
theorem dX12_choice_83 : decode cX12_choice 83 = .ok (.iastore, 1) := by decide +kernel
theorem dX12_choice_84 : decode cX12_choice 84 = .ok (.aload_n 0, 1) := by decide +kernel
theorem dX12_choice_85 : decode cX12_choice 85 = .ok (.getfield 7, 3) := by decide +kernel
theorem dX12_choice_88 : decode cX12_choice 88 = .ok (.sipush 2572, 3) := by decide +kernel
theorem dX12_choice_91 : decode cX12_choice 91 = .ok (.aload_n 0, 1) := by decide +kernel
theorem dX12_choice_92 : decode cX12_choice 92 = .ok (.getfield 7, 3) := by decide +kernel
theorem dX12_choice_95 : decode cX12_choice 95 = .ok (.bipush 7, 2) := by decide +kernel
theorem dX12_choice_97 : decode cX12_choice 97 = .ok (.iaload, 1) := by decide +kernel
theorem dX12_choice_98 : decode cX12_choice 98 = .ok (.iadd, 1) := by decide +kernel
theorem dX12_choice_99 : decode cX12_choice 99 = .ok (.iload_n 3, 1) := by decide +kernel
theorem dX12_choice_100 : decode cX12_choice 100 = .ok (.iastore, 1) := by decide +kernel
theorem dX12_choice_101 : decode cX12_choice 101 = .ok (.aload_n 0, 1) := by decide +kernel
theorem dX12_choice_102 : decode cX12_choice 102 = .ok (.getfield 7, 3) := by decide +kernel
theorem dX12_choice_105 : decode cX12_choice 105 = .ok (.bipush 7, 2) := by decide +kernel
theorem dX12_choice_107 : decode cX12_choice 107 = .ok (.dup2, 1) := by decide +kernel
theorem dX12_choice_108 : decode cX12_choice 108 = .ok (.iaload, 1) := by decide +kernel
theorem dX12_choice_109 : decode cX12_choice 109 = .ok (.iconst 1, 1) := by decide +kernel
theorem dX12_choice_110 : decode cX12_choice 110 = .ok (.iadd, 1) := by decide +kernel
theorem dX12_choice_111 : decode cX12_choice 111 = .ok (.iastore, 1) := by decide +kernel
theorem dX12_choice_112 : decode cX12_choice 112 = .ok (.aload_n 0, 1) := by decide +kernel
theorem dX12_choice_113 : decode cX12_choice 113 = .ok (.getfield 7, 3) := by decide +kernel
theorem dX12_choice_116 : decode cX12_choice 116 = .ok (.bipush 7, 2) := by decide +kernel
theorem dX12_choice_118 : decode cX12_choice 118 = .ok (.iaload, 1) := by decide +kernel
theorem dX12_choice_119 : decode cX12_choice 119 = .ok (.iconst 1, 1) := by decide +kernel
theorem dX12_choice_120 : decode cX12_choice 120 = .ok (.isub, 1) := by decide +kernel
theorem dX12_choice_121 : decode cX12_choice 121 = .ok (.ireturn, 1) := by decide +kernel
theorem dX12_choice_9 : decode cX12_choice 9 = .ok (.iconst (-1), 1) := by decide +kernel
theorem dX12_choice_10 : decode cX12_choice 10 = .ok (.ireturn, 1) := by decide +kernel
set_option maxRecDepth 100000 in
set_option maxHeartbeats 4000000 in
theorem c_X12_choice {l : Launch} {n0 : Nat} {D : va_G} {cA : Nat → ClassId} {M : gM} (a b g : Int) (r_a : -2147483648 ≤ a ∧ a ≤ 2147483647) (r_b : -2147483648 ≤ b ∧ b ≤ 2147483647) (r_g : -2147483648 ≤ g ∧ g ≤ 2147483647) {sz : Nat} (hsz : 206 ≤ sz) (f_190_1 : M 190 1 = 192) (f_191_7 : M 191 7 = 0) : Met l yX12_choice (gWsOf yX12_choice cX12_choice 4 (Option.some Jvm.ClassFile.FieldType.int)) { frames := 1, cells := 0, slots := 0, locals := 22 } (gPc n0 D cA [gA n0 190, gJ a, gJ b, gJ g] M sz) (gQi n0 D cA sz (fun z M1 => (((¬(0 ≤ a ∧ a ≤ 4)) → z = -1) ∧ (¬(¬(0 ≤ a ∧ a ≤ 4)) → (¬(1 ≤ b ∧ b ≤ 99) ∨ ¬(0 ≤ g ∧ g ≤ 999)) → z = -2) ∧ (¬(¬(0 ≤ a ∧ a ≤ 4)) → ¬(¬(1 ≤ b ∧ b ≤ 99) ∨ ¬(0 ≤ g ∧ g ≤ 999)) → (z = 0))) ∧ ∀ a : Int, a ≠ 191 → M1 a = M a)) 0 0 (fun q => n0 ≤ q) := by
  refine gMet_of [gA n0 190, gJ a, gJ b, gJ g] (by decide) (Nat.le_of_ble_eq_true rfl) ?_
  intro p e s m args below meth cd X hr hm
  have X : gCx p s m args meth cd n0 D cA "ParishUnionModel" cX12_choice 4 := X
  show G p l e ({ frames := 1, cells := 0, slots := 0, locals := 22 } : Room) s m args below meth cd n0 D cA 4 (MQ below (gQi n0 D cA sz (fun z M1 => (((¬(0 ≤ a ∧ a ≤ 4)) → z = -1) ∧ (¬(¬(0 ≤ a ∧ a ≤ 4)) → (¬(1 ≤ b ∧ b ≤ 99) ∨ ¬(0 ≤ g ∧ g ≤ 999)) → z = -2) ∧ (¬(¬(0 ≤ a ∧ a ≤ 4)) → ¬(¬(1 ≤ b ∧ b ≤ 99) ∨ ¬(0 ≤ g ∧ g ≤ 999)) → (z = 0))) ∧ ∀ a : Int, a ≠ 191 → M1 a = M a)) args s 0 0 (fun q => n0 ≤ q)) 0 0 M sz 0 [(0, gA n0 190), (1, gJ a), (2, gJ b), (3, gJ g)] []
  refine g_iload_n (n := 1) X 1 dX12_choice_0 rfl rfl rfl ?_
  refine g_iconst (n := 2) X dX12_choice_1 rfl ?_
  refine g_iconst (n := 3) X dX12_choice_2 rfl ?_
  refine g_callSi (n := 6) (As := [gJ a, gJ 0, gJ 4]) (rest := []) (cs1 := 0) (ss1 := 0) X (c_X12_in a 0 4 (by omega) (by omega) (by omega) (by omega)) okX12_in kw_6_106 kw_6_107 ⟨rfl, rfl⟩ ⟨Nat.le_of_ble_eq_true rfl, Nat.le_of_ble_eq_true rfl⟩ rfl rfl (Nat.le_of_ble_eq_true rfl) ⟨Nat.le_of_ble_eq_true rfl, Nat.le_of_ble_eq_true rfl⟩ rfl rfl dX12_choice_3 rfl (fun z1 M2 P3 => ?_)
  obtain ⟨rfl, P3⟩ := P3
  refine g_if_ne (n := 9) (tgt := 11) X dX12_choice_6 (by decide) (by omega) rfl (fun c4 => ?_) (fun c4 => ?_)
  · refine g_iload_n (n := 12) X 2 dX12_choice_11 rfl rfl rfl ?_
    refine g_iconst (n := 13) X dX12_choice_12 rfl ?_
    refine g_bipush (n := 15) X dX12_choice_13 (by decide +kernel) rfl ?_
    refine g_callSi (n := 18) (As := [gJ b, gJ 1, gJ 99]) (rest := []) (cs1 := 0) (ss1 := 0) X (c_X12_in b 1 99 (by omega) (by omega) (by omega) (by omega)) okX12_in kw_6_106 kw_6_107 ⟨rfl, rfl⟩ ⟨Nat.le_of_ble_eq_true rfl, Nat.le_of_ble_eq_true rfl⟩ rfl rfl (Nat.le_of_ble_eq_true rfl) ⟨Nat.le_of_ble_eq_true rfl, Nat.le_of_ble_eq_true rfl⟩ rfl rfl dX12_choice_15 rfl (fun z5 M6 P7 => ?_)
    obtain ⟨rfl, P7⟩ := P7
    refine g_if_eq (n := 21) (tgt := 32) X dX12_choice_18 (by decide) (by omega) rfl (fun c8 => ?_) (fun c8 => ?_)
    · refine g_bipush (n := 34) X dX12_choice_32 (by decide +kernel) rfl ?_
      exact g_ireturn X hr dX12_choice_34 (by exact ⟨by omega, fun a h0 => rfl⟩)
    · refine g_iload_n (n := 22) X 3 dX12_choice_21 rfl rfl rfl ?_
      refine g_iconst (n := 23) X dX12_choice_22 rfl ?_
      refine g_sipush (n := 26) X dX12_choice_23 (by decide +kernel) rfl ?_
      refine g_callSi (n := 29) (As := [gJ g, gJ 0, gJ 999]) (rest := []) (cs1 := 0) (ss1 := 0) X (c_X12_in g 0 999 (by omega) (by omega) (by omega) (by omega)) okX12_in kw_6_106 kw_6_107 ⟨rfl, rfl⟩ ⟨Nat.le_of_ble_eq_true rfl, Nat.le_of_ble_eq_true rfl⟩ rfl rfl (Nat.le_of_ble_eq_true rfl) ⟨Nat.le_of_ble_eq_true rfl, Nat.le_of_ble_eq_true rfl⟩ rfl rfl dX12_choice_26 rfl (fun z9 M10 P11 => ?_)
      obtain ⟨rfl, P11⟩ := P11
      refine g_if_ne (n := 32) (tgt := 35) X dX12_choice_29 (by decide) (by omega) rfl (fun c12 => ?_) (fun c12 => ?_)
      · refine g_aload_n (n := 36) X 0 dX12_choice_35 rfl rfl rfl ?_
        refine gg_12_1 (n := 39) (z := 191) X (by omega) (by omega) lay_190 kw_6_27 dX12_choice_36 rfl f_190_1 (by omega) ?_
        refine g_bipush (n := 41) X dX12_choice_39 (by decide +kernel) rfl ?_
        refine g_iald (n := 42) X (by omega) (by omega) lay_191 (by omega) (by omega) (by omega) dX12_choice_41 rfl ?_
        rw [show M 191 7 = 0 from f_191_7]
        refine g_bipush (n := 44) X dX12_choice_42 (by decide +kernel) rfl ?_
        refine g_icmp_ne (n := 47) (tgt := 50) X dX12_choice_44 (by decide) (by omega) (by omega) rfl (fun c13 => ?_) (fun c13 => by exfalso; omega)
        refine g_aload_n (n := 51) X 0 dX12_choice_50 rfl rfl rfl ?_
        refine gg_12_1 (n := 54) (z := 191) X (by omega) (by omega) lay_190 kw_6_27 dX12_choice_51 rfl f_190_1 (by omega) ?_
        refine g_sipush (n := 57) X dX12_choice_54 (by decide +kernel) rfl ?_
        refine g_aload_n (n := 58) X 0 dX12_choice_57 rfl rfl rfl ?_
        refine gg_12_1 (n := 61) (z := 191) X (by omega) (by omega) lay_190 kw_6_27 dX12_choice_58 rfl f_190_1 (by omega) ?_
        refine g_bipush (n := 63) X dX12_choice_61 (by decide +kernel) rfl ?_
        refine g_iald (n := 64) X (by omega) (by omega) lay_191 (by omega) (by omega) (by omega) dX12_choice_63 rfl ?_
        rw [show M 191 7 = 0 from f_191_7]
        refine g_iadd (n := 65) (z := 2560) X dX12_choice_64 rfl rfl ?_
        refine g_iload_n (n := 66) X 1 dX12_choice_65 rfl rfl rfl ?_
        refine g_iast (n := 67) X (by omega) (by omega) lay_191 (by omega) (by omega) (by omega) dX12_choice_66 rfl ?_
        refine G.nm (fun M14 e15 => ?_)
        refine g_aload_n (n := 68) X 0 dX12_choice_67 rfl rfl rfl ?_
        refine gg_12_1 (n := 71) (z := 191) X (by omega) (by omega) lay_190 kw_6_27 dX12_choice_68 rfl ((congrFun (congrFun e15 _) _).trans ((gset_ne (by omega)).trans f_190_1)) (by omega) ?_
        refine g_sipush (n := 74) X dX12_choice_71 (by decide +kernel) rfl ?_
        refine g_aload_n (n := 75) X 0 dX12_choice_74 rfl rfl rfl ?_
        refine gg_12_1 (n := 78) (z := 191) X (by omega) (by omega) lay_190 kw_6_27 dX12_choice_75 rfl ((congrFun (congrFun e15 _) _).trans ((gset_ne (by omega)).trans f_190_1)) (by omega) ?_
        refine g_bipush (n := 80) X dX12_choice_78 (by decide +kernel) rfl ?_
        refine g_iald (n := 81) X (by omega) (by omega) lay_191 (by omega) (by omega) (by omega) dX12_choice_80 rfl ?_
        rw [show M14 191 7 = 0 from ((congrFun (congrFun e15 _) _).trans ((gset_ne (by omega)).trans f_191_7))]
        refine g_iadd (n := 82) (z := 2566) X dX12_choice_81 rfl rfl ?_
        refine g_iload_n (n := 83) X 2 dX12_choice_82 rfl rfl rfl ?_
        refine g_iast (n := 84) X (by omega) (by omega) lay_191 (by omega) (by omega) (by omega) dX12_choice_83 rfl ?_
        refine G.nm (fun M16 e17 => ?_)
        refine g_aload_n (n := 85) X 0 dX12_choice_84 rfl rfl rfl ?_
        refine gg_12_1 (n := 88) (z := 191) X (by omega) (by omega) lay_190 kw_6_27 dX12_choice_85 rfl ((congrFun (congrFun e17 _) _).trans ((gset_ne (by omega)).trans ((congrFun (congrFun e15 _) _).trans ((gset_ne (by omega)).trans f_190_1)))) (by omega) ?_
        refine g_sipush (n := 91) X dX12_choice_88 (by decide +kernel) rfl ?_
        refine g_aload_n (n := 92) X 0 dX12_choice_91 rfl rfl rfl ?_
        refine gg_12_1 (n := 95) (z := 191) X (by omega) (by omega) lay_190 kw_6_27 dX12_choice_92 rfl ((congrFun (congrFun e17 _) _).trans ((gset_ne (by omega)).trans ((congrFun (congrFun e15 _) _).trans ((gset_ne (by omega)).trans f_190_1)))) (by omega) ?_
        refine g_bipush (n := 97) X dX12_choice_95 (by decide +kernel) rfl ?_
        refine g_iald (n := 98) X (by omega) (by omega) lay_191 (by omega) (by omega) (by omega) dX12_choice_97 rfl ?_
        rw [show M16 191 7 = 0 from ((congrFun (congrFun e17 _) _).trans ((gset_ne (by omega)).trans ((congrFun (congrFun e15 _) _).trans ((gset_ne (by omega)).trans f_191_7))))]
        refine g_iadd (n := 99) (z := 2572) X dX12_choice_98 rfl rfl ?_
        refine g_iload_n (n := 100) X 3 dX12_choice_99 rfl rfl rfl ?_
        refine g_iast (n := 101) X (by omega) (by omega) lay_191 (by omega) (by omega) (by omega) dX12_choice_100 rfl ?_
        refine G.nm (fun M18 e19 => ?_)
        refine g_aload_n (n := 102) X 0 dX12_choice_101 rfl rfl rfl ?_
        refine gg_12_1 (n := 105) (z := 191) X (by omega) (by omega) lay_190 kw_6_27 dX12_choice_102 rfl ((congrFun (congrFun e19 _) _).trans ((gset_ne (by omega)).trans ((congrFun (congrFun e17 _) _).trans ((gset_ne (by omega)).trans ((congrFun (congrFun e15 _) _).trans ((gset_ne (by omega)).trans f_190_1)))))) (by omega) ?_
        refine g_bipush (n := 107) X dX12_choice_105 (by decide +kernel) rfl ?_
        refine g_dup2 (n := 108) X dX12_choice_107 rfl rfl rfl ?_
        refine g_iald (n := 109) X (by omega) (by omega) lay_191 (by omega) (by omega) (by omega) dX12_choice_108 rfl ?_
        rw [show M18 191 7 = 0 from ((congrFun (congrFun e19 _) _).trans ((gset_ne (by omega)).trans ((congrFun (congrFun e17 _) _).trans ((gset_ne (by omega)).trans ((congrFun (congrFun e15 _) _).trans ((gset_ne (by omega)).trans f_191_7))))))]
        refine g_iconst (n := 110) X dX12_choice_109 rfl ?_
        refine g_iadd (n := 111) (z := 1) X dX12_choice_110 rfl rfl ?_
        refine g_iast (n := 112) X (by omega) (by omega) lay_191 (by omega) (by omega) (by omega) dX12_choice_111 rfl ?_
        refine G.nm (fun M20 e21 => ?_)
        refine g_aload_n (n := 113) X 0 dX12_choice_112 rfl rfl rfl ?_
        refine gg_12_1 (n := 116) (z := 191) X (by omega) (by omega) lay_190 kw_6_27 dX12_choice_113 rfl ((congrFun (congrFun e21 _) _).trans ((gset_ne (by omega)).trans ((congrFun (congrFun e19 _) _).trans ((gset_ne (by omega)).trans ((congrFun (congrFun e17 _) _).trans ((gset_ne (by omega)).trans ((congrFun (congrFun e15 _) _).trans ((gset_ne (by omega)).trans f_190_1)))))))) (by omega) ?_
        refine g_bipush (n := 118) X dX12_choice_116 (by decide +kernel) rfl ?_
        refine g_iald (n := 119) X (by omega) (by omega) lay_191 (by omega) (by omega) (by omega) dX12_choice_118 rfl ?_
        rw [show M20 191 7 = 1 from ((congrFun (congrFun e21 _) _).trans (gset_eq _ _ _ _))]
        refine g_iconst (n := 120) X dX12_choice_119 rfl ?_
        refine g_isub (n := 121) (z := 0) X dX12_choice_120 rfl rfl ?_
        exact g_ireturn X hr dX12_choice_121 (by exact ⟨by omega, fun a h0 => ((congrFun e21 a).trans ((gset_off a (by omega)).trans ((congrFun e19 a).trans ((gset_off a (by omega)).trans ((congrFun e17 a).trans ((gset_off a (by omega)).trans ((congrFun e15 a).trans ((gset_off a (by omega)).trans rfl))))))))⟩)
      · refine g_bipush (n := 34) X dX12_choice_32 (by decide +kernel) rfl ?_
        exact g_ireturn X hr dX12_choice_34 (by exact ⟨by omega, fun a h0 => rfl⟩)
  · refine g_iconst (n := 10) X dX12_choice_9 rfl ?_
    exact g_ireturn X hr dX12_choice_10 (by exact ⟨by omega, fun a h0 => rfl⟩)
theorem dX12_plan_0 : decode cX12_plan 0 = .ok (.iload_n 1, 1) := by decide +kernel
theorem dX12_plan_1 : decode cX12_plan 1 = .ok (.iconst 0, 1) := by decide +kernel
theorem dX12_plan_2 : decode cX12_plan 2 = .ok (.iconst 1, 1) := by decide +kernel
theorem dX12_plan_3 : decode cX12_plan 3 = .ok (.invokestatic 64, 3) := by decide +kernel
theorem dX12_plan_6 : decode cX12_plan 6 = .ok (.ifCond .ne 5, 3) := by decide +kernel
theorem dX12_plan_11 : decode cX12_plan 11 = .ok (.iconst 0, 1) := by decide +kernel
theorem dX12_plan_12 : decode cX12_plan 12 = .ok (.istore_n 2, 1) := by decide +kernel
theorem dX12_plan_13 : decode cX12_plan 13 = .ok (.iconst 0, 1) := by decide +kernel
theorem dX12_plan_14 : decode cX12_plan 14 = .ok (.istore_n 3, 1) := by decide +kernel
theorem dX12_plan_15 : decode cX12_plan 15 = .ok (.iconst 0, 1) := by decide +kernel
theorem dX12_plan_16 : decode cX12_plan 16 = .ok (.istore 4, 2) := by decide +kernel
theorem dX12_plan_18 : decode cX12_plan 18 = .ok (.iload 4, 2) := by decide +kernel
theorem dX12_plan_20 : decode cX12_plan 20 = .ok (.iconst 3, 1) := by decide +kernel
theorem dX12_plan_21 : decode cX12_plan 21 = .ok (.if_icmp .ge 65, 3) := by decide +kernel
theorem dX12_plan_24 : decode cX12_plan 24 = .ok (.iload_n 2, 1) := by decide +kernel
theorem dX12_plan_25 : decode cX12_plan 25 = .ok (.aload_n 0, 1) := by decide +kernel
theorem dX12_plan_26 : decode cX12_plan 26 = .ok (.getfield 7, 3) := by decide +kernel
theorem dX12_plan_29 : decode cX12_plan 29 = .ok (.sipush 2580, 3) := by decide +kernel
theorem dX12_plan_32 : decode cX12_plan 32 = .ok (.iload 4, 2) := by decide +kernel
theorem dX12_plan_34 : decode cX12_plan 34 = .ok (.iadd, 1) := by decide +kernel
theorem dX12_plan_35 : decode cX12_plan 35 = .ok (.iaload, 1) := by decide +kernel
theorem dX12_plan_36 : decode cX12_plan 36 = .ok (.ifCond .le 7, 3) := by decide +kernel
theorem dX12_plan_43 : decode cX12_plan 43 = .ok (.iconst 0, 1) := by decide +kernel
theorem dX12_plan_44 : decode cX12_plan 44 = .ok (.iadd, 1) := by decide +kernel
theorem dX12_plan_45 : decode cX12_plan 45 = .ok (.istore_n 2, 1) := by decide +kernel
theorem dX12_plan_46 : decode cX12_plan 46 = .ok (.iload_n 3, 1) := by decide +kernel
theorem dX12_plan_47 : decode cX12_plan 47 = .ok (.ifCond .ne 27, 3) := by decide +kernel
theorem dX12_plan_50 : decode cX12_plan 50 = .ok (.aload_n 0, 1) := by decide +kernel
theorem dX12_plan_51 : decode cX12_plan 51 = .ok (.getfield 7, 3) := by decide +kernel
theorem dX12_plan_54 : decode cX12_plan 54 = .ok (.iconst 0, 1) := by decide +kernel
theorem dX12_plan_55 : decode cX12_plan 55 = .ok (.iaload, 1) := by decide +kernel
theorem dX12_plan_56 : decode cX12_plan 56 = .ok (.aload_n 0, 1) := by decide +kernel
theorem dX12_plan_57 : decode cX12_plan 57 = .ok (.getfield 7, 3) := by decide +kernel
theorem dX12_plan_60 : decode cX12_plan 60 = .ok (.sipush 2580, 3) := by decide +kernel
theorem dX12_plan_63 : decode cX12_plan 63 = .ok (.iload 4, 2) := by decide +kernel
theorem dX12_plan_65 : decode cX12_plan 65 = .ok (.iadd, 1) := by decide +kernel
theorem dX12_plan_66 : decode cX12_plan 66 = .ok (.iaload, 1) := by decide +kernel
theorem dX12_plan_67 : decode cX12_plan 67 = .ok (.iadd, 1) := by decide +kernel
theorem dX12_plan_68 : decode cX12_plan 68 = .ok (.sipush 300, 3) := by decide +kernel
theorem dX12_plan_71 : decode cX12_plan 71 = .ok (.if_icmp .le 7, 3) := by decide +kernel
theorem dX12_plan_78 : decode cX12_plan 78 = .ok (.iconst 0, 1) := by decide +kernel
theorem dX12_plan_79 : decode cX12_plan 79 = .ok (.istore_n 3, 1) := by decide +kernel
theorem dX12_plan_80 : decode cX12_plan 80 = .ok (.iinc 4 1, 3) := by decide +kernel
theorem dX12_plan_83 : decode cX12_plan 83 = .ok (.goto (-65), 3) := by decide +kernel
theorem dX12_plan_86 : decode cX12_plan 86 = .ok (.iload_n 2, 1) := by decide +kernel
theorem dX12_plan_87 : decode cX12_plan 87 = .ok (.ifCond .eq 7, 3) := by decide +kernel
theorem dX12_plan_94 : decode cX12_plan 94 = .ok (.bipush (-3), 2) := by decide +kernel
theorem dX12_plan_96 : decode cX12_plan 96 = .ok (.ireturn, 1) := by decide +kernel
theorem dX12_plan_9 : decode cX12_plan 9 = .ok (.iconst (-1), 1) := by decide +kernel
theorem dX12_plan_10 : decode cX12_plan 10 = .ok (.ireturn, 1) := by decide +kernel
set_option maxRecDepth 100000 in
set_option maxHeartbeats 4000000 in
theorem c_X12_plan {l : Launch} {n0 : Nat} {D : va_G} {cA : Nat → ClassId} {M : gM} (a : Int) (r_a : -2147483648 ≤ a ∧ a ≤ 2147483647) {sz : Nat} (hsz : 206 ≤ sz) (f_190_1 : M 190 1 = 192) (hS : ∀ i : Int, 0 ≤ i → i < 25301 → M 191 i = gS0 i) : Met l yX12_plan (gWsOf yX12_plan cX12_plan 8 (Option.some Jvm.ClassFile.FieldType.int)) { frames := 145, cells := 0, slots := 0, locals := 6060 } (gPc n0 D cA [gA n0 190, gJ a] M sz) (gQi n0 D cA sz (fun z M1 => ((¬(0 ≤ a ∧ a ≤ 1) → z = -1) ∧ (0 ≤ a → a ≤ 1 → z = -3)) ∧ ∀ a : Int, M1 a = M a)) 0 0 (fun q => n0 ≤ q) := by
  refine gMet_of [gA n0 190, gJ a] (by decide) (Nat.le_of_ble_eq_true rfl) ?_
  intro p e s m args below meth cd X hr hm
  have X : gCx p s m args meth cd n0 D cA "ParishUnionModel" cX12_plan 8 := X
  show G p l e ({ frames := 145, cells := 0, slots := 0, locals := 6060 } : Room) s m args below meth cd n0 D cA 8 (MQ below (gQi n0 D cA sz (fun z M1 => ((¬(0 ≤ a ∧ a ≤ 1) → z = -1) ∧ (0 ≤ a → a ≤ 1 → z = -3)) ∧ ∀ a : Int, M1 a = M a)) args s 0 0 (fun q => n0 ≤ q)) 0 0 M sz 0 [(0, gA n0 190), (1, gJ a)] []
  refine g_iload_n (n := 1) X 1 dX12_plan_0 rfl rfl rfl ?_
  refine g_iconst (n := 2) X dX12_plan_1 rfl ?_
  refine g_iconst (n := 3) X dX12_plan_2 rfl ?_
  refine g_callSi (n := 6) (As := [gJ a, gJ 0, gJ 1]) (rest := []) (cs1 := 0) (ss1 := 0) X (c_X12_in a 0 1 (by omega) (by omega) (by omega) (by omega)) okX12_in kw_6_106 kw_6_107 ⟨rfl, rfl⟩ ⟨Nat.le_of_ble_eq_true rfl, Nat.le_of_ble_eq_true rfl⟩ rfl rfl (Nat.le_of_ble_eq_true rfl) ⟨Nat.le_of_ble_eq_true rfl, Nat.le_of_ble_eq_true rfl⟩ rfl rfl dX12_plan_3 rfl (fun z1 M2 P3 => ?_)
  obtain ⟨rfl, P3⟩ := P3
  refine g_if_ne (n := 9) (tgt := 11) X dX12_plan_6 (by decide) (by omega) rfl (fun c4 => ?_) (fun c4 => ?_)
  · refine g_iconst (n := 12) X dX12_plan_11 rfl ?_
    refine g_istore_n (n := 13) (L' := [(2, gJ 0), (0, gA n0 190), (1, gJ a)]) X dX12_plan_12 rfl (by decide) rfl rfl ?_
    refine g_iconst (n := 14) X dX12_plan_13 rfl ?_
    refine g_istore_n (n := 15) (L' := [(3, gJ 0), (2, gJ 0), (0, gA n0 190), (1, gJ a)]) X dX12_plan_14 rfl (by decide) rfl rfl ?_
    refine g_iconst (n := 16) X dX12_plan_15 rfl ?_
    refine g_istore (n := 18) (L' := [(4, gJ 0), (3, gJ 0), (2, gJ 0), (0, gA n0 190), (1, gJ a)]) X dX12_plan_16 (by decide) rfl rfl ?_
    refine g_iload (n := 20) X 0 dX12_plan_18 rfl rfl ?_
    refine g_iconst (n := 21) X dX12_plan_20 rfl ?_
    refine g_icmp_ge (n := 24) (tgt := 86) X dX12_plan_21 (by decide) (by omega) (by omega) rfl (fun c5 => by exfalso; omega) (fun c5 => ?_)
    refine g_iload_n (n := 25) X 2 dX12_plan_24 rfl rfl rfl ?_
    refine g_aload_n (n := 26) X 3 dX12_plan_25 rfl rfl rfl ?_
    refine gg_12_1 (n := 29) (z := 191) X (by omega) (by omega) lay_190 kw_6_27 dX12_plan_26 rfl f_190_1 (by omega) ?_
    refine g_sipush (n := 32) X dX12_plan_29 (by decide +kernel) rfl ?_
    refine g_iload (n := 34) X 0 dX12_plan_32 rfl rfl ?_
    refine g_iadd (n := 35) (z := 2580) X dX12_plan_34 rfl rfl ?_
    refine g_iald (n := 36) X (by omega) (by omega) lay_191 (by omega) (by omega) (by omega) dX12_plan_35 rfl ?_
    rw [show M 191 2580 = 0 from ((hS 2580 (by omega) (by omega)).trans (by decide))]
    refine g_if_le (n := 39) (tgt := 43) X dX12_plan_36 (by decide) (by omega) rfl (fun c6 => ?_) (fun c6 => by exfalso; omega)
    refine g_iconst (n := 44) X dX12_plan_43 rfl ?_
    refine g_iadd (n := 45) (z := 0) X dX12_plan_44 rfl rfl ?_
    refine g_istore_n (n := 46) (L' := [(2, gJ 0), (4, gJ 0), (3, gJ 0), (0, gA n0 190), (1, gJ a)]) X dX12_plan_45 rfl (by decide) rfl rfl ?_
    refine g_iload_n (n := 47) X 2 dX12_plan_46 rfl rfl rfl ?_
    refine g_if_ne (n := 50) (tgt := 74) X dX12_plan_47 (by decide) (by omega) rfl (fun c7 => by exfalso; omega) (fun c7 => ?_)
    refine g_aload_n (n := 51) X 3 dX12_plan_50 rfl rfl rfl ?_
    refine gg_12_1 (n := 54) (z := 191) X (by omega) (by omega) lay_190 kw_6_27 dX12_plan_51 rfl f_190_1 (by omega) ?_
    refine g_iconst (n := 55) X dX12_plan_54 rfl ?_
    refine g_iald (n := 56) X (by omega) (by omega) lay_191 (by omega) (by omega) (by omega) dX12_plan_55 rfl ?_
    rw [show M 191 0 = 0 from ((hS 0 (by omega) (by omega)).trans (by decide))]
    refine g_aload_n (n := 57) X 3 dX12_plan_56 rfl rfl rfl ?_
    refine gg_12_1 (n := 60) (z := 191) X (by omega) (by omega) lay_190 kw_6_27 dX12_plan_57 rfl f_190_1 (by omega) ?_
    refine g_sipush (n := 63) X dX12_plan_60 (by decide +kernel) rfl ?_
    refine g_iload (n := 65) X 1 dX12_plan_63 rfl rfl ?_
    refine g_iadd (n := 66) (z := 2580) X dX12_plan_65 rfl rfl ?_
    refine g_iald (n := 67) X (by omega) (by omega) lay_191 (by omega) (by omega) (by omega) dX12_plan_66 rfl ?_
    rw [show M 191 2580 = 0 from ((hS 2580 (by omega) (by omega)).trans (by decide))]
    refine g_iadd (n := 68) (z := 0) X dX12_plan_67 rfl rfl ?_
    refine g_sipush (n := 71) X dX12_plan_68 (by decide +kernel) rfl ?_
    refine g_icmp_le (n := 74) (tgt := 78) X dX12_plan_71 (by decide) (by omega) (by omega) rfl (fun c8 => ?_) (fun c8 => by exfalso; omega)
    refine g_iconst (n := 79) X dX12_plan_78 rfl ?_
    refine g_istore_n (n := 80) (L' := [(3, gJ 0), (2, gJ 0), (4, gJ 0), (0, gA n0 190), (1, gJ a)]) X dX12_plan_79 rfl (by decide) rfl rfl ?_
    refine g_iinc (n := 83) (w := 1) (L' := [(4, gJ 1), (3, gJ 0), (2, gJ 0), (0, gA n0 190), (1, gJ a)]) X 2 dX12_plan_80 rfl rfl (by decide) rfl rfl ?_
    refine g_goto (tgt := 18) X dX12_plan_83 (by decide) ?_
    refine g_iload (n := 20) X 0 dX12_plan_18 rfl rfl ?_
    refine g_iconst (n := 21) X dX12_plan_20 rfl ?_
    refine g_icmp_ge (n := 24) (tgt := 86) X dX12_plan_21 (by decide) (by omega) (by omega) rfl (fun c9 => by exfalso; omega) (fun c9 => ?_)
    refine g_iload_n (n := 25) X 2 dX12_plan_24 rfl rfl rfl ?_
    refine g_aload_n (n := 26) X 3 dX12_plan_25 rfl rfl rfl ?_
    refine gg_12_1 (n := 29) (z := 191) X (by omega) (by omega) lay_190 kw_6_27 dX12_plan_26 rfl f_190_1 (by omega) ?_
    refine g_sipush (n := 32) X dX12_plan_29 (by decide +kernel) rfl ?_
    refine g_iload (n := 34) X 0 dX12_plan_32 rfl rfl ?_
    refine g_iadd (n := 35) (z := 2581) X dX12_plan_34 rfl rfl ?_
    refine g_iald (n := 36) X (by omega) (by omega) lay_191 (by omega) (by omega) (by omega) dX12_plan_35 rfl ?_
    rw [show M 191 2581 = 0 from ((hS 2581 (by omega) (by omega)).trans (by decide))]
    refine g_if_le (n := 39) (tgt := 43) X dX12_plan_36 (by decide) (by omega) rfl (fun c10 => ?_) (fun c10 => by exfalso; omega)
    refine g_iconst (n := 44) X dX12_plan_43 rfl ?_
    refine g_iadd (n := 45) (z := 0) X dX12_plan_44 rfl rfl ?_
    refine g_istore_n (n := 46) (L' := [(2, gJ 0), (4, gJ 1), (3, gJ 0), (0, gA n0 190), (1, gJ a)]) X dX12_plan_45 rfl (by decide) rfl rfl ?_
    refine g_iload_n (n := 47) X 2 dX12_plan_46 rfl rfl rfl ?_
    refine g_if_ne (n := 50) (tgt := 74) X dX12_plan_47 (by decide) (by omega) rfl (fun c11 => by exfalso; omega) (fun c11 => ?_)
    refine g_aload_n (n := 51) X 3 dX12_plan_50 rfl rfl rfl ?_
    refine gg_12_1 (n := 54) (z := 191) X (by omega) (by omega) lay_190 kw_6_27 dX12_plan_51 rfl f_190_1 (by omega) ?_
    refine g_iconst (n := 55) X dX12_plan_54 rfl ?_
    refine g_iald (n := 56) X (by omega) (by omega) lay_191 (by omega) (by omega) (by omega) dX12_plan_55 rfl ?_
    rw [show M 191 0 = 0 from ((hS 0 (by omega) (by omega)).trans (by decide))]
    refine g_aload_n (n := 57) X 3 dX12_plan_56 rfl rfl rfl ?_
    refine gg_12_1 (n := 60) (z := 191) X (by omega) (by omega) lay_190 kw_6_27 dX12_plan_57 rfl f_190_1 (by omega) ?_
    refine g_sipush (n := 63) X dX12_plan_60 (by decide +kernel) rfl ?_
    refine g_iload (n := 65) X 1 dX12_plan_63 rfl rfl ?_
    refine g_iadd (n := 66) (z := 2581) X dX12_plan_65 rfl rfl ?_
    refine g_iald (n := 67) X (by omega) (by omega) lay_191 (by omega) (by omega) (by omega) dX12_plan_66 rfl ?_
    rw [show M 191 2581 = 0 from ((hS 2581 (by omega) (by omega)).trans (by decide))]
    refine g_iadd (n := 68) (z := 0) X dX12_plan_67 rfl rfl ?_
    refine g_sipush (n := 71) X dX12_plan_68 (by decide +kernel) rfl ?_
    refine g_icmp_le (n := 74) (tgt := 78) X dX12_plan_71 (by decide) (by omega) (by omega) rfl (fun c12 => ?_) (fun c12 => by exfalso; omega)
    refine g_iconst (n := 79) X dX12_plan_78 rfl ?_
    refine g_istore_n (n := 80) (L' := [(3, gJ 0), (2, gJ 0), (4, gJ 1), (0, gA n0 190), (1, gJ a)]) X dX12_plan_79 rfl (by decide) rfl rfl ?_
    refine g_iinc (n := 83) (w := 2) (L' := [(4, gJ 2), (3, gJ 0), (2, gJ 0), (0, gA n0 190), (1, gJ a)]) X 2 dX12_plan_80 rfl rfl (by decide) rfl rfl ?_
    refine g_goto (tgt := 18) X dX12_plan_83 (by decide) ?_
    refine g_iload (n := 20) X 0 dX12_plan_18 rfl rfl ?_
    refine g_iconst (n := 21) X dX12_plan_20 rfl ?_
    refine g_icmp_ge (n := 24) (tgt := 86) X dX12_plan_21 (by decide) (by omega) (by omega) rfl (fun c13 => by exfalso; omega) (fun c13 => ?_)
    refine g_iload_n (n := 25) X 2 dX12_plan_24 rfl rfl rfl ?_
    refine g_aload_n (n := 26) X 3 dX12_plan_25 rfl rfl rfl ?_
    refine gg_12_1 (n := 29) (z := 191) X (by omega) (by omega) lay_190 kw_6_27 dX12_plan_26 rfl f_190_1 (by omega) ?_
    refine g_sipush (n := 32) X dX12_plan_29 (by decide +kernel) rfl ?_
    refine g_iload (n := 34) X 0 dX12_plan_32 rfl rfl ?_
    refine g_iadd (n := 35) (z := 2582) X dX12_plan_34 rfl rfl ?_
    refine g_iald (n := 36) X (by omega) (by omega) lay_191 (by omega) (by omega) (by omega) dX12_plan_35 rfl ?_
    rw [show M 191 2582 = 0 from ((hS 2582 (by omega) (by omega)).trans (by decide))]
    refine g_if_le (n := 39) (tgt := 43) X dX12_plan_36 (by decide) (by omega) rfl (fun c14 => ?_) (fun c14 => by exfalso; omega)
    refine g_iconst (n := 44) X dX12_plan_43 rfl ?_
    refine g_iadd (n := 45) (z := 0) X dX12_plan_44 rfl rfl ?_
    refine g_istore_n (n := 46) (L' := [(2, gJ 0), (4, gJ 2), (3, gJ 0), (0, gA n0 190), (1, gJ a)]) X dX12_plan_45 rfl (by decide) rfl rfl ?_
    refine g_iload_n (n := 47) X 2 dX12_plan_46 rfl rfl rfl ?_
    refine g_if_ne (n := 50) (tgt := 74) X dX12_plan_47 (by decide) (by omega) rfl (fun c15 => by exfalso; omega) (fun c15 => ?_)
    refine g_aload_n (n := 51) X 3 dX12_plan_50 rfl rfl rfl ?_
    refine gg_12_1 (n := 54) (z := 191) X (by omega) (by omega) lay_190 kw_6_27 dX12_plan_51 rfl f_190_1 (by omega) ?_
    refine g_iconst (n := 55) X dX12_plan_54 rfl ?_
    refine g_iald (n := 56) X (by omega) (by omega) lay_191 (by omega) (by omega) (by omega) dX12_plan_55 rfl ?_
    rw [show M 191 0 = 0 from ((hS 0 (by omega) (by omega)).trans (by decide))]
    refine g_aload_n (n := 57) X 3 dX12_plan_56 rfl rfl rfl ?_
    refine gg_12_1 (n := 60) (z := 191) X (by omega) (by omega) lay_190 kw_6_27 dX12_plan_57 rfl f_190_1 (by omega) ?_
    refine g_sipush (n := 63) X dX12_plan_60 (by decide +kernel) rfl ?_
    refine g_iload (n := 65) X 1 dX12_plan_63 rfl rfl ?_
    refine g_iadd (n := 66) (z := 2582) X dX12_plan_65 rfl rfl ?_
    refine g_iald (n := 67) X (by omega) (by omega) lay_191 (by omega) (by omega) (by omega) dX12_plan_66 rfl ?_
    rw [show M 191 2582 = 0 from ((hS 2582 (by omega) (by omega)).trans (by decide))]
    refine g_iadd (n := 68) (z := 0) X dX12_plan_67 rfl rfl ?_
    refine g_sipush (n := 71) X dX12_plan_68 (by decide +kernel) rfl ?_
    refine g_icmp_le (n := 74) (tgt := 78) X dX12_plan_71 (by decide) (by omega) (by omega) rfl (fun c16 => ?_) (fun c16 => by exfalso; omega)
    refine g_iconst (n := 79) X dX12_plan_78 rfl ?_
    refine g_istore_n (n := 80) (L' := [(3, gJ 0), (2, gJ 0), (4, gJ 2), (0, gA n0 190), (1, gJ a)]) X dX12_plan_79 rfl (by decide) rfl rfl ?_
    refine g_iinc (n := 83) (w := 3) (L' := [(4, gJ 3), (3, gJ 0), (2, gJ 0), (0, gA n0 190), (1, gJ a)]) X 2 dX12_plan_80 rfl rfl (by decide) rfl rfl ?_
    refine g_goto (tgt := 18) X dX12_plan_83 (by decide) ?_
    refine g_iload (n := 20) X 0 dX12_plan_18 rfl rfl ?_
    refine g_iconst (n := 21) X dX12_plan_20 rfl ?_
    refine g_icmp_ge (n := 24) (tgt := 86) X dX12_plan_21 (by decide) (by omega) (by omega) rfl (fun c17 => ?_) (fun c17 => by exfalso; omega)
    refine g_iload_n (n := 87) X 2 dX12_plan_86 rfl rfl rfl ?_
    refine g_if_eq (n := 90) (tgt := 94) X dX12_plan_87 (by decide) (by omega) rfl (fun c18 => ?_) (fun c18 => by exfalso; omega)
    refine g_bipush (n := 96) X dX12_plan_94 (by decide +kernel) rfl ?_
    exact g_ireturn X hr dX12_plan_96 (by exact ⟨by omega, fun a  => rfl⟩)
  · refine g_iconst (n := 10) X dX12_plan_9 rfl ?_
    exact g_ireturn X hr dX12_plan_10 (by exact ⟨by omega, fun a  => rfl⟩)
theorem dX12_tried_0 : decode cX12_tried 0 = .ok (.iload_n 1, 1) := by decide +kernel
theorem dX12_tried_1 : decode cX12_tried 1 = .ok (.iconst 0, 1) := by decide +kernel
theorem dX12_tried_2 : decode cX12_tried 2 = .ok (.iconst 2, 1) := by decide +kernel
theorem dX12_tried_3 : decode cX12_tried 3 = .ok (.invokestatic 64, 3) := by decide +kernel
theorem dX12_tried_6 : decode cX12_tried 6 = .ok (.ifCond .eq 25, 3) := by decide +kernel
theorem dX12_tried_31 : decode cX12_tried 31 = .ok (.iconst (-1), 1) := by decide +kernel
theorem dX12_tried_32 : decode cX12_tried 32 = .ok (.ireturn, 1) := by decide +kernel
theorem dX12_tried_9 : decode cX12_tried 9 = .ok (.aload_n 0, 1) := by decide +kernel
theorem dX12_tried_10 : decode cX12_tried 10 = .ok (.getfield 7, 3) := by decide +kernel
theorem dX12_tried_13 : decode cX12_tried 13 = .ok (.sipush 2580, 3) := by decide +kernel
theorem dX12_tried_16 : decode cX12_tried 16 = .ok (.iload_n 1, 1) := by decide +kernel
theorem dX12_tried_17 : decode cX12_tried 17 = .ok (.iadd, 1) := by decide +kernel
theorem dX12_tried_18 : decode cX12_tried 18 = .ok (.iaload, 1) := by decide +kernel
theorem dX12_tried_19 : decode cX12_tried 19 = .ok (.ifCond .eq 12, 3) := by decide +kernel
set_option maxRecDepth 100000 in
set_option maxHeartbeats 4000000 in
theorem c_X12_tried {l : Launch} {n0 : Nat} {D : va_G} {cA : Nat → ClassId} {M : gM} (a b : Int) (r_a : -2147483648 ≤ a ∧ a ≤ 2147483647) (r_b : -2147483648 ≤ b ∧ b ≤ 2147483647) {sz : Nat} (hsz : 206 ≤ sz) (f_190_1 : M 190 1 = 192) (hS : ∀ i : Int, 0 ≤ i → i < 25301 → M 191 i = gS0 i) : Met l yX12_tried (gWsOf yX12_tried cX12_tried 9 (Option.some Jvm.ClassFile.FieldType.int)) { frames := 144, cells := 0, slots := 0, locals := 6035 } (gPc n0 D cA [gA n0 190, gJ a, gJ b] M sz) (gQi n0 D cA sz (fun z M1 => (z = -1) ∧ ∀ a : Int, M1 a = M a)) 0 0 (fun q => n0 ≤ q) := by
  refine gMet_of [gA n0 190, gJ a, gJ b] (by decide) (Nat.le_of_ble_eq_true rfl) ?_
  intro p e s m args below meth cd X hr hm
  have X : gCx p s m args meth cd n0 D cA "ParishUnionModel" cX12_tried 9 := X
  show G p l e ({ frames := 144, cells := 0, slots := 0, locals := 6035 } : Room) s m args below meth cd n0 D cA 9 (MQ below (gQi n0 D cA sz (fun z M1 => (z = -1) ∧ ∀ a : Int, M1 a = M a)) args s 0 0 (fun q => n0 ≤ q)) 0 0 M sz 0 [(0, gA n0 190), (1, gJ a), (2, gJ b)] []
  refine g_iload_n (n := 1) X 1 dX12_tried_0 rfl rfl rfl ?_
  refine g_iconst (n := 2) X dX12_tried_1 rfl ?_
  refine g_iconst (n := 3) X dX12_tried_2 rfl ?_
  refine g_callSi (n := 6) (As := [gJ a, gJ 0, gJ 2]) (rest := []) (cs1 := 0) (ss1 := 0) X (c_X12_in a 0 2 (by omega) (by omega) (by omega) (by omega)) okX12_in kw_6_106 kw_6_107 ⟨rfl, rfl⟩ ⟨Nat.le_of_ble_eq_true rfl, Nat.le_of_ble_eq_true rfl⟩ rfl rfl (Nat.le_of_ble_eq_true rfl) ⟨Nat.le_of_ble_eq_true rfl, Nat.le_of_ble_eq_true rfl⟩ rfl rfl dX12_tried_3 rfl (fun z1 M2 P3 => ?_)
  obtain ⟨rfl, P3⟩ := P3
  refine g_if_eq (n := 9) (tgt := 31) X dX12_tried_6 (by decide) (by omega) rfl (fun c4 => ?_) (fun c4 => ?_)
  · refine g_iconst (n := 32) X dX12_tried_31 rfl ?_
    exact g_ireturn X hr dX12_tried_32 (by exact ⟨by omega, fun a  => rfl⟩)
  · refine g_aload_n (n := 10) X 0 dX12_tried_9 rfl rfl rfl ?_
    refine gg_12_1 (n := 13) (z := 191) X (by omega) (by omega) lay_190 kw_6_27 dX12_tried_10 rfl f_190_1 (by omega) ?_
    refine g_sipush (n := 16) X dX12_tried_13 (by decide +kernel) rfl ?_
    refine g_iload_n (n := 17) X 1 dX12_tried_16 rfl rfl rfl ?_
    refine g_iadd (n := 18) (z := 2580 + a) X dX12_tried_17 rfl rfl ?_
    refine g_iald (n := 19) X (by omega) (by omega) lay_191 (by omega) (by omega) (by omega) dX12_tried_18 rfl ?_
    rw [show M 191 (2580 + a) = 0 from ((hS _ (by omega) (by omega)).trans (gS0_zero (by omega)))]
    refine g_if_eq (n := 22) (tgt := 31) X dX12_tried_19 (by decide) (by omega) rfl (fun c5 => ?_) (fun c5 => by exfalso; omega)
    refine g_iconst (n := 32) X dX12_tried_31 rfl ?_
    exact g_ireturn X hr dX12_tried_32 (by exact ⟨by omega, fun a  => rfl⟩)
theorem dX12_keep_0 : decode cX12_keep 0 = .ok (.iconst 0, 1) := by decide +kernel
theorem dX12_keep_1 : decode cX12_keep 1 = .ok (.istore_n 3, 1) := by decide +kernel
theorem dX12_keep_2 : decode cX12_keep 2 = .ok (.iload_n 3, 1) := by decide +kernel
theorem dX12_keep_3 : decode cX12_keep 3 = .ok (.sipush 25301, 3) := by decide +kernel
theorem dX12_keep_6 : decode cX12_keep 6 = .ok (.if_icmp .ge 15, 3) := by decide +kernel
theorem dX12_keep_21 : decode cX12_keep 21 = .ok (.return_, 1) := by decide +kernel
theorem dX12_keep_9 : decode cX12_keep 9 = .ok (.aload_n 1, 1) := by decide +kernel
theorem dX12_keep_10 : decode cX12_keep 10 = .ok (.iload_n 3, 1) := by decide +kernel
theorem dX12_keep_11 : decode cX12_keep 11 = .ok (.aload_n 2, 1) := by decide +kernel
theorem dX12_keep_12 : decode cX12_keep 12 = .ok (.iload_n 3, 1) := by decide +kernel
theorem dX12_keep_13 : decode cX12_keep 13 = .ok (.iaload, 1) := by decide +kernel
theorem dX12_keep_14 : decode cX12_keep 14 = .ok (.iastore, 1) := by decide +kernel
theorem dX12_keep_15 : decode cX12_keep 15 = .ok (.iinc 3 1, 3) := by decide +kernel
theorem dX12_keep_18 : decode cX12_keep 18 = .ok (.goto (-16), 3) := by decide +kernel
set_option maxRecDepth 100000 in
set_option maxHeartbeats 4000000 in
theorem c_X12_keep {l : Launch} {n0 : Nat} {D : va_G} {cA : Nat → ClassId} {M : gM}  {sz : Nat} (hsz : 206 ≤ sz) : Met l yX12_keep (gWsOf yX12_keep cX12_keep 4 (Option.none : Option Jvm.ClassFile.FieldType)) { frames := 0, cells := 0, slots := 0, locals := 0 } (gPc n0 D cA [gA n0 190, gA n0 193, gA n0 191] M sz) (gQv n0 D cA sz (fun M1 => ∀ a : Int, a ≠ 193 → M1 a = M a)) 0 0 (fun q => n0 ≤ q) := by
  refine gMet_of [gA n0 190, gA n0 193, gA n0 191] (by decide) (Nat.le_of_ble_eq_true rfl) ?_
  intro p e s m args below meth cd X hr hm
  have X : gCx p s m args meth cd n0 D cA "ParishUnionModel" cX12_keep 4 := X
  show G p l e ({ frames := 0, cells := 0, slots := 0, locals := 0 } : Room) s m args below meth cd n0 D cA 4 (MQ below (gQv n0 D cA sz (fun M1 => ∀ a : Int, a ≠ 193 → M1 a = M a)) args s 0 0 (fun q => n0 ≤ q)) 0 0 M sz 0 [(0, gA n0 190), (1, gA n0 193), (2, gA n0 191)] []
  refine g_iconst (n := 1) X dX12_keep_0 rfl ?_
  refine g_istore_n (n := 2) (L' := [(3, gJ 0), (0, gA n0 190), (1, gA n0 193), (2, gA n0 191)]) X dX12_keep_1 rfl (by decide) rfl rfl ?_
  have loop1 : ∀ (N3 : Nat) (j : Int) (M5 : gM), (∀ a : Int, a ≠ 193 → M5 a = M a) → (0 ≤ j ∧ j ≤ 25301) → (25301 - j).toNat < N3 → G p l e ({ frames := 0, cells := 0, slots := 0, locals := 0 } : Room) s m args below meth cd n0 D cA 4 (MQ below (gQv n0 D cA sz (fun M1 => ∀ a : Int, a ≠ 193 → M1 a = M a)) args s 0 0 (fun q => n0 ≤ q)) 0 0 M5 sz 2 [(0, gA n0 190), (1, gA n0 193), (2, gA n0 191), (3, gJ j)] [] := by
    intro N3; induction N3 with
    | zero => intro j M5 F6 ij hm4; exfalso; omega
    | succ N3 ih2 =>
      intro j M5 F6 ij hm4
      refine g_iload_n (n := 3) X 3 dX12_keep_2 rfl rfl rfl ?_
      refine g_sipush (n := 6) X dX12_keep_3 (by decide +kernel) rfl ?_
      refine g_icmp_ge (n := 9) (tgt := 21) X dX12_keep_6 (by decide) (by omega) (by omega) rfl (fun c7 => ?_) (fun c7 => ?_)
      · exact g_return X hr dX12_keep_21 (by exact (fun a h0 => ((F6 a (by omega)).trans rfl)))
      · refine g_aload_n (n := 10) X 1 dX12_keep_9 rfl rfl rfl ?_
        refine g_iload_n (n := 11) X 3 dX12_keep_10 rfl rfl rfl ?_
        refine g_aload_n (n := 12) X 2 dX12_keep_11 rfl rfl rfl ?_
        refine g_iload_n (n := 13) X 3 dX12_keep_12 rfl rfl rfl ?_
        refine g_iald (n := 14) X (by omega) (by omega) lay_191 (by omega) (by omega) (by omega) dX12_keep_13 rfl ?_
        refine g_iast (n := 15) X (by omega) (by omega) lay_193 (by omega) (by omega) (by omega) dX12_keep_14 rfl ?_
        refine G.nm (fun M8 e9 => ?_)
        refine g_iinc (n := 18) (w := j + 1) (L' := [(3, gJ (j + 1)), (0, gA n0 190), (1, gA n0 193), (2, gA n0 191)]) X 3 dX12_keep_15 rfl rfl (by decide) rfl rfl ?_
        refine g_goto (tgt := 2) X dX12_keep_18 (by decide) ?_
        refine G.sub (L' := [(0, gA n0 190), (1, gA n0 193), (2, gA n0 191), (3, gJ (j + 1))]) [1, 2, 3, 0] rfl ?_
        exact ih2 (j + 1) M8 (fun a h0 => ((congrFun e9 a).trans ((gset_off a (by omega)).trans ((F6 a (by omega)).trans rfl)))) (by omega) (by omega)
  refine G.sub (L' := [(0, gA n0 190), (1, gA n0 193), (2, gA n0 191), (3, gJ 0)]) [1, 2, 3, 0] rfl ?_
  exact loop1 _ 0 M (fun a _ => rfl) (by omega) (Nat.lt_succ_self _)
theorem dX12_image_0 : decode cX12_image 0 = .ok (.aload_n 0, 1) := by decide +kernel
theorem dX12_image_1 : decode cX12_image 1 = .ok (.aload_n 0, 1) := by decide +kernel
theorem dX12_image_2 : decode cX12_image 2 = .ok (.getfield 16, 3) := by decide +kernel
theorem kw_6_29 : (Jvm.Cond.fieldLink "ParishUnionModel" (16 : Nat) "ParishUnionModel" "image" "[I") ∈ gT := gT_of (tb_6 _ (List.mem_of_getElem? (i := 29) rfl)) rfl
theorem dX12_image_5 : decode cX12_image 5 = .ok (.aload_n 0, 1) := by decide +kernel
theorem dX12_image_6 : decode cX12_image 6 = .ok (.getfield 7, 3) := by decide +kernel
theorem dX12_image_9 : decode cX12_image 9 = .ok (.invokevirtual 296, 3) := by decide +kernel
theorem kw_8_13 : (Jvm.Cond.methodLink "ParishUnionModel" (296 : Nat) ({ cls := "ParishUnionModel", name := "keep", desc := "([I[I)V" } : Jvm.MethodName)) ∈ gT := gT_of (tb_8 _ (List.mem_of_getElem? (i := 13) rfl)) rfl
theorem kw_8_16 : (Jvm.Cond.code ({ cls := "ParishUnionModel", name := "keep", desc := "([I[I)V" } : Jvm.MethodName) prog_14_method_96_code (4 : Nat) (Option.none : Option Jvm.ClassFile.FieldType)) ∈ gT := gT_of (tb_8 _ (List.mem_of_getElem? (i := 16) rfl)) rfl
theorem okX12_keep : gQok yX12_keep cX12_keep 4 (Option.none : Option Jvm.ClassFile.FieldType) 2 := ⟨kw_8_16, kw_1_13, by decide +kernel, by decide +kernel, by decide +kernel⟩
theorem kw_8_15 : (Jvm.Cond.instanceMethod ({ cls := "ParishUnionModel", name := "keep", desc := "([I[I)V" } : Jvm.MethodName)) ∈ gT := gT_of (tb_8 _ (List.mem_of_getElem? (i := 15) rfl)) rfl
theorem kw_0_89 : (Jvm.Cond.selects "ParishUnionModel" ({ cls := "ParishUnionModel", name := "keep", desc := "([I[I)V" } : Jvm.MethodName) ({ cls := "ParishUnionModel", name := "keep", desc := "([I[I)V" } : Jvm.MethodName)) ∈ gT := gT_of (tb_0 _ (List.mem_of_getElem? (i := 89) rfl)) rfl
theorem dX12_image_12 : decode cX12_image 12 = .ok (.aload_n 0, 1) := by decide +kernel
theorem dX12_image_13 : decode cX12_image 13 = .ok (.iconst 1, 1) := by decide +kernel
theorem dX12_image_14 : decode cX12_image 14 = .ok (.putfield 312, 3) := by decide +kernel
theorem dX12_image_17 : decode cX12_image 17 = .ok (.aload_n 0, 1) := by decide +kernel
theorem dX12_image_18 : decode cX12_image 18 = .ok (.getfield 7, 3) := by decide +kernel
theorem dX12_image_21 : decode cX12_image 21 = .ok (.iconst 0, 1) := by decide +kernel
theorem dX12_image_22 : decode cX12_image 22 = .ok (.iaload, 1) := by decide +kernel
theorem dX12_image_23 : decode cX12_image 23 = .ok (.ireturn, 1) := by decide +kernel
set_option maxRecDepth 100000 in
set_option maxHeartbeats 4000000 in
theorem c_X12_image {l : Launch} {n0 : Nat} {D : va_G} {cA : Nat → ClassId} {M : gM}  {sz : Nat} (hsz : 206 ≤ sz) (f_190_1 : M 190 1 = 192) (f_191_0 : M 191 0 = 0) (f_190_3 : M 190 3 = 194) : Met l yX12_image (gWsOf yX12_image cX12_image 1 (Option.some Jvm.ClassFile.FieldType.int)) { frames := 1, cells := 0, slots := 0, locals := 23 } (gPc n0 D cA [gA n0 190] M sz) (gQi n0 D cA sz (fun z M1 => (z = 0) ∧ ∀ a : Int, a ≠ 190 → a ≠ 193 → M1 a = M a)) 0 0 (fun q => n0 ≤ q) := by
  refine gMet_of [gA n0 190] (by decide) (Nat.le_of_ble_eq_true rfl) ?_
  intro p e s m args below meth cd X hr hm
  have X : gCx p s m args meth cd n0 D cA "ParishUnionModel" cX12_image 1 := X
  show G p l e ({ frames := 1, cells := 0, slots := 0, locals := 23 } : Room) s m args below meth cd n0 D cA 1 (MQ below (gQi n0 D cA sz (fun z M1 => (z = 0) ∧ ∀ a : Int, a ≠ 190 → a ≠ 193 → M1 a = M a)) args s 0 0 (fun q => n0 ≤ q)) 0 0 M sz 0 [(0, gA n0 190)] []
  refine g_aload_n (n := 1) X 0 dX12_image_0 rfl rfl rfl ?_
  refine g_aload_n (n := 2) X 0 dX12_image_1 rfl rfl rfl ?_
  refine gg_12_3 (n := 5) (z := 193) X (by omega) (by omega) lay_190 kw_6_29 dX12_image_2 rfl f_190_3 (by omega) ?_
  refine g_aload_n (n := 6) X 0 dX12_image_5 rfl rfl rfl ?_
  refine gg_12_1 (n := 9) (z := 191) X (by omega) (by omega) lay_190 kw_6_27 dX12_image_6 rfl f_190_1 (by omega) ?_
  refine g_callVv (n := 12) (As := [gA n0 193, gA n0 191]) (rest := []) (cs1 := 0) (ss1 := 0) X (c_X12_keep (by omega)) okX12_keep kw_8_13 ⟨kw_8_15, kw_0_89⟩ ⟨rfl, rfl⟩ ⟨Nat.le_of_ble_eq_true rfl, Nat.le_of_ble_eq_true rfl⟩ rfl (by omega) (by omega) lay_190 rfl rfl (Nat.le_of_ble_eq_true rfl) ⟨Nat.le_of_ble_eq_true rfl, Nat.le_of_ble_eq_true rfl⟩ rfl rfl dX12_image_9 rfl (fun M2 P3 => ?_)
  have F4 := P3
  refine g_aload_n (n := 13) X 0 dX12_image_12 rfl rfl rfl ?_
  refine g_iconst (n := 14) X dX12_image_13 rfl ?_
  refine gp_12_4 (n := 17) X (by omega) (by omega) lay_190 kw_6_30 (by omega) dX12_image_14 rfl ?_
  refine G.nm (fun M5 e6 => ?_)
  refine g_aload_n (n := 18) X 0 dX12_image_17 rfl rfl rfl ?_
  refine gg_12_1 (n := 21) (z := 191) X (by omega) (by omega) lay_190 kw_6_27 dX12_image_18 rfl ((congrFun (congrFun e6 _) _).trans ((gset_ne (by omega)).trans ((congrFun (F4 190 (by omega)) _).trans f_190_1))) (by omega) ?_
  refine g_iconst (n := 22) X dX12_image_21 rfl ?_
  refine g_iald (n := 23) X (by omega) (by omega) lay_191 (by omega) (by omega) (by omega) dX12_image_22 rfl ?_
  rw [show M5 191 0 = 0 from ((congrFun (congrFun e6 _) _).trans ((gset_ne (by omega)).trans ((congrFun (F4 191 (by omega)) _).trans f_191_0)))]
  exact g_ireturn X hr dX12_image_23 (by exact ⟨by omega, fun a h0 h1 => ((congrFun e6 a).trans ((gset_off a (by omega)).trans ((F4 a (by omega)).trans rfl)))⟩)
theorem dX12_manyAt_0 : decode cX12_manyAt 0 = .ok (.iconst 0, 1) := by decide +kernel
theorem dX12_manyAt_1 : decode cX12_manyAt 1 = .ok (.istore_n 2, 1) := by decide +kernel
theorem dX12_manyAt_2 : decode cX12_manyAt 2 = .ok (.iconst 0, 1) := by decide +kernel
theorem dX12_manyAt_3 : decode cX12_manyAt 3 = .ok (.istore_n 3, 1) := by decide +kernel
theorem dX12_manyAt_4 : decode cX12_manyAt 4 = .ok (.iload_n 3, 1) := by decide +kernel
theorem dX12_manyAt_5 : decode cX12_manyAt 5 = .ok (.aload_n 0, 1) := by decide +kernel
theorem dX12_manyAt_6 : decode cX12_manyAt 6 = .ok (.getfield 7, 3) := by decide +kernel
theorem dX12_manyAt_9 : decode cX12_manyAt 9 = .ok (.iconst 1, 1) := by decide +kernel
theorem dX12_manyAt_10 : decode cX12_manyAt 10 = .ok (.iaload, 1) := by decide +kernel
theorem dX12_manyAt_11 : decode cX12_manyAt 11 = .ok (.if_icmp .ge 31, 3) := by decide +kernel
theorem dX12_manyAt_42 : decode cX12_manyAt 42 = .ok (.iload_n 2, 1) := by decide +kernel
theorem dX12_manyAt_43 : decode cX12_manyAt 43 = .ok (.ireturn, 1) := by decide +kernel
set_option maxRecDepth 100000 in
set_option maxHeartbeats 4000000 in
theorem c_X12_manyAt {l : Launch} {n0 : Nat} {D : va_G} {cA : Nat → ClassId} {M : gM} (a : Int) (r_a : -2147483648 ≤ a ∧ a ≤ 2147483647) {sz : Nat} (hsz : 206 ≤ sz) (f_190_1 : M 190 1 = 192) (f_191_1 : M 191 1 = 0) : Met l yX12_manyAt (gWsOf yX12_manyAt cX12_manyAt 4 (Option.some Jvm.ClassFile.FieldType.int)) { frames := 0, cells := 0, slots := 0, locals := 0 } (gPc n0 D cA [gA n0 190, gJ a] M sz) (gQi n0 D cA sz (fun z M1 => M = M1 ∧ (z = 0))) 0 0 (fun q => n0 ≤ q) := by
  refine gMet_of [gA n0 190, gJ a] (by decide) (Nat.le_of_ble_eq_true rfl) ?_
  intro p e s m args below meth cd X hr hm
  have X : gCx p s m args meth cd n0 D cA "ParishUnionModel" cX12_manyAt 4 := X
  show G p l e ({ frames := 0, cells := 0, slots := 0, locals := 0 } : Room) s m args below meth cd n0 D cA 4 (MQ below (gQi n0 D cA sz (fun z M1 => M = M1 ∧ (z = 0))) args s 0 0 (fun q => n0 ≤ q)) 0 0 M sz 0 [(0, gA n0 190), (1, gJ a)] []
  refine g_iconst (n := 1) X dX12_manyAt_0 rfl ?_
  refine g_istore_n (n := 2) (L' := [(2, gJ 0), (0, gA n0 190), (1, gJ a)]) X dX12_manyAt_1 rfl (by decide) rfl rfl ?_
  refine g_iconst (n := 3) X dX12_manyAt_2 rfl ?_
  refine g_istore_n (n := 4) (L' := [(3, gJ 0), (2, gJ 0), (0, gA n0 190), (1, gJ a)]) X dX12_manyAt_3 rfl (by decide) rfl rfl ?_
  refine g_iload_n (n := 5) X 0 dX12_manyAt_4 rfl rfl rfl ?_
  refine g_aload_n (n := 6) X 2 dX12_manyAt_5 rfl rfl rfl ?_
  refine gg_12_1 (n := 9) (z := 191) X (by omega) (by omega) lay_190 kw_6_27 dX12_manyAt_6 rfl f_190_1 (by omega) ?_
  refine g_iconst (n := 10) X dX12_manyAt_9 rfl ?_
  refine g_iald (n := 11) X (by omega) (by omega) lay_191 (by omega) (by omega) (by omega) dX12_manyAt_10 rfl ?_
  rw [show M 191 1 = 0 from f_191_1]
  refine g_icmp_ge (n := 14) (tgt := 42) X dX12_manyAt_11 (by decide) (by omega) (by omega) rfl (fun c1 => ?_) (fun c1 => by exfalso; omega)
  refine g_iload_n (n := 43) X 1 dX12_manyAt_42 rfl rfl rfl ?_
  exact g_ireturn X hr dX12_manyAt_43 (by exact ⟨rfl, by omega⟩)
theorem dX12_count_0 : decode cX12_count 0 = .ok (.iload_n 1, 1) := by decide +kernel
theorem dX12_count_1 : decode cX12_count 1 = .ok (.tableswitch 174 0 13 #[71, 78, 85, 92, 99, 106, 113, 121, 128, 135, 142, 150, 158, 166], 71) := by decide +kernel
theorem dX12_count_72 : decode cX12_count 72 = .ok (.aload_n 0, 1) := by decide +kernel
theorem dX12_count_73 : decode cX12_count 73 = .ok (.getfield 7, 3) := by decide +kernel
theorem dX12_count_76 : decode cX12_count 76 = .ok (.iconst 1, 1) := by decide +kernel
theorem dX12_count_77 : decode cX12_count 77 = .ok (.iaload, 1) := by decide +kernel
theorem dX12_count_78 : decode cX12_count 78 = .ok (.ireturn, 1) := by decide +kernel
theorem dX12_count_79 : decode cX12_count 79 = .ok (.aload_n 0, 1) := by decide +kernel
theorem dX12_count_80 : decode cX12_count 80 = .ok (.getfield 7, 3) := by decide +kernel
theorem dX12_count_83 : decode cX12_count 83 = .ok (.iconst 2, 1) := by decide +kernel
theorem dX12_count_84 : decode cX12_count 84 = .ok (.iaload, 1) := by decide +kernel
theorem dX12_count_85 : decode cX12_count 85 = .ok (.ireturn, 1) := by decide +kernel
theorem dX12_count_86 : decode cX12_count 86 = .ok (.aload_n 0, 1) := by decide +kernel
theorem dX12_count_87 : decode cX12_count 87 = .ok (.getfield 7, 3) := by decide +kernel
theorem dX12_count_90 : decode cX12_count 90 = .ok (.iconst 3, 1) := by decide +kernel
theorem dX12_count_91 : decode cX12_count 91 = .ok (.iaload, 1) := by decide +kernel
theorem dX12_count_92 : decode cX12_count 92 = .ok (.ireturn, 1) := by decide +kernel
theorem dX12_count_93 : decode cX12_count 93 = .ok (.aload_n 0, 1) := by decide +kernel
theorem dX12_count_94 : decode cX12_count 94 = .ok (.getfield 7, 3) := by decide +kernel
theorem dX12_count_97 : decode cX12_count 97 = .ok (.iconst 4, 1) := by decide +kernel
theorem dX12_count_98 : decode cX12_count 98 = .ok (.iaload, 1) := by decide +kernel
theorem dX12_count_99 : decode cX12_count 99 = .ok (.ireturn, 1) := by decide +kernel
theorem dX12_count_100 : decode cX12_count 100 = .ok (.aload_n 0, 1) := by decide +kernel
theorem dX12_count_101 : decode cX12_count 101 = .ok (.getfield 7, 3) := by decide +kernel
theorem dX12_count_104 : decode cX12_count 104 = .ok (.iconst 5, 1) := by decide +kernel
theorem dX12_count_105 : decode cX12_count 105 = .ok (.iaload, 1) := by decide +kernel
theorem dX12_count_106 : decode cX12_count 106 = .ok (.ireturn, 1) := by decide +kernel
theorem dX12_count_107 : decode cX12_count 107 = .ok (.aload_n 0, 1) := by decide +kernel
theorem dX12_count_108 : decode cX12_count 108 = .ok (.getfield 7, 3) := by decide +kernel
theorem dX12_count_111 : decode cX12_count 111 = .ok (.iconst 0, 1) := by decide +kernel
theorem dX12_count_112 : decode cX12_count 112 = .ok (.iaload, 1) := by decide +kernel
theorem dX12_count_113 : decode cX12_count 113 = .ok (.ireturn, 1) := by decide +kernel
theorem dX12_count_114 : decode cX12_count 114 = .ok (.aload_n 0, 1) := by decide +kernel
theorem dX12_count_115 : decode cX12_count 115 = .ok (.getfield 7, 3) := by decide +kernel
theorem dX12_count_118 : decode cX12_count 118 = .ok (.bipush 10, 2) := by decide +kernel
theorem dX12_count_120 : decode cX12_count 120 = .ok (.iaload, 1) := by decide +kernel
theorem dX12_count_121 : decode cX12_count 121 = .ok (.ireturn, 1) := by decide +kernel
theorem dX12_count_122 : decode cX12_count 122 = .ok (.aload_n 0, 1) := by decide +kernel
theorem dX12_count_123 : decode cX12_count 123 = .ok (.bipush 6, 2) := by decide +kernel
theorem dX12_count_125 : decode cX12_count 125 = .ok (.invokevirtual 315, 3) := by decide +kernel
theorem kw_8_49 : (Jvm.Cond.methodLink "ParishUnionModel" (315 : Nat) ({ cls := "ParishUnionModel", name := "manyAt", desc := "(I)I" } : Jvm.MethodName)) ∈ gT := gT_of (tb_8 _ (List.mem_of_getElem? (i := 49) rfl)) rfl
theorem kw_8_52 : (Jvm.Cond.code ({ cls := "ParishUnionModel", name := "manyAt", desc := "(I)I" } : Jvm.MethodName) prog_14_method_107_code (4 : Nat) (Option.some Jvm.ClassFile.FieldType.int)) ∈ gT := gT_of (tb_8 _ (List.mem_of_getElem? (i := 52) rfl)) rfl
theorem okX12_manyAt : gQok yX12_manyAt cX12_manyAt 4 (Option.some Jvm.ClassFile.FieldType.int) 1 := ⟨kw_8_52, kw_1_13, by decide +kernel, by decide +kernel, by decide +kernel⟩
theorem kw_8_51 : (Jvm.Cond.instanceMethod ({ cls := "ParishUnionModel", name := "manyAt", desc := "(I)I" } : Jvm.MethodName)) ∈ gT := gT_of (tb_8 _ (List.mem_of_getElem? (i := 51) rfl)) rfl
theorem kw_0_92 : (Jvm.Cond.selects "ParishUnionModel" ({ cls := "ParishUnionModel", name := "manyAt", desc := "(I)I" } : Jvm.MethodName) ({ cls := "ParishUnionModel", name := "manyAt", desc := "(I)I" } : Jvm.MethodName)) ∈ gT := gT_of (tb_0 _ (List.mem_of_getElem? (i := 92) rfl)) rfl
theorem dX12_count_128 : decode cX12_count 128 = .ok (.ireturn, 1) := by decide +kernel
theorem dX12_count_129 : decode cX12_count 129 = .ok (.aload_n 0, 1) := by decide +kernel
theorem dX12_count_130 : decode cX12_count 130 = .ok (.bipush 8, 2) := by decide +kernel
theorem dX12_count_132 : decode cX12_count 132 = .ok (.invokevirtual 315, 3) := by decide +kernel
theorem dX12_count_135 : decode cX12_count 135 = .ok (.ireturn, 1) := by decide +kernel
theorem dX12_count_136 : decode cX12_count 136 = .ok (.aload_n 0, 1) := by decide +kernel
theorem dX12_count_137 : decode cX12_count 137 = .ok (.bipush 7, 2) := by decide +kernel
theorem dX12_count_139 : decode cX12_count 139 = .ok (.invokevirtual 315, 3) := by decide +kernel
theorem dX12_count_142 : decode cX12_count 142 = .ok (.ireturn, 1) := by decide +kernel
theorem dX12_count_143 : decode cX12_count 143 = .ok (.aload_n 0, 1) := by decide +kernel
theorem dX12_count_144 : decode cX12_count 144 = .ok (.getfield 7, 3) := by decide +kernel
theorem dX12_count_147 : decode cX12_count 147 = .ok (.bipush 6, 2) := by decide +kernel
theorem dX12_count_149 : decode cX12_count 149 = .ok (.iaload, 1) := by decide +kernel
theorem dX12_count_150 : decode cX12_count 150 = .ok (.ireturn, 1) := by decide +kernel
theorem dX12_count_151 : decode cX12_count 151 = .ok (.aload_n 0, 1) := by decide +kernel
theorem dX12_count_152 : decode cX12_count 152 = .ok (.getfield 7, 3) := by decide +kernel
theorem dX12_count_155 : decode cX12_count 155 = .ok (.bipush 7, 2) := by decide +kernel
theorem dX12_count_157 : decode cX12_count 157 = .ok (.iaload, 1) := by decide +kernel
theorem dX12_count_158 : decode cX12_count 158 = .ok (.ireturn, 1) := by decide +kernel
theorem dX12_count_159 : decode cX12_count 159 = .ok (.aload_n 0, 1) := by decide +kernel
theorem dX12_count_160 : decode cX12_count 160 = .ok (.getfield 7, 3) := by decide +kernel
theorem dX12_count_163 : decode cX12_count 163 = .ok (.bipush 8, 2) := by decide +kernel
theorem dX12_count_165 : decode cX12_count 165 = .ok (.iaload, 1) := by decide +kernel
theorem dX12_count_166 : decode cX12_count 166 = .ok (.ireturn, 1) := by decide +kernel
theorem dX12_count_167 : decode cX12_count 167 = .ok (.aload_n 0, 1) := by decide +kernel
theorem dX12_count_168 : decode cX12_count 168 = .ok (.getfield 7, 3) := by decide +kernel
theorem dX12_count_171 : decode cX12_count 171 = .ok (.bipush 9, 2) := by decide +kernel
theorem dX12_count_173 : decode cX12_count 173 = .ok (.iaload, 1) := by decide +kernel
theorem dX12_count_174 : decode cX12_count 174 = .ok (.ireturn, 1) := by decide +kernel
theorem dX12_count_175 : decode cX12_count 175 = .ok (.iconst (-1), 1) := by decide +kernel
theorem dX12_count_176 : decode cX12_count 176 = .ok (.ireturn, 1) := by decide +kernel
set_option maxRecDepth 100000 in
set_option maxHeartbeats 4000000 in
theorem c_X12_count {l : Launch} {n0 : Nat} {D : va_G} {cA : Nat → ClassId} {M : gM} (a : Int) (r_a : -2147483648 ≤ a ∧ a ≤ 2147483647) {sz : Nat} (hsz : 206 ≤ sz) (f_190_1 : M 190 1 = 192) (f_191_0 : M 191 0 = 0) (f_191_1 : M 191 1 = 0) (f_191_2 : M 191 2 = 0) (f_191_3 : M 191 3 = 0) (f_191_4 : M 191 4 = 0) (f_191_5 : M 191 5 = 0) (f_191_6 : M 191 6 = 0) (f_191_7 : M 191 7 = 0) (f_191_8 : M 191 8 = 0) (f_191_9 : M 191 9 = 1) (f_191_10 : M 191 10 = 0) : Met l yX12_count (gWsOf yX12_count cX12_count 2 (Option.some Jvm.ClassFile.FieldType.int)) { frames := 1, cells := 0, slots := 0, locals := 23 } (gPc n0 D cA [gA n0 190, gJ a] M sz) (gQi n0 D cA sz (fun z M1 => ((0 ≤ a → a ≤ 12 → z = 0) ∧ (a = 13 → z = 1) ∧ (¬(0 ≤ a ∧ a ≤ 13) → z = -1)) ∧ ∀ a : Int, M1 a = M a)) 0 0 (fun q => n0 ≤ q) := by
  refine gMet_of [gA n0 190, gJ a] (by decide) (Nat.le_of_ble_eq_true rfl) ?_
  intro p e s m args below meth cd X hr hm
  have X : gCx p s m args meth cd n0 D cA "ParishUnionModel" cX12_count 2 := X
  show G p l e ({ frames := 1, cells := 0, slots := 0, locals := 23 } : Room) s m args below meth cd n0 D cA 2 (MQ below (gQi n0 D cA sz (fun z M1 => ((0 ≤ a → a ≤ 12 → z = 0) ∧ (a = 13 → z = 1) ∧ (¬(0 ≤ a ∧ a ≤ 13) → z = -1)) ∧ ∀ a : Int, M1 a = M a)) args s 0 0 (fun q => n0 ≤ q)) 0 0 M sz 0 [(0, gA n0 190), (1, gJ a)] []
  refine g_iload_n (n := 1) X 1 dX12_count_0 rfl rfl rfl ?_
  by_cases c1 : a = 0
  · refine g_tableIn (tgt := 72) X 0 dX12_count_1 (by omega) (by omega) (by omega) (by omega) rfl (by decide) ?_
    refine g_aload_n (n := 73) X 0 dX12_count_72 rfl rfl rfl ?_
    refine gg_12_1 (n := 76) (z := 191) X (by omega) (by omega) lay_190 kw_6_27 dX12_count_73 rfl f_190_1 (by omega) ?_
    refine g_iconst (n := 77) X dX12_count_76 rfl ?_
    refine g_iald (n := 78) X (by omega) (by omega) lay_191 (by omega) (by omega) (by omega) dX12_count_77 rfl ?_
    rw [show M 191 1 = 0 from f_191_1]
    exact g_ireturn X hr dX12_count_78 (by exact ⟨by omega, fun a  => rfl⟩)
  by_cases c2 : a = 1
  · refine g_tableIn (tgt := 79) X 1 dX12_count_1 (by omega) (by omega) (by omega) (by omega) rfl (by decide) ?_
    refine g_aload_n (n := 80) X 0 dX12_count_79 rfl rfl rfl ?_
    refine gg_12_1 (n := 83) (z := 191) X (by omega) (by omega) lay_190 kw_6_27 dX12_count_80 rfl f_190_1 (by omega) ?_
    refine g_iconst (n := 84) X dX12_count_83 rfl ?_
    refine g_iald (n := 85) X (by omega) (by omega) lay_191 (by omega) (by omega) (by omega) dX12_count_84 rfl ?_
    rw [show M 191 2 = 0 from f_191_2]
    exact g_ireturn X hr dX12_count_85 (by exact ⟨by omega, fun a  => rfl⟩)
  by_cases c3 : a = 2
  · refine g_tableIn (tgt := 86) X 2 dX12_count_1 (by omega) (by omega) (by omega) (by omega) rfl (by decide) ?_
    refine g_aload_n (n := 87) X 0 dX12_count_86 rfl rfl rfl ?_
    refine gg_12_1 (n := 90) (z := 191) X (by omega) (by omega) lay_190 kw_6_27 dX12_count_87 rfl f_190_1 (by omega) ?_
    refine g_iconst (n := 91) X dX12_count_90 rfl ?_
    refine g_iald (n := 92) X (by omega) (by omega) lay_191 (by omega) (by omega) (by omega) dX12_count_91 rfl ?_
    rw [show M 191 3 = 0 from f_191_3]
    exact g_ireturn X hr dX12_count_92 (by exact ⟨by omega, fun a  => rfl⟩)
  by_cases c4 : a = 3
  · refine g_tableIn (tgt := 93) X 3 dX12_count_1 (by omega) (by omega) (by omega) (by omega) rfl (by decide) ?_
    refine g_aload_n (n := 94) X 0 dX12_count_93 rfl rfl rfl ?_
    refine gg_12_1 (n := 97) (z := 191) X (by omega) (by omega) lay_190 kw_6_27 dX12_count_94 rfl f_190_1 (by omega) ?_
    refine g_iconst (n := 98) X dX12_count_97 rfl ?_
    refine g_iald (n := 99) X (by omega) (by omega) lay_191 (by omega) (by omega) (by omega) dX12_count_98 rfl ?_
    rw [show M 191 4 = 0 from f_191_4]
    exact g_ireturn X hr dX12_count_99 (by exact ⟨by omega, fun a  => rfl⟩)
  by_cases c5 : a = 4
  · refine g_tableIn (tgt := 100) X 4 dX12_count_1 (by omega) (by omega) (by omega) (by omega) rfl (by decide) ?_
    refine g_aload_n (n := 101) X 0 dX12_count_100 rfl rfl rfl ?_
    refine gg_12_1 (n := 104) (z := 191) X (by omega) (by omega) lay_190 kw_6_27 dX12_count_101 rfl f_190_1 (by omega) ?_
    refine g_iconst (n := 105) X dX12_count_104 rfl ?_
    refine g_iald (n := 106) X (by omega) (by omega) lay_191 (by omega) (by omega) (by omega) dX12_count_105 rfl ?_
    rw [show M 191 5 = 0 from f_191_5]
    exact g_ireturn X hr dX12_count_106 (by exact ⟨by omega, fun a  => rfl⟩)
  by_cases c6 : a = 5
  · refine g_tableIn (tgt := 107) X 5 dX12_count_1 (by omega) (by omega) (by omega) (by omega) rfl (by decide) ?_
    refine g_aload_n (n := 108) X 0 dX12_count_107 rfl rfl rfl ?_
    refine gg_12_1 (n := 111) (z := 191) X (by omega) (by omega) lay_190 kw_6_27 dX12_count_108 rfl f_190_1 (by omega) ?_
    refine g_iconst (n := 112) X dX12_count_111 rfl ?_
    refine g_iald (n := 113) X (by omega) (by omega) lay_191 (by omega) (by omega) (by omega) dX12_count_112 rfl ?_
    rw [show M 191 0 = 0 from f_191_0]
    exact g_ireturn X hr dX12_count_113 (by exact ⟨by omega, fun a  => rfl⟩)
  by_cases c7 : a = 6
  · refine g_tableIn (tgt := 114) X 6 dX12_count_1 (by omega) (by omega) (by omega) (by omega) rfl (by decide) ?_
    refine g_aload_n (n := 115) X 0 dX12_count_114 rfl rfl rfl ?_
    refine gg_12_1 (n := 118) (z := 191) X (by omega) (by omega) lay_190 kw_6_27 dX12_count_115 rfl f_190_1 (by omega) ?_
    refine g_bipush (n := 120) X dX12_count_118 (by decide +kernel) rfl ?_
    refine g_iald (n := 121) X (by omega) (by omega) lay_191 (by omega) (by omega) (by omega) dX12_count_120 rfl ?_
    rw [show M 191 10 = 0 from f_191_10]
    exact g_ireturn X hr dX12_count_121 (by exact ⟨by omega, fun a  => rfl⟩)
  by_cases c8 : a = 7
  · refine g_tableIn (tgt := 122) X 7 dX12_count_1 (by omega) (by omega) (by omega) (by omega) rfl (by decide) ?_
    refine g_aload_n (n := 123) X 0 dX12_count_122 rfl rfl rfl ?_
    refine g_bipush (n := 125) X dX12_count_123 (by decide +kernel) rfl ?_
    refine g_callVi (n := 128) (As := [gJ 6]) (rest := []) (cs1 := 0) (ss1 := 0) X (c_X12_manyAt 6 (by omega) (by omega) f_190_1 f_191_1) okX12_manyAt kw_8_49 ⟨kw_8_51, kw_0_92⟩ ⟨rfl, rfl⟩ ⟨Nat.le_of_ble_eq_true rfl, Nat.le_of_ble_eq_true rfl⟩ rfl (by omega) (by omega) lay_190 rfl rfl (Nat.le_of_ble_eq_true rfl) ⟨Nat.le_of_ble_eq_true rfl, Nat.le_of_ble_eq_true rfl⟩ rfl rfl dX12_count_125 rfl (fun z9 M10 P11 => ?_)
    obtain ⟨rfl, rfl⟩ := P11
    exact g_ireturn X hr dX12_count_128 (by exact ⟨by omega, fun a  => rfl⟩)
  by_cases c12 : a = 8
  · refine g_tableIn (tgt := 129) X 8 dX12_count_1 (by omega) (by omega) (by omega) (by omega) rfl (by decide) ?_
    refine g_aload_n (n := 130) X 0 dX12_count_129 rfl rfl rfl ?_
    refine g_bipush (n := 132) X dX12_count_130 (by decide +kernel) rfl ?_
    refine g_callVi (n := 135) (As := [gJ 8]) (rest := []) (cs1 := 0) (ss1 := 0) X (c_X12_manyAt 8 (by omega) (by omega) f_190_1 f_191_1) okX12_manyAt kw_8_49 ⟨kw_8_51, kw_0_92⟩ ⟨rfl, rfl⟩ ⟨Nat.le_of_ble_eq_true rfl, Nat.le_of_ble_eq_true rfl⟩ rfl (by omega) (by omega) lay_190 rfl rfl (Nat.le_of_ble_eq_true rfl) ⟨Nat.le_of_ble_eq_true rfl, Nat.le_of_ble_eq_true rfl⟩ rfl rfl dX12_count_132 rfl (fun z13 M14 P15 => ?_)
    obtain ⟨rfl, rfl⟩ := P15
    exact g_ireturn X hr dX12_count_135 (by exact ⟨by omega, fun a  => rfl⟩)
  by_cases c16 : a = 9
  · refine g_tableIn (tgt := 136) X 9 dX12_count_1 (by omega) (by omega) (by omega) (by omega) rfl (by decide) ?_
    refine g_aload_n (n := 137) X 0 dX12_count_136 rfl rfl rfl ?_
    refine g_bipush (n := 139) X dX12_count_137 (by decide +kernel) rfl ?_
    refine g_callVi (n := 142) (As := [gJ 7]) (rest := []) (cs1 := 0) (ss1 := 0) X (c_X12_manyAt 7 (by omega) (by omega) f_190_1 f_191_1) okX12_manyAt kw_8_49 ⟨kw_8_51, kw_0_92⟩ ⟨rfl, rfl⟩ ⟨Nat.le_of_ble_eq_true rfl, Nat.le_of_ble_eq_true rfl⟩ rfl (by omega) (by omega) lay_190 rfl rfl (Nat.le_of_ble_eq_true rfl) ⟨Nat.le_of_ble_eq_true rfl, Nat.le_of_ble_eq_true rfl⟩ rfl rfl dX12_count_139 rfl (fun z17 M18 P19 => ?_)
    obtain ⟨rfl, rfl⟩ := P19
    exact g_ireturn X hr dX12_count_142 (by exact ⟨by omega, fun a  => rfl⟩)
  by_cases c20 : a = 10
  · refine g_tableIn (tgt := 143) X 10 dX12_count_1 (by omega) (by omega) (by omega) (by omega) rfl (by decide) ?_
    refine g_aload_n (n := 144) X 0 dX12_count_143 rfl rfl rfl ?_
    refine gg_12_1 (n := 147) (z := 191) X (by omega) (by omega) lay_190 kw_6_27 dX12_count_144 rfl f_190_1 (by omega) ?_
    refine g_bipush (n := 149) X dX12_count_147 (by decide +kernel) rfl ?_
    refine g_iald (n := 150) X (by omega) (by omega) lay_191 (by omega) (by omega) (by omega) dX12_count_149 rfl ?_
    rw [show M 191 6 = 0 from f_191_6]
    exact g_ireturn X hr dX12_count_150 (by exact ⟨by omega, fun a  => rfl⟩)
  by_cases c21 : a = 11
  · refine g_tableIn (tgt := 151) X 11 dX12_count_1 (by omega) (by omega) (by omega) (by omega) rfl (by decide) ?_
    refine g_aload_n (n := 152) X 0 dX12_count_151 rfl rfl rfl ?_
    refine gg_12_1 (n := 155) (z := 191) X (by omega) (by omega) lay_190 kw_6_27 dX12_count_152 rfl f_190_1 (by omega) ?_
    refine g_bipush (n := 157) X dX12_count_155 (by decide +kernel) rfl ?_
    refine g_iald (n := 158) X (by omega) (by omega) lay_191 (by omega) (by omega) (by omega) dX12_count_157 rfl ?_
    rw [show M 191 7 = 0 from f_191_7]
    exact g_ireturn X hr dX12_count_158 (by exact ⟨by omega, fun a  => rfl⟩)
  by_cases c22 : a = 12
  · refine g_tableIn (tgt := 159) X 12 dX12_count_1 (by omega) (by omega) (by omega) (by omega) rfl (by decide) ?_
    refine g_aload_n (n := 160) X 0 dX12_count_159 rfl rfl rfl ?_
    refine gg_12_1 (n := 163) (z := 191) X (by omega) (by omega) lay_190 kw_6_27 dX12_count_160 rfl f_190_1 (by omega) ?_
    refine g_bipush (n := 165) X dX12_count_163 (by decide +kernel) rfl ?_
    refine g_iald (n := 166) X (by omega) (by omega) lay_191 (by omega) (by omega) (by omega) dX12_count_165 rfl ?_
    rw [show M 191 8 = 0 from f_191_8]
    exact g_ireturn X hr dX12_count_166 (by exact ⟨by omega, fun a  => rfl⟩)
  by_cases c23 : a = 13
  · refine g_tableIn (tgt := 167) X 13 dX12_count_1 (by omega) (by omega) (by omega) (by omega) rfl (by decide) ?_
    refine g_aload_n (n := 168) X 0 dX12_count_167 rfl rfl rfl ?_
    refine gg_12_1 (n := 171) (z := 191) X (by omega) (by omega) lay_190 kw_6_27 dX12_count_168 rfl f_190_1 (by omega) ?_
    refine g_bipush (n := 173) X dX12_count_171 (by decide +kernel) rfl ?_
    refine g_iald (n := 174) X (by omega) (by omega) lay_191 (by omega) (by omega) (by omega) dX12_count_173 rfl ?_
    rw [show M 191 9 = 1 from f_191_9]
    exact g_ireturn X hr dX12_count_174 (by exact ⟨by omega, fun a  => rfl⟩)
  refine g_tableOut (tgt := 175) X dX12_count_1 (by omega) (by omega) (by decide) ?_
  refine g_iconst (n := 176) X dX12_count_175 rfl ?_
  exact g_ireturn X hr dX12_count_176 (by exact ⟨by omega, fun a  => rfl⟩)
