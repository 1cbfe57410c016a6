theorem dX12_farOf_0 : decode cX12_farOf 0 = .ok (.aload_n 0, 1) := dc_42 (by decide +kernel)
theorem dX12_farOf_1 : decode cX12_farOf 1 = .ok (.getfield 7, 3) := dc_180 0 7 (by decide +kernel)
theorem dX12_farOf_4 : decode cX12_farOf 4 = .ok (.bipush 24, 2) := dc_16 24 24 (by decide +kernel)
theorem dX12_farOf_6 : decode cX12_farOf 6 = .ok (.bipush 6, 2) := dc_16 6 6 (by decide +kernel)
theorem dX12_farOf_8 : decode cX12_farOf 8 = .ok (.iload_n 1, 1) := dc_27 (by decide +kernel)
theorem dX12_farOf_9 : decode cX12_farOf 9 = .ok (.imul, 1) := dc_104 (by decide +kernel)
theorem dX12_farOf_10 : decode cX12_farOf 10 = .ok (.iadd, 1) := dc_96 (by decide +kernel)
theorem dX12_farOf_11 : decode cX12_farOf 11 = .ok (.iload_n 2, 1) := dc_28 (by decide +kernel)
theorem dX12_farOf_12 : decode cX12_farOf 12 = .ok (.iadd, 1) := dc_96 (by decide +kernel)
theorem dX12_farOf_13 : decode cX12_farOf 13 = .ok (.iaload, 1) := dc_46 (by decide +kernel)
theorem dX12_farOf_14 : decode cX12_farOf 14 = .ok (.ireturn, 1) := dc_172 (by decide +kernel)
abbrev R_s_X12_farOf2 : Room := { frames := 0, cells := 0, slots := 0, locals := 0 }
set_option maxRecDepth 100000 in
set_option maxHeartbeats 4000000 in
theorem s_X12_farOf2 {l : Launch} {n0 : Nat} {D : va_G} {cA : Nat → ClassId} {M : gM} (a : Int) (r_a : 0 ≤ a ∧ a ≤ 5) (b : Int) (r_b : 0 ≤ b ∧ b ≤ 5) {sz : Nat} (hsz : 206 ≤ sz) (I : gI sz M) (C : gC sz M)   : Met l yX12_farOf (gWsOf yX12_farOf cX12_farOf 3 (Option.some Jvm.ClassFile.FieldType.int)) R_s_X12_farOf2 (gPc n0 D cA [gA n0 190, gJ a, gJ b] M sz) (gQi n0 D cA sz (fun z M1 => M = M1 ∧ (0 ≤ z ∧ z ≤ 99) ∧ (z = M 191 (24 + 6 * a + b)))) 0 0 (fun q => n0 ≤ q) := by
  refine gMetI [gA n0 190, gJ a, gJ b] (by decide) (Nat.le_of_ble_eq_true rfl) ⟨rfl, rfl⟩ ?_
  intro p e s m args below meth cd Q X hq
  have X : gCx p s m args meth cd n0 D cA "ParishUnionModel" cX12_farOf 3 := X
  show G p l e R_s_X12_farOf2 s m args below meth cd n0 D cA 3 Q 0 0 M sz 0 [(0, gA n0 190), (1, gJ a), (2, gJ b)] []
  refine g_aload_n (n := 1) X 0 dX12_farOf_0 rfl rfl rfl ?_
  refine gg_12_1 (n := 4) (z := 191) X (by decide) (gsz hsz (by decide)) lay_190 kw_6_27 dX12_farOf_1 rfl (rf_190_1 I (gsz hsz (by decide))) (by decide) ?_
  refine g_bipush (n := 6) X dX12_farOf_4 (by decide +kernel) rfl ?_
  refine g_bipush (n := 8) X dX12_farOf_6 (by decide +kernel) rfl ?_
  refine g_iload_n (n := 9) X 1 dX12_farOf_8 rfl rfl rfl ?_
  refine g_imul (n := 10) (z := 6 * a) X dX12_farOf_9 rfl rfl ?_
  refine g_iadd (n := 11) (z := 24 + (6 * a)) X dX12_farOf_10 rfl rfl ?_
  refine g_iload_n (n := 12) X 2 dX12_farOf_11 rfl rfl rfl ?_
  refine g_iadd (n := 13) (z := (24 + (6 * a)) + b) X dX12_farOf_12 rfl rfl ?_
  obtain ⟨v1, hv1, rv1⟩ := gRd I (by decide) (gsz hsz (by decide)) (rs_ROAD (k := (24 + (6 * a)) + b) (by omega)).1
  refine g_iald2 (n := 14) (v := v1) X (by decide) (gsz hsz (by decide)) lay_191 (by omega) (by omega) (by decide) dX12_farOf_13 rfl hv1 ?_
  exact hq _ _ _ _ dX12_farOf_14 ⟨rfl, by omega, by have h1 := hv1; rw [show 24 + 6 * a + b = 24 + (6 * a) + b by omega]; omega⟩
theorem rsp_16_60 {sz : Nat} {M : gM} {k : Int} (I : gI sz M) (h1 : (191 : Int) < (sz : Int)) (h : 16 ≤ k ∧ k < 60) : ∃ v : Int, M 191 k = v ∧ (-2147483648 ≤ v ∧ v ≤ 2147483647) := by
  rcases (by omega : (16 ≤ k ∧ k < 24) ∨ (24 ≤ k ∧ k < 60)) with h | h
  · obtain ⟨v, hv, rv⟩ := gRd I (by decide) h1 (rs_RENT h).1
    exact ⟨v, hv, by omega⟩
  · obtain ⟨v, hv, rv⟩ := gRd I (by decide) h1 (rs_ROAD h).1
    exact ⟨v, hv, by omega⟩
abbrev R_X12_farOf : Room := { frames := 0, cells := 0, slots := 0, locals := 0 }
set_option maxRecDepth 100000 in
set_option maxHeartbeats 4000000 in
theorem s_X12_farOf {l : Launch} {n0 : Nat} {D : va_G} {cA : Nat → ClassId} {M : gM} (a : Int) (r_a : -1 ≤ a ∧ a ≤ 5) (b : Int) (r_b : 0 ≤ b ∧ b ≤ 5) {sz : Nat} (hsz : 206 ≤ sz) (I : gI sz M) (C : gC sz M)   : Met l yX12_farOf (gWsOf yX12_farOf cX12_farOf 3 (Option.some Jvm.ClassFile.FieldType.int)) R_X12_farOf (gPc n0 D cA [gA n0 190, gJ a, gJ b] M sz) (gQi n0 D cA sz (fun z M1 => M = M1 ∧ (-2147483648 ≤ z ∧ z ≤ 2147483647))) 0 0 (fun q => n0 ≤ q) := by
  refine gMetI [gA n0 190, gJ a, gJ b] (by decide) (Nat.le_of_ble_eq_true rfl) ⟨rfl, rfl⟩ ?_
  intro p e s m args below meth cd Q X hq
  have X : gCx p s m args meth cd n0 D cA "ParishUnionModel" cX12_farOf 3 := X
  show G p l e R_X12_farOf s m args below meth cd n0 D cA 3 Q 0 0 M sz 0 [(0, gA n0 190), (1, gJ a), (2, gJ b)] []
  refine g_aload_n (n := 1) X 0 dX12_farOf_0 rfl rfl rfl ?_
  refine gg_12_1 (n := 4) (z := 191) X (by decide) (gsz hsz (by decide)) lay_190 kw_6_27 dX12_farOf_1 rfl (rf_190_1 I (gsz hsz (by decide))) (by decide) ?_
  refine g_bipush (n := 6) X dX12_farOf_4 (by decide +kernel) rfl ?_
  refine g_bipush (n := 8) X dX12_farOf_6 (by decide +kernel) rfl ?_
  refine g_iload_n (n := 9) X 1 dX12_farOf_8 rfl rfl rfl ?_
  refine g_imul (n := 10) (z := 6 * a) X dX12_farOf_9 rfl rfl ?_
  refine g_iadd (n := 11) (z := 24 + (6 * a)) X dX12_farOf_10 rfl rfl ?_
  refine g_iload_n (n := 12) X 2 dX12_farOf_11 rfl rfl rfl ?_
  refine g_iadd (n := 13) (z := (24 + (6 * a)) + b) X dX12_farOf_12 rfl rfl ?_
  obtain ⟨v1, hv1, rv1⟩ := rsp_16_60 (k := (24 + (6 * a)) + b) I (gsz hsz (by decide)) (by omega)
  refine g_iald2 (n := 14) (v := v1) X (by decide) (gsz hsz (by decide)) lay_191 (by omega) (by omega) (by decide) dX12_farOf_13 rfl hv1 ?_
  exact hq _ _ _ _ dX12_farOf_14 ⟨rfl, by omega⟩
theorem gGsg_all (k : Int) : (1083197543598079743031771136 : Nat).testBit (gG 191 k) = true := by
  show (1083197543598079743031771136 : Nat).testBit (gGsg k) = true
  unfold gGsg
  repeat' split
  all_goals rfl
theorem gFr.s191 {T : Nat} {M M1 : gM} (F : gFr T M M1) (h : T &&& 1083197543598079743031771136 = 0) (b : Int) : M1 191 b = M 191 b := F 191 b (by
  have h1 : (T &&& 1083197543598079743031771136).testBit (gG 191 b) = (T.testBit (gG 191 b) && (1083197543598079743031771136 : Nat).testBit (gG 191 b)) := Nat.testBit_and T _ (gG 191 b)
  rw [h, gGsg_all b, Bool.and_true, Nat.zero_testBit] at h1
  exact h1.symm)
theorem dX12_parish_0 : decode cX12_parish 0 = .ok (.iload_n 1, 1) := dc_27 (by decide +kernel)
theorem dX12_parish_1 : decode cX12_parish 1 = .ok (.invokestatic 68, 3) := dc_184 0 68 (by decide +kernel)
theorem kw_6_103 : (Jvm.Cond.methodLink "ParishUnionModel" (68 : Nat) ({ cls := "ParishUnionModel", name := "isParish", desc := "(I)Z" } : Jvm.MethodName)) ∈ gT := gT_of (tb_6 _ (List.mem_of_getElem? (i := 103) rfl)) rfl
theorem kw_6_105 : (Jvm.Cond.code ({ cls := "ParishUnionModel", name := "isParish", desc := "(I)Z" } : Jvm.MethodName) prog_14_method_4_code (1 : Nat) (Option.some Jvm.ClassFile.FieldType.boolean)) ∈ gT := gT_of (tb_6 _ (List.mem_of_getElem? (i := 105) rfl)) rfl
theorem okX12_isParish : gQok yX12_isParish cX12_isParish 1 (Option.some Jvm.ClassFile.FieldType.boolean) 1 := ⟨kw_6_105, kw_1_13, by decide +kernel, by decide +kernel, by decide +kernel⟩
theorem kw_6_104 : (Jvm.Cond.static ({ cls := "ParishUnionModel", name := "isParish", desc := "(I)Z" } : Jvm.MethodName)) ∈ gT := gT_of (tb_6 _ (List.mem_of_getElem? (i := 104) rfl)) rfl
theorem dX12_parish_4 : decode cX12_parish 4 = .ok (.ifCond .ne 5, 3) := dc_154 0 5 5 (by decide +kernel)
theorem dX12_parish_9 : decode cX12_parish 9 = .ok (.iload_n 2, 1) := dc_28 (by decide +kernel)
theorem dX12_parish_10 : decode cX12_parish 10 = .ok (.iconst 0, 1) := dc_3 (by decide +kernel)
theorem dX12_parish_11 : decode cX12_parish 11 = .ok (.sipush 9999, 3) := dc_17 39 15 9999 (by decide +kernel)
theorem dX12_parish_14 : decode cX12_parish 14 = .ok (.invokestatic 64, 3) := dc_184 0 64 (by decide +kernel)
theorem dX12_parish_17 : decode cX12_parish 17 = .ok (.ifCond .ne 6, 3) := dc_154 0 6 6 (by decide +kernel)
theorem dX12_parish_23 : decode cX12_parish 23 = .ok (.aload_n 0, 1) := dc_42 (by decide +kernel)
theorem dX12_parish_24 : decode cX12_parish 24 = .ok (.getfield 7, 3) := dc_180 0 7 (by decide +kernel)
theorem dX12_parish_27 : decode cX12_parish 27 = .ok (.bipush 16, 2) := dc_16 16 16 (by decide +kernel)
theorem dX12_parish_29 : decode cX12_parish 29 = .ok (.iload_n 1, 1) := dc_27 (by decide +kernel)
theorem dX12_parish_30 : decode cX12_parish 30 = .ok (.iadd, 1) := dc_96 (by decide +kernel)
theorem dX12_parish_31 : decode cX12_parish 31 = .ok (.iaload, 1) := dc_46 (by decide +kernel)
theorem dX12_parish_32 : decode cX12_parish 32 = .ok (.istore_n 3, 1) := dc_62 (by decide +kernel)
theorem dX12_parish_33 : decode cX12_parish 33 = .ok (.aload_n 0, 1) := dc_42 (by decide +kernel)
theorem dX12_parish_34 : decode cX12_parish 34 = .ok (.getfield 7, 3) := dc_180 0 7 (by decide +kernel)
theorem dX12_parish_37 : decode cX12_parish 37 = .ok (.bipush 16, 2) := dc_16 16 16 (by decide +kernel)
theorem dX12_parish_39 : decode cX12_parish 39 = .ok (.iload_n 1, 1) := dc_27 (by decide +kernel)
theorem dX12_parish_40 : decode cX12_parish 40 = .ok (.iadd, 1) := dc_96 (by decide +kernel)
theorem dX12_parish_41 : decode cX12_parish 41 = .ok (.iload_n 2, 1) := dc_28 (by decide +kernel)
theorem dX12_parish_42 : decode cX12_parish 42 = .ok (.iastore, 1) := dc_79 (by decide +kernel)
theorem dX12_parish_43 : decode cX12_parish 43 = .ok (.iload_n 3, 1) := dc_29 (by decide +kernel)
theorem dX12_parish_44 : decode cX12_parish 44 = .ok (.ireturn, 1) := dc_172 (by decide +kernel)
theorem dX12_parish_20 : decode cX12_parish 20 = .ok (.bipush (-2), 2) := dc_16 254 (-2) (by decide +kernel)
theorem dX12_parish_22 : decode cX12_parish 22 = .ok (.ireturn, 1) := dc_172 (by decide +kernel)
theorem dX12_parish_7 : decode cX12_parish 7 = .ok (.iconst (-1), 1) := dc_2 (by decide +kernel)
theorem dX12_parish_8 : decode cX12_parish 8 = .ok (.ireturn, 1) := dc_172 (by decide +kernel)
abbrev R_X12_parish : Room := { frames := 2, cells := 0, slots := 0, locals := 42 }
set_option maxRecDepth 100000 in
set_option maxHeartbeats 4000000 in
theorem s_X12_parish {l : Launch} {n0 : Nat} {D : va_G} {cA : Nat → ClassId} {M : gM} (a : Int) (r_a : -2147483648 ≤ a ∧ a ≤ 2147483647) (b : Int) (r_b : -2147483648 ≤ b ∧ b ≤ 2147483647) {sz : Nat} (hsz : 206 ≤ sz) (I : gI sz M) (C : gC sz M)   : Met l yX12_parish (gWsOf yX12_parish cX12_parish 4 (Option.some Jvm.ClassFile.FieldType.int)) R_X12_parish (gPc n0 D cA [gA n0 190, gJ a, gJ b] M sz) (gQi n0 D cA sz (fun z M1 => (-2147483648 ≤ z ∧ z ≤ 2147483647) ∧ gI sz M1 ∧ gC sz M1 ∧ gFr 35184372088832 M M1 ∧ (((¬ (0 ≤ a ∧ a ≤ 5) ∧ z = -1) ∨ ((0 ≤ a ∧ a ≤ 5) ∧ ¬ (0 ≤ b ∧ b ≤ 9999) ∧ z = -2)) ∧ (∀ k : Int, M1 191 k = M 191 k) ∨ ((0 ≤ a ∧ a ≤ 5) ∧ (0 ≤ b ∧ b ≤ 9999) ∧ z = M 191 (a + 16) ∧ (∀ k : Int, ¬ k = a + 16 → M1 191 k = M 191 k) ∧ M1 191 (a + 16) = b)))) 0 0 (fun q => n0 ≤ q) := by
  refine gMetI [gA n0 190, gJ a, gJ b] (by decide) (Nat.le_of_ble_eq_true rfl) ⟨rfl, rfl⟩ ?_
  intro p e s m args below meth cd Q X hq
  have X : gCx p s m args meth cd n0 D cA "ParishUnionModel" cX12_parish 4 := X
  show G p l e R_X12_parish s m args below meth cd n0 D cA 4 Q 0 0 M sz 0 [(0, gA n0 190), (1, gJ a), (2, gJ b)] []
  refine g_iload_n (n := 1) X 1 dX12_parish_0 rfl rfl rfl ?_
  refine g_callSi (n := 4) (As := [gJ a]) (rest := []) (cs1 := 0) (ss1 := 0) X (s_X12_isParish a (by omega) hsz I C ) okX12_isParish kw_6_103 kw_6_104 ⟨rfl, rfl⟩ ⟨Nat.le_of_ble_eq_true rfl, Nat.le_of_ble_eq_true rfl⟩ rfl rfl (Nat.le_of_ble_eq_true rfl) ⟨Nat.le_of_ble_eq_true rfl, Nat.le_of_ble_eq_true rfl⟩ rfl rfl dX12_parish_1 rfl (fun v1 M2 P3 => ?_)
  obtain ⟨rfl, rv1, xv1⟩ := P3
  refine g_if_ne (n := 7) (tgt := 9) X dX12_parish_4 (by decide) (by omega) rfl (fun c4 => ?_) (fun c4 => ?_)
  · refine g_iload_n (n := 10) X 2 dX12_parish_9 rfl rfl rfl ?_
    refine g_iconst (n := 11) X dX12_parish_10 rfl ?_
    refine g_sipush (n := 14) X dX12_parish_11 (by decide +kernel) rfl ?_
    refine g_callSi (n := 17) (As := [gJ b, gJ 0, gJ 9999]) (rest := []) (cs1 := 0) (ss1 := 0) X (s_X12_in b (by omega) 0 (by omega) 9999 (by omega) hsz I C ) okX12_in kw_6_106 kw_6_107 ⟨rfl, rfl⟩ ⟨Nat.le_of_ble_eq_true rfl, Nat.le_of_ble_eq_true rfl⟩ rfl rfl (Nat.le_of_ble_eq_true rfl) ⟨Nat.le_of_ble_eq_true rfl, Nat.le_of_ble_eq_true rfl⟩ rfl rfl dX12_parish_14 rfl (fun v5 M6 P7 => ?_)
    obtain ⟨rfl, rv5, xv5⟩ := P7
    refine g_if_ne (n := 20) (tgt := 23) X dX12_parish_17 (by decide) (by omega) rfl (fun c8 => ?_) (fun c8 => ?_)
    · refine g_aload_n (n := 24) X 0 dX12_parish_23 rfl rfl rfl ?_
      refine gg_12_1 (n := 27) (z := 191) X (by decide) (gsz hsz (by decide)) lay_190 kw_6_27 dX12_parish_24 rfl (rf_190_1 I (gsz hsz (by decide))) (by decide) ?_
      refine g_bipush (n := 29) X dX12_parish_27 (by decide +kernel) rfl ?_
      refine g_iload_n (n := 30) X 1 dX12_parish_29 rfl rfl rfl ?_
      refine g_iadd (n := 31) (z := a + 16) X dX12_parish_30 (by omega) rfl ?_
      obtain ⟨v9, hv9, rv9⟩ := gRd I (by decide) (gsz hsz (by decide)) (rs_RENT (k := a + 16) (by omega)).1
      refine g_iald2 (n := 32) (v := v9) X (by decide) (gsz hsz (by decide)) lay_191 (by omega) (by omega) (by decide) dX12_parish_31 rfl hv9 ?_
      refine g_istore_n (n := 33) (L' := [(3, gJ v9), (0, gA n0 190), (1, gJ a), (2, gJ b)]) X dX12_parish_32 rfl (by decide) rfl rfl ?_
      refine g_aload_n (n := 34) X 1 dX12_parish_33 rfl rfl rfl ?_
      refine gg_12_1 (n := 37) (z := 191) X (by decide) (gsz hsz (by decide)) lay_190 kw_6_27 dX12_parish_34 rfl (rf_190_1 I (gsz hsz (by decide))) (by decide) ?_
      refine g_bipush (n := 39) X dX12_parish_37 (by decide +kernel) rfl ?_
      refine g_iload_n (n := 40) X 2 dX12_parish_39 rfl rfl rfl ?_
      refine g_iadd (n := 41) (z := a + 16) X dX12_parish_40 (by omega) rfl ?_
      refine g_iload_n (n := 42) X 3 dX12_parish_41 rfl rfl rfl ?_
      refine g_iast (n := 43) X (by decide) (gsz hsz (by decide)) lay_191 (by omega) (by omega) (by decide) dX12_parish_42 rfl ?_
      refine G.nm (fun M10 e11 => ?_)
      have IM10 : gI sz M10 := gI.set I (rs_RENT (k := a + 16) (by omega)).1 (by omega) e11
      have CM10 : gC sz M10 := gC.set C (rs_RENT (k := a + 16) (by omega)).2.1 e11
      refine g_iload_n (n := 44) X 0 dX12_parish_43 rfl rfl rfl ?_
      exact hq _ _ _ _ dX12_parish_44 ⟨by omega, IM10, CM10, (gFr.s gFr.rf e11 (rs_RENT (k := a + 16) (by omega)).2.2 rfl), Or.inr ⟨by omega, by omega, by omega, (fun k hk => by rw [e11, gset_ne (by omega)]), (by rw [e11, gset_eq])⟩⟩
    · refine g_bipush (n := 22) X dX12_parish_20 (by decide +kernel) rfl ?_
      exact hq _ _ _ _ dX12_parish_22 ⟨by omega, I, C, gFr.rf, Or.inl ⟨by omega, fun k => rfl⟩⟩
  · refine g_iconst (n := 8) X dX12_parish_7 rfl ?_
    exact hq _ _ _ _ dX12_parish_8 ⟨by omega, I, C, gFr.rf, Or.inl ⟨by omega, fun k => rfl⟩⟩
theorem dX12_far_0 : decode cX12_far 0 = .ok (.iload_n 1, 1) := dc_27 (by decide +kernel)
theorem dX12_far_1 : decode cX12_far 1 = .ok (.invokestatic 68, 3) := dc_184 0 68 (by decide +kernel)
theorem dX12_far_4 : decode cX12_far 4 = .ok (.ifCond .eq 19, 3) := dc_153 0 19 19 (by decide +kernel)
theorem dX12_far_23 : decode cX12_far 23 = .ok (.iconst (-1), 1) := dc_2 (by decide +kernel)
theorem dX12_far_24 : decode cX12_far 24 = .ok (.ireturn, 1) := dc_172 (by decide +kernel)
theorem dX12_far_7 : decode cX12_far 7 = .ok (.iload_n 2, 1) := dc_28 (by decide +kernel)
theorem dX12_far_8 : decode cX12_far 8 = .ok (.invokestatic 68, 3) := dc_184 0 68 (by decide +kernel)
theorem dX12_far_11 : decode cX12_far 11 = .ok (.ifCond .eq 12, 3) := dc_153 0 12 12 (by decide +kernel)
theorem dX12_far_14 : decode cX12_far 14 = .ok (.aload_n 0, 1) := dc_42 (by decide +kernel)
theorem dX12_far_15 : decode cX12_far 15 = .ok (.iload_n 1, 1) := dc_27 (by decide +kernel)
theorem dX12_far_16 : decode cX12_far 16 = .ok (.iload_n 2, 1) := dc_28 (by decide +kernel)
theorem dX12_far_17 : decode cX12_far 17 = .ok (.invokevirtual 72, 3) := dc_182 0 72 (by decide +kernel)
theorem kw_6_113 : (Jvm.Cond.methodLink "ParishUnionModel" (72 : Nat) ({ cls := "ParishUnionModel", name := "farOf", desc := "(II)I" } : Jvm.MethodName)) ∈ gT := gT_of (tb_6 _ (List.mem_of_getElem? (i := 113) rfl)) rfl
theorem kw_6_116 : (Jvm.Cond.code ({ cls := "ParishUnionModel", name := "farOf", desc := "(II)I" } : Jvm.MethodName) prog_14_method_10_code (3 : Nat) (Option.some Jvm.ClassFile.FieldType.int)) ∈ gT := gT_of (tb_6 _ (List.mem_of_getElem? (i := 116) rfl)) rfl
theorem okX12_farOf : gQok yX12_farOf cX12_farOf 3 (Option.some Jvm.ClassFile.FieldType.int) 2 := ⟨kw_6_116, kw_1_13, by decide +kernel, by decide +kernel, by decide +kernel⟩
theorem kw_6_115 : (Jvm.Cond.instanceMethod ({ cls := "ParishUnionModel", name := "farOf", desc := "(II)I" } : Jvm.MethodName)) ∈ gT := gT_of (tb_6 _ (List.mem_of_getElem? (i := 115) rfl)) rfl
theorem kw_0_39 : (Jvm.Cond.selects "ParishUnionModel" ({ cls := "ParishUnionModel", name := "farOf", desc := "(II)I" } : Jvm.MethodName) ({ cls := "ParishUnionModel", name := "farOf", desc := "(II)I" } : Jvm.MethodName)) ∈ gT := gT_of (tb_0 _ (List.mem_of_getElem? (i := 39) rfl)) rfl
theorem dX12_far_20 : decode cX12_far 20 = .ok (.goto 4, 3) := dc_167 0 4 4 (by decide +kernel)
abbrev R_X12_far : Room := { frames := 2, cells := 0, slots := 0, locals := 42 }
set_option maxRecDepth 100000 in
set_option maxHeartbeats 4000000 in
theorem s_X12_far {l : Launch} {n0 : Nat} {D : va_G} {cA : Nat → ClassId} {M : gM} (a : Int) (r_a : -2147483648 ≤ a ∧ a ≤ 2147483647) (b : Int) (r_b : -2147483648 ≤ b ∧ b ≤ 2147483647) {sz : Nat} (hsz : 206 ≤ sz) (I : gI sz M) (C : gC sz M)   : Met l yX12_far (gWsOf yX12_far cX12_far 3 (Option.some Jvm.ClassFile.FieldType.int)) R_X12_far (gPc n0 D cA [gA n0 190, gJ a, gJ b] M sz) (gQi n0 D cA sz (fun z M1 => M = M1 ∧ (-1 ≤ z ∧ z ≤ 99))) 0 0 (fun q => n0 ≤ q) := by
  refine gMetI [gA n0 190, gJ a, gJ b] (by decide) (Nat.le_of_ble_eq_true rfl) ⟨rfl, rfl⟩ ?_
  intro p e s m args below meth cd Q X hq
  have X : gCx p s m args meth cd n0 D cA "ParishUnionModel" cX12_far 3 := X
  show G p l e R_X12_far s m args below meth cd n0 D cA 3 Q 0 0 M sz 0 [(0, gA n0 190), (1, gJ a), (2, gJ b)] []
  refine g_iload_n (n := 1) X 1 dX12_far_0 rfl rfl rfl ?_
  refine g_callSi (n := 4) (As := [gJ a]) (rest := []) (cs1 := 0) (ss1 := 0) X (s_X12_isParish a (by omega) hsz I C ) okX12_isParish kw_6_103 kw_6_104 ⟨rfl, rfl⟩ ⟨Nat.le_of_ble_eq_true rfl, Nat.le_of_ble_eq_true rfl⟩ rfl rfl (Nat.le_of_ble_eq_true rfl) ⟨Nat.le_of_ble_eq_true rfl, Nat.le_of_ble_eq_true rfl⟩ rfl rfl dX12_far_1 rfl (fun v1 M2 P3 => ?_)
  obtain ⟨rfl, rv1, xv1⟩ := P3
  refine g_if_eq (n := 7) (tgt := 23) X dX12_far_4 (by decide) (by omega) rfl (fun c4 => ?_) (fun c4 => ?_)
  · refine g_iconst (n := 24) X dX12_far_23 rfl ?_
    exact hq _ _ _ _ dX12_far_24 ⟨rfl, by omega⟩
  · refine g_iload_n (n := 8) X 2 dX12_far_7 rfl rfl rfl ?_
    refine g_callSi (n := 11) (As := [gJ b]) (rest := []) (cs1 := 0) (ss1 := 0) X (s_X12_isParish b (by omega) hsz I C ) okX12_isParish kw_6_103 kw_6_104 ⟨rfl, rfl⟩ ⟨Nat.le_of_ble_eq_true rfl, Nat.le_of_ble_eq_true rfl⟩ rfl rfl (Nat.le_of_ble_eq_true rfl) ⟨Nat.le_of_ble_eq_true rfl, Nat.le_of_ble_eq_true rfl⟩ rfl rfl dX12_far_8 rfl (fun v5 M6 P7 => ?_)
    obtain ⟨rfl, rv5, xv5⟩ := P7
    refine g_if_eq (n := 14) (tgt := 23) X dX12_far_11 (by decide) (by omega) rfl (fun c8 => ?_) (fun c8 => ?_)
    · refine g_iconst (n := 24) X dX12_far_23 rfl ?_
      exact hq _ _ _ _ dX12_far_24 ⟨rfl, by omega⟩
    · refine g_aload_n (n := 15) X 0 dX12_far_14 rfl rfl rfl ?_
      refine g_iload_n (n := 16) X 1 dX12_far_15 rfl rfl rfl ?_
      refine g_iload_n (n := 17) X 2 dX12_far_16 rfl rfl rfl ?_
      refine g_callVi (n := 20) (As := [gJ a, gJ b]) (rest := []) (cs1 := 0) (ss1 := 0) X (s_X12_farOf2 a (by omega) b (by omega) hsz I C ) okX12_farOf kw_6_113 ⟨kw_6_115, kw_0_39⟩ ⟨rfl, rfl⟩ ⟨Nat.le_of_ble_eq_true rfl, Nat.le_of_ble_eq_true rfl⟩ rfl (by decide) (gsz hsz (by decide)) lay_190 rfl rfl (Nat.le_of_ble_eq_true rfl) ⟨Nat.le_of_ble_eq_true rfl, Nat.le_of_ble_eq_true rfl⟩ rfl rfl dX12_far_17 rfl (fun v9 M10 P11 => ?_)
      obtain ⟨rfl, rv9, xv9⟩ := P11
      refine g_goto (tgt := 24) X dX12_far_20 (by decide) ?_
      exact hq _ _ _ _ dX12_far_24 ⟨rfl, by omega⟩
theorem dX12_about_0 : decode cX12_about 0 = .ok (.aload_n 0, 1) := dc_42 (by decide +kernel)
theorem dX12_about_1 : decode cX12_about 1 = .ok (.iload_n 1, 1) := dc_27 (by decide +kernel)
theorem dX12_about_2 : decode cX12_about 2 = .ok (.invokevirtual 76, 3) := dc_182 0 76 (by decide +kernel)
theorem kw_6_125 : (Jvm.Cond.methodLink "ParishUnionModel" (76 : Nat) ({ cls := "ParishUnionModel", name := "isPerson", desc := "(I)Z" } : Jvm.MethodName)) ∈ gT := gT_of (tb_6 _ (List.mem_of_getElem? (i := 125) rfl)) rfl
theorem kw_6_128 : (Jvm.Cond.code ({ cls := "ParishUnionModel", name := "isPerson", desc := "(I)Z" } : Jvm.MethodName) prog_14_method_5_code (2 : Nat) (Option.some Jvm.ClassFile.FieldType.boolean)) ∈ gT := gT_of (tb_6 _ (List.mem_of_getElem? (i := 128) rfl)) rfl
theorem okX12_isPerson : gQok yX12_isPerson cX12_isPerson 2 (Option.some Jvm.ClassFile.FieldType.boolean) 1 := ⟨kw_6_128, kw_1_13, by decide +kernel, by decide +kernel, by decide +kernel⟩
theorem kw_6_127 : (Jvm.Cond.instanceMethod ({ cls := "ParishUnionModel", name := "isPerson", desc := "(I)Z" } : Jvm.MethodName)) ∈ gT := gT_of (tb_6 _ (List.mem_of_getElem? (i := 127) rfl)) rfl
theorem kw_0_40 : (Jvm.Cond.selects "ParishUnionModel" ({ cls := "ParishUnionModel", name := "isPerson", desc := "(I)Z" } : Jvm.MethodName) ({ cls := "ParishUnionModel", name := "isPerson", desc := "(I)Z" } : Jvm.MethodName)) ∈ gT := gT_of (tb_0 _ (List.mem_of_getElem? (i := 40) rfl)) rfl
theorem dX12_about_5 : decode cX12_about 5 = .ok (.ifCond .eq 13, 3) := dc_153 0 13 13 (by decide +kernel)
theorem dX12_about_18 : decode cX12_about 18 = .ok (.iconst (-1), 1) := dc_2 (by decide +kernel)
theorem dX12_about_19 : decode cX12_about 19 = .ok (.ireturn, 1) := dc_172 (by decide +kernel)
theorem dX12_about_8 : decode cX12_about 8 = .ok (.iload_n 2, 1) := dc_28 (by decide +kernel)
theorem dX12_about_9 : decode cX12_about 9 = .ok (.iconst 0, 1) := dc_3 (by decide +kernel)
theorem dX12_about_10 : decode cX12_about 10 = .ok (.bipush 10, 2) := dc_16 10 10 (by decide +kernel)
theorem dX12_about_12 : decode cX12_about 12 = .ok (.invokestatic 64, 3) := dc_184 0 64 (by decide +kernel)
theorem dX12_about_15 : decode cX12_about 15 = .ok (.ifCond .ne 5, 3) := dc_154 0 5 5 (by decide +kernel)
theorem dX12_about_20 : decode cX12_about 20 = .ok (.iload_n 2, 1) := dc_28 (by decide +kernel)
theorem dX12_about_21 : decode cX12_about 21 = .ok (.tableswitch 162 0 9 #[55, 65, 75, 85, 96, 107, 118, 129, 140, 151], 55) := by decide +kernel
theorem dX12_about_76 : decode cX12_about 76 = .ok (.aload_n 0, 1) := dc_42 (by decide +kernel)
theorem dX12_about_77 : decode cX12_about 77 = .ok (.getfield 7, 3) := dc_180 0 7 (by decide +kernel)
theorem dX12_about_80 : decode cX12_about 80 = .ok (.bipush 80, 2) := dc_16 80 80 (by decide +kernel)
theorem dX12_about_82 : decode cX12_about 82 = .ok (.iload_n 1, 1) := dc_27 (by decide +kernel)
theorem dX12_about_83 : decode cX12_about 83 = .ok (.iadd, 1) := dc_96 (by decide +kernel)
theorem dX12_about_84 : decode cX12_about 84 = .ok (.iaload, 1) := dc_46 (by decide +kernel)
theorem dX12_about_85 : decode cX12_about 85 = .ok (.ireturn, 1) := dc_172 (by decide +kernel)
theorem dX12_about_86 : decode cX12_about 86 = .ok (.aload_n 0, 1) := dc_42 (by decide +kernel)
theorem dX12_about_87 : decode cX12_about 87 = .ok (.getfield 7, 3) := dc_180 0 7 (by decide +kernel)
theorem dX12_about_90 : decode cX12_about 90 = .ok (.bipush 96, 2) := dc_16 96 96 (by decide +kernel)
theorem dX12_about_92 : decode cX12_about 92 = .ok (.iload_n 1, 1) := dc_27 (by decide +kernel)
theorem dX12_about_93 : decode cX12_about 93 = .ok (.iadd, 1) := dc_96 (by decide +kernel)
theorem dX12_about_94 : decode cX12_about 94 = .ok (.iaload, 1) := dc_46 (by decide +kernel)
theorem dX12_about_95 : decode cX12_about 95 = .ok (.ireturn, 1) := dc_172 (by decide +kernel)
theorem dX12_about_96 : decode cX12_about 96 = .ok (.aload_n 0, 1) := dc_42 (by decide +kernel)
theorem dX12_about_97 : decode cX12_about 97 = .ok (.getfield 7, 3) := dc_180 0 7 (by decide +kernel)
theorem dX12_about_100 : decode cX12_about 100 = .ok (.bipush 112, 2) := dc_16 112 112 (by decide +kernel)
theorem dX12_about_102 : decode cX12_about 102 = .ok (.iload_n 1, 1) := dc_27 (by decide +kernel)
theorem dX12_about_103 : decode cX12_about 103 = .ok (.iadd, 1) := dc_96 (by decide +kernel)
theorem dX12_about_104 : decode cX12_about 104 = .ok (.iaload, 1) := dc_46 (by decide +kernel)
theorem dX12_about_105 : decode cX12_about 105 = .ok (.ireturn, 1) := dc_172 (by decide +kernel)
theorem dX12_about_106 : decode cX12_about 106 = .ok (.aload_n 0, 1) := dc_42 (by decide +kernel)
theorem dX12_about_107 : decode cX12_about 107 = .ok (.getfield 7, 3) := dc_180 0 7 (by decide +kernel)
theorem dX12_about_110 : decode cX12_about 110 = .ok (.sipush 128, 3) := dc_17 0 128 128 (by decide +kernel)
theorem dX12_about_113 : decode cX12_about 113 = .ok (.iload_n 1, 1) := dc_27 (by decide +kernel)
theorem dX12_about_114 : decode cX12_about 114 = .ok (.iadd, 1) := dc_96 (by decide +kernel)
theorem dX12_about_115 : decode cX12_about 115 = .ok (.iaload, 1) := dc_46 (by decide +kernel)
theorem dX12_about_116 : decode cX12_about 116 = .ok (.ireturn, 1) := dc_172 (by decide +kernel)
theorem dX12_about_117 : decode cX12_about 117 = .ok (.aload_n 0, 1) := dc_42 (by decide +kernel)
theorem dX12_about_118 : decode cX12_about 118 = .ok (.getfield 7, 3) := dc_180 0 7 (by decide +kernel)
theorem dX12_about_121 : decode cX12_about 121 = .ok (.sipush 144, 3) := dc_17 0 144 144 (by decide +kernel)
theorem dX12_about_124 : decode cX12_about 124 = .ok (.iload_n 1, 1) := dc_27 (by decide +kernel)
theorem dX12_about_125 : decode cX12_about 125 = .ok (.iadd, 1) := dc_96 (by decide +kernel)
theorem dX12_about_126 : decode cX12_about 126 = .ok (.iaload, 1) := dc_46 (by decide +kernel)
theorem dX12_about_127 : decode cX12_about 127 = .ok (.ireturn, 1) := dc_172 (by decide +kernel)
theorem dX12_about_128 : decode cX12_about 128 = .ok (.aload_n 0, 1) := dc_42 (by decide +kernel)
theorem dX12_about_129 : decode cX12_about 129 = .ok (.getfield 7, 3) := dc_180 0 7 (by decide +kernel)
theorem dX12_about_132 : decode cX12_about 132 = .ok (.sipush 160, 3) := dc_17 0 160 160 (by decide +kernel)
theorem dX12_about_135 : decode cX12_about 135 = .ok (.iload_n 1, 1) := dc_27 (by decide +kernel)
theorem dX12_about_136 : decode cX12_about 136 = .ok (.iadd, 1) := dc_96 (by decide +kernel)
theorem dX12_about_137 : decode cX12_about 137 = .ok (.iaload, 1) := dc_46 (by decide +kernel)
theorem dX12_about_138 : decode cX12_about 138 = .ok (.ireturn, 1) := dc_172 (by decide +kernel)
theorem dX12_about_139 : decode cX12_about 139 = .ok (.aload_n 0, 1) := dc_42 (by decide +kernel)
theorem dX12_about_140 : decode cX12_about 140 = .ok (.getfield 7, 3) := dc_180 0 7 (by decide +kernel)
theorem dX12_about_143 : decode cX12_about 143 = .ok (.sipush 176, 3) := dc_17 0 176 176 (by decide +kernel)
theorem dX12_about_146 : decode cX12_about 146 = .ok (.iload_n 1, 1) := dc_27 (by decide +kernel)
theorem dX12_about_147 : decode cX12_about 147 = .ok (.iadd, 1) := dc_96 (by decide +kernel)
theorem dX12_about_148 : decode cX12_about 148 = .ok (.iaload, 1) := dc_46 (by decide +kernel)
theorem dX12_about_149 : decode cX12_about 149 = .ok (.ireturn, 1) := dc_172 (by decide +kernel)
theorem dX12_about_150 : decode cX12_about 150 = .ok (.aload_n 0, 1) := dc_42 (by decide +kernel)
theorem dX12_about_151 : decode cX12_about 151 = .ok (.getfield 7, 3) := dc_180 0 7 (by decide +kernel)
theorem dX12_about_154 : decode cX12_about 154 = .ok (.sipush 192, 3) := dc_17 0 192 192 (by decide +kernel)
theorem dX12_about_157 : decode cX12_about 157 = .ok (.iload_n 1, 1) := dc_27 (by decide +kernel)
theorem dX12_about_158 : decode cX12_about 158 = .ok (.iadd, 1) := dc_96 (by decide +kernel)
theorem dX12_about_159 : decode cX12_about 159 = .ok (.iaload, 1) := dc_46 (by decide +kernel)
theorem dX12_about_160 : decode cX12_about 160 = .ok (.ireturn, 1) := dc_172 (by decide +kernel)
theorem dX12_about_161 : decode cX12_about 161 = .ok (.aload_n 0, 1) := dc_42 (by decide +kernel)
theorem dX12_about_162 : decode cX12_about 162 = .ok (.getfield 7, 3) := dc_180 0 7 (by decide +kernel)
theorem dX12_about_165 : decode cX12_about 165 = .ok (.sipush 208, 3) := dc_17 0 208 208 (by decide +kernel)
theorem dX12_about_168 : decode cX12_about 168 = .ok (.iload_n 1, 1) := dc_27 (by decide +kernel)
theorem dX12_about_169 : decode cX12_about 169 = .ok (.iadd, 1) := dc_96 (by decide +kernel)
theorem dX12_about_170 : decode cX12_about 170 = .ok (.iaload, 1) := dc_46 (by decide +kernel)
theorem dX12_about_171 : decode cX12_about 171 = .ok (.ireturn, 1) := dc_172 (by decide +kernel)
theorem dX12_about_172 : decode cX12_about 172 = .ok (.aload_n 0, 1) := dc_42 (by decide +kernel)
theorem dX12_about_173 : decode cX12_about 173 = .ok (.getfield 7, 3) := dc_180 0 7 (by decide +kernel)
theorem dX12_about_176 : decode cX12_about 176 = .ok (.sipush 224, 3) := dc_17 0 224 224 (by decide +kernel)
theorem dX12_about_179 : decode cX12_about 179 = .ok (.iload_n 1, 1) := dc_27 (by decide +kernel)
theorem dX12_about_180 : decode cX12_about 180 = .ok (.iadd, 1) := dc_96 (by decide +kernel)
theorem dX12_about_181 : decode cX12_about 181 = .ok (.iaload, 1) := dc_46 (by decide +kernel)
theorem dX12_about_182 : decode cX12_about 182 = .ok (.ireturn, 1) := dc_172 (by decide +kernel)
theorem dX12_about_183 : decode cX12_about 183 = .ok (.aload_n 0, 1) := dc_42 (by decide +kernel)
theorem dX12_about_184 : decode cX12_about 184 = .ok (.getfield 7, 3) := dc_180 0 7 (by decide +kernel)
theorem dX12_about_187 : decode cX12_about 187 = .ok (.sipush 240, 3) := dc_17 0 240 240 (by decide +kernel)
theorem dX12_about_190 : decode cX12_about 190 = .ok (.iload_n 1, 1) := dc_27 (by decide +kernel)
theorem dX12_about_191 : decode cX12_about 191 = .ok (.iadd, 1) := dc_96 (by decide +kernel)
theorem dX12_about_192 : decode cX12_about 192 = .ok (.iaload, 1) := dc_46 (by decide +kernel)
theorem dX12_about_193 : decode cX12_about 193 = .ok (.ireturn, 1) := dc_172 (by decide +kernel)
abbrev R_X12_about : Room := { frames := 2, cells := 0, slots := 0, locals := 43 }
set_option maxRecDepth 100000 in
set_option maxHeartbeats 4000000 in
theorem s_X12_about {l : Launch} {n0 : Nat} {D : va_G} {cA : Nat → ClassId} {M : gM} (a : Int) (r_a : -2147483648 ≤ a ∧ a ≤ 2147483647) (b : Int) (r_b : -2147483648 ≤ b ∧ b ≤ 2147483647) {sz : Nat} (hsz : 206 ≤ sz) (I : gI sz M) (C : gC sz M)   : Met l yX12_about (gWsOf yX12_about cX12_about 3 (Option.some Jvm.ClassFile.FieldType.int)) R_X12_about (gPc n0 D cA [gA n0 190, gJ a, gJ b] M sz) (gQi n0 D cA sz (fun z M1 => M = M1 ∧ (-2147483648 ≤ z ∧ z ≤ 2147483647))) 0 0 (fun q => n0 ≤ q) := by
  refine gMetI [gA n0 190, gJ a, gJ b] (by decide) (Nat.le_of_ble_eq_true rfl) ⟨rfl, rfl⟩ ?_
  intro p e s m args below meth cd Q X hq
  have X : gCx p s m args meth cd n0 D cA "ParishUnionModel" cX12_about 3 := X
  show G p l e R_X12_about s m args below meth cd n0 D cA 3 Q 0 0 M sz 0 [(0, gA n0 190), (1, gJ a), (2, gJ b)] []
  refine g_aload_n (n := 1) X 0 dX12_about_0 rfl rfl rfl ?_
  refine g_iload_n (n := 2) X 1 dX12_about_1 rfl rfl rfl ?_
  refine g_callVi (n := 5) (As := [gJ a]) (rest := []) (cs1 := 0) (ss1 := 0) X (s_X12_isPerson a (by omega) hsz I C ) okX12_isPerson kw_6_125 ⟨kw_6_127, kw_0_40⟩ ⟨rfl, rfl⟩ ⟨Nat.le_of_ble_eq_true rfl, Nat.le_of_ble_eq_true rfl⟩ rfl (by decide) (gsz hsz (by decide)) lay_190 rfl rfl (Nat.le_of_ble_eq_true rfl) ⟨Nat.le_of_ble_eq_true rfl, Nat.le_of_ble_eq_true rfl⟩ rfl rfl dX12_about_2 rfl (fun v1 M2 P3 => ?_)
  obtain ⟨rfl, rv1, xv1⟩ := P3
  refine g_if_eq (n := 8) (tgt := 18) X dX12_about_5 (by decide) (by omega) rfl (fun c4 => ?_) (fun c4 => ?_)
  · refine g_iconst (n := 19) X dX12_about_18 rfl ?_
    exact hq _ _ _ _ dX12_about_19 ⟨rfl, by omega⟩
  · refine g_iload_n (n := 9) X 2 dX12_about_8 rfl rfl rfl ?_
    refine g_iconst (n := 10) X dX12_about_9 rfl ?_
    refine g_bipush (n := 12) X dX12_about_10 (by decide +kernel) rfl ?_
    refine g_callSi (n := 15) (As := [gJ b, gJ 0, gJ 10]) (rest := []) (cs1 := 0) (ss1 := 0) X (s_X12_in b (by omega) 0 (by omega) 10 (by omega) hsz I C ) okX12_in kw_6_106 kw_6_107 ⟨rfl, rfl⟩ ⟨Nat.le_of_ble_eq_true rfl, Nat.le_of_ble_eq_true rfl⟩ rfl rfl (Nat.le_of_ble_eq_true rfl) ⟨Nat.le_of_ble_eq_true rfl, Nat.le_of_ble_eq_true rfl⟩ rfl rfl dX12_about_12 rfl (fun v5 M6 P7 => ?_)
    obtain ⟨rfl, rv5, xv5⟩ := P7
    refine g_if_ne (n := 18) (tgt := 20) X dX12_about_15 (by decide) (by omega) rfl (fun c8 => ?_) (fun c8 => ?_)
    · refine g_iload_n (n := 21) X 2 dX12_about_20 rfl rfl rfl ?_
      by_cases c9 : b = 0
      · refine g_tableIn (tgt := 76) X 0 dX12_about_21 (by omega) (by omega) (by omega) (by omega) rfl (by decide) ?_
        refine g_aload_n (n := 77) X 0 dX12_about_76 rfl rfl rfl ?_
        refine gg_12_1 (n := 80) (z := 191) X (by decide) (gsz hsz (by decide)) lay_190 kw_6_27 dX12_about_77 rfl (rf_190_1 I (gsz hsz (by decide))) (by decide) ?_
        refine g_bipush (n := 82) X dX12_about_80 (by decide +kernel) rfl ?_
        refine g_iload_n (n := 83) X 1 dX12_about_82 rfl rfl rfl ?_
        refine g_iadd (n := 84) (z := a + 80) X dX12_about_83 (by omega) rfl ?_
        obtain ⟨v10, hv10, rv10⟩ := gRd I (by decide) (gsz hsz (by decide)) (rs_SEX (k := a + 80) (by omega)).1
        refine g_iald2 (n := 85) (v := v10) X (by decide) (gsz hsz (by decide)) lay_191 (by omega) (by omega) (by decide) dX12_about_84 rfl hv10 ?_
        exact hq _ _ _ _ dX12_about_85 ⟨rfl, by omega⟩
      by_cases c11 : b = 1
      · refine g_tableIn (tgt := 86) X 1 dX12_about_21 (by omega) (by omega) (by omega) (by omega) rfl (by decide) ?_
        refine g_aload_n (n := 87) X 0 dX12_about_86 rfl rfl rfl ?_
        refine gg_12_1 (n := 90) (z := 191) X (by decide) (gsz hsz (by decide)) lay_190 kw_6_27 dX12_about_87 rfl (rf_190_1 I (gsz hsz (by decide))) (by decide) ?_
        refine g_bipush (n := 92) X dX12_about_90 (by decide +kernel) rfl ?_
        refine g_iload_n (n := 93) X 1 dX12_about_92 rfl rfl rfl ?_
        refine g_iadd (n := 94) (z := a + 96) X dX12_about_93 (by omega) rfl ?_
        obtain ⟨v12, hv12, rv12⟩ := gRd I (by decide) (gsz hsz (by decide)) (rs_BORN (k := a + 96) (by omega)).1
        refine g_iald2 (n := 95) (v := v12) X (by decide) (gsz hsz (by decide)) lay_191 (by omega) (by omega) (by decide) dX12_about_94 rfl hv12 ?_
        exact hq _ _ _ _ dX12_about_95 ⟨rfl, by omega⟩
      by_cases c13 : b = 2
      · refine g_tableIn (tgt := 96) X 2 dX12_about_21 (by omega) (by omega) (by omega) (by omega) rfl (by decide) ?_
        refine g_aload_n (n := 97) X 0 dX12_about_96 rfl rfl rfl ?_
        refine gg_12_1 (n := 100) (z := 191) X (by decide) (gsz hsz (by decide)) lay_190 kw_6_27 dX12_about_97 rfl (rf_190_1 I (gsz hsz (by decide))) (by decide) ?_
        refine g_bipush (n := 102) X dX12_about_100 (by decide +kernel) rfl ?_
        refine g_iload_n (n := 103) X 1 dX12_about_102 rfl rfl rfl ?_
        refine g_iadd (n := 104) (z := a + 112) X dX12_about_103 (by omega) rfl ?_
        obtain ⟨v14, hv14, rv14⟩ := gRd I (by decide) (gsz hsz (by decide)) (rs_HOME (k := a + 112) (by omega)).1
        refine g_iald2 (n := 105) (v := v14) X (by decide) (gsz hsz (by decide)) lay_191 (by omega) (by omega) (by decide) dX12_about_104 rfl hv14 ?_
        exact hq _ _ _ _ dX12_about_105 ⟨rfl, by omega⟩
      by_cases c15 : b = 3
      · refine g_tableIn (tgt := 106) X 3 dX12_about_21 (by omega) (by omega) (by omega) (by omega) rfl (by decide) ?_
        refine g_aload_n (n := 107) X 0 dX12_about_106 rfl rfl rfl ?_
        refine gg_12_1 (n := 110) (z := 191) X (by decide) (gsz hsz (by decide)) lay_190 kw_6_27 dX12_about_107 rfl (rf_190_1 I (gsz hsz (by decide))) (by decide) ?_
        refine g_sipush (n := 113) X dX12_about_110 (by decide +kernel) rfl ?_
        refine g_iload_n (n := 114) X 1 dX12_about_113 rfl rfl rfl ?_
        refine g_iadd (n := 115) (z := a + 128) X dX12_about_114 (by omega) rfl ?_
        obtain ⟨v16, hv16, rv16⟩ := gRd I (by decide) (gsz hsz (by decide)) (rs_FATHER (k := a + 128) (by omega)).1
        refine g_iald2 (n := 116) (v := v16) X (by decide) (gsz hsz (by decide)) lay_191 (by omega) (by omega) (by decide) dX12_about_115 rfl hv16 ?_
        exact hq _ _ _ _ dX12_about_116 ⟨rfl, by omega⟩
      by_cases c17 : b = 4
      · refine g_tableIn (tgt := 117) X 4 dX12_about_21 (by omega) (by omega) (by omega) (by omega) rfl (by decide) ?_
        refine g_aload_n (n := 118) X 0 dX12_about_117 rfl rfl rfl ?_
        refine gg_12_1 (n := 121) (z := 191) X (by decide) (gsz hsz (by decide)) lay_190 kw_6_27 dX12_about_118 rfl (rf_190_1 I (gsz hsz (by decide))) (by decide) ?_
        refine g_sipush (n := 124) X dX12_about_121 (by decide +kernel) rfl ?_
        refine g_iload_n (n := 125) X 1 dX12_about_124 rfl rfl rfl ?_
        refine g_iadd (n := 126) (z := a + 144) X dX12_about_125 (by omega) rfl ?_
        obtain ⟨v18, hv18, rv18⟩ := gRd I (by decide) (gsz hsz (by decide)) (rs_STRONG (k := a + 144) (by omega)).1
        refine g_iald2 (n := 127) (v := v18) X (by decide) (gsz hsz (by decide)) lay_191 (by omega) (by omega) (by decide) dX12_about_126 rfl hv18 ?_
        exact hq _ _ _ _ dX12_about_127 ⟨rfl, by omega⟩
      by_cases c19 : b = 5
      · refine g_tableIn (tgt := 128) X 5 dX12_about_21 (by omega) (by omega) (by omega) (by omega) rfl (by decide) ?_
        refine g_aload_n (n := 129) X 0 dX12_about_128 rfl rfl rfl ?_
        refine gg_12_1 (n := 132) (z := 191) X (by decide) (gsz hsz (by decide)) lay_190 kw_6_27 dX12_about_129 rfl (rf_190_1 I (gsz hsz (by decide))) (by decide) ?_
        refine g_sipush (n := 135) X dX12_about_132 (by decide +kernel) rfl ?_
        refine g_iload_n (n := 136) X 1 dX12_about_135 rfl rfl rfl ?_
        refine g_iadd (n := 137) (z := a + 160) X dX12_about_136 (by omega) rfl ?_
        obtain ⟨v20, hv20, rv20⟩ := gRd I (by decide) (gsz hsz (by decide)) (rs_AT (k := a + 160) (by omega)).1
        refine g_iald2 (n := 138) (v := v20) X (by decide) (gsz hsz (by decide)) lay_191 (by omega) (by omega) (by decide) dX12_about_137 rfl hv20 ?_
        exact hq _ _ _ _ dX12_about_138 ⟨rfl, by omega⟩
      by_cases c21 : b = 6
      · refine g_tableIn (tgt := 139) X 6 dX12_about_21 (by omega) (by omega) (by omega) (by omega) rfl (by decide) ?_
        refine g_aload_n (n := 140) X 0 dX12_about_139 rfl rfl rfl ?_
        refine gg_12_1 (n := 143) (z := 191) X (by decide) (gsz hsz (by decide)) lay_190 kw_6_27 dX12_about_140 rfl (rf_190_1 I (gsz hsz (by decide))) (by decide) ?_
        refine g_sipush (n := 146) X dX12_about_143 (by decide +kernel) rfl ?_
        refine g_iload_n (n := 147) X 1 dX12_about_146 rfl rfl rfl ?_
        refine g_iadd (n := 148) (z := a + 176) X dX12_about_147 (by omega) rfl ?_
        obtain ⟨v22, hv22, rv22⟩ := gRd I (by decide) (gsz hsz (by decide)) (rs_HUNGER (k := a + 176) (by omega)).1
        refine g_iald2 (n := 149) (v := v22) X (by decide) (gsz hsz (by decide)) lay_191 (by omega) (by omega) (by decide) dX12_about_148 rfl hv22 ?_
        exact hq _ _ _ _ dX12_about_149 ⟨rfl, by omega⟩
      by_cases c23 : b = 7
      · refine g_tableIn (tgt := 150) X 7 dX12_about_21 (by omega) (by omega) (by omega) (by omega) rfl (by decide) ?_
        refine g_aload_n (n := 151) X 0 dX12_about_150 rfl rfl rfl ?_
        refine gg_12_1 (n := 154) (z := 191) X (by decide) (gsz hsz (by decide)) lay_190 kw_6_27 dX12_about_151 rfl (rf_190_1 I (gsz hsz (by decide))) (by decide) ?_
        refine g_sipush (n := 157) X dX12_about_154 (by decide +kernel) rfl ?_
        refine g_iload_n (n := 158) X 1 dX12_about_157 rfl rfl rfl ?_
        refine g_iadd (n := 159) (z := a + 192) X dX12_about_158 (by omega) rfl ?_
        obtain ⟨v24, hv24, rv24⟩ := gRd I (by decide) (gsz hsz (by decide)) (rs_HUNGER (k := a + 192) (by omega)).1
        refine g_iald2 (n := 160) (v := v24) X (by decide) (gsz hsz (by decide)) lay_191 (by omega) (by omega) (by decide) dX12_about_159 rfl hv24 ?_
        exact hq _ _ _ _ dX12_about_160 ⟨rfl, by omega⟩
      by_cases c25 : b = 8
      · refine g_tableIn (tgt := 161) X 8 dX12_about_21 (by omega) (by omega) (by omega) (by omega) rfl (by decide) ?_
        refine g_aload_n (n := 162) X 0 dX12_about_161 rfl rfl rfl ?_
        refine gg_12_1 (n := 165) (z := 191) X (by decide) (gsz hsz (by decide)) lay_190 kw_6_27 dX12_about_162 rfl (rf_190_1 I (gsz hsz (by decide))) (by decide) ?_
        refine g_sipush (n := 168) X dX12_about_165 (by decide +kernel) rfl ?_
        refine g_iload_n (n := 169) X 1 dX12_about_168 rfl rfl rfl ?_
        refine g_iadd (n := 170) (z := a + 208) X dX12_about_169 (by omega) rfl ?_
        obtain ⟨v26, hv26, rv26⟩ := gRd I (by decide) (gsz hsz (by decide)) (rs_WARD (k := a + 208) (by omega)).1
        refine g_iald2 (n := 171) (v := v26) X (by decide) (gsz hsz (by decide)) lay_191 (by omega) (by omega) (by decide) dX12_about_170 rfl hv26 ?_
        exact hq _ _ _ _ dX12_about_171 ⟨rfl, by omega⟩
      by_cases c27 : b = 9
      · refine g_tableIn (tgt := 172) X 9 dX12_about_21 (by omega) (by omega) (by omega) (by omega) rfl (by decide) ?_
        refine g_aload_n (n := 173) X 0 dX12_about_172 rfl rfl rfl ?_
        refine gg_12_1 (n := 176) (z := 191) X (by decide) (gsz hsz (by decide)) lay_190 kw_6_27 dX12_about_173 rfl (rf_190_1 I (gsz hsz (by decide))) (by decide) ?_
        refine g_sipush (n := 179) X dX12_about_176 (by decide +kernel) rfl ?_
        refine g_iload_n (n := 180) X 1 dX12_about_179 rfl rfl rfl ?_
        refine g_iadd (n := 181) (z := a + 224) X dX12_about_180 (by omega) rfl ?_
        obtain ⟨v28, hv28, rv28⟩ := gRd I (by decide) (gsz hsz (by decide)) (rs_MASTER (k := a + 224) (by omega)).1
        refine g_iald2 (n := 182) (v := v28) X (by decide) (gsz hsz (by decide)) lay_191 (by omega) (by omega) (by decide) dX12_about_181 rfl hv28 ?_
        exact hq _ _ _ _ dX12_about_182 ⟨rfl, by omega⟩
      refine g_tableOut (tgt := 183) X dX12_about_21 (by omega) (by omega) (by decide) ?_
      refine g_aload_n (n := 184) X 0 dX12_about_183 rfl rfl rfl ?_
      refine gg_12_1 (n := 187) (z := 191) X (by decide) (gsz hsz (by decide)) lay_190 kw_6_27 dX12_about_184 rfl (rf_190_1 I (gsz hsz (by decide))) (by decide) ?_
      refine g_sipush (n := 190) X dX12_about_187 (by decide +kernel) rfl ?_
      refine g_iload_n (n := 191) X 1 dX12_about_190 rfl rfl rfl ?_
      refine g_iadd (n := 192) (z := a + 240) X dX12_about_191 (by omega) rfl ?_
      obtain ⟨v29, hv29, rv29⟩ := gRd I (by decide) (gsz hsz (by decide)) (rs_CAME (k := a + 240) (by omega)).1
      refine g_iald2 (n := 193) (v := v29) X (by decide) (gsz hsz (by decide)) lay_191 (by omega) (by omega) (by decide) dX12_about_192 rfl hv29 ?_
      exact hq _ _ _ _ dX12_about_193 ⟨rfl, by omega⟩
    · refine g_iconst (n := 19) X dX12_about_18 rfl ?_
      exact hq _ _ _ _ dX12_about_19 ⟨rfl, by omega⟩
theorem dX12_leaves_0 : decode cX12_leaves 0 = .ok (.aload_n 0, 1) := dc_42 (by decide +kernel)
theorem dX12_leaves_1 : decode cX12_leaves 1 = .ok (.getfield 7, 3) := dc_180 0 7 (by decide +kernel)
theorem dX12_leaves_4 : decode cX12_leaves 4 = .ok (.sipush 160, 3) := dc_17 0 160 160 (by decide +kernel)
theorem dX12_leaves_7 : decode cX12_leaves 7 = .ok (.iload_n 1, 1) := dc_27 (by decide +kernel)
theorem dX12_leaves_8 : decode cX12_leaves 8 = .ok (.iadd, 1) := dc_96 (by decide +kernel)
theorem dX12_leaves_9 : decode cX12_leaves 9 = .ok (.iload_n 2, 1) := dc_28 (by decide +kernel)
theorem dX12_leaves_10 : decode cX12_leaves 10 = .ok (.iastore, 1) := dc_79 (by decide +kernel)
theorem dX12_leaves_11 : decode cX12_leaves 11 = .ok (.aload_n 0, 1) := dc_42 (by decide +kernel)
theorem dX12_leaves_12 : decode cX12_leaves 12 = .ok (.getfield 7, 3) := dc_180 0 7 (by decide +kernel)
theorem dX12_leaves_15 : decode cX12_leaves 15 = .ok (.sipush 208, 3) := dc_17 0 208 208 (by decide +kernel)
theorem dX12_leaves_18 : decode cX12_leaves 18 = .ok (.iload_n 1, 1) := dc_27 (by decide +kernel)
theorem dX12_leaves_19 : decode cX12_leaves 19 = .ok (.iadd, 1) := dc_96 (by decide +kernel)
theorem dX12_leaves_20 : decode cX12_leaves 20 = .ok (.iconst (-1), 1) := dc_2 (by decide +kernel)
theorem dX12_leaves_21 : decode cX12_leaves 21 = .ok (.iastore, 1) := dc_79 (by decide +kernel)
theorem dX12_leaves_22 : decode cX12_leaves 22 = .ok (.aload_n 0, 1) := dc_42 (by decide +kernel)
theorem dX12_leaves_23 : decode cX12_leaves 23 = .ok (.getfield 7, 3) := dc_180 0 7 (by decide +kernel)
theorem dX12_leaves_26 : decode cX12_leaves 26 = .ok (.sipush 240, 3) := dc_17 0 240 240 (by decide +kernel)
theorem dX12_leaves_29 : decode cX12_leaves 29 = .ok (.iload_n 1, 1) := dc_27 (by decide +kernel)
theorem dX12_leaves_30 : decode cX12_leaves 30 = .ok (.iadd, 1) := dc_96 (by decide +kernel)
theorem dX12_leaves_31 : decode cX12_leaves 31 = .ok (.iconst (-1), 1) := dc_2 (by decide +kernel)
theorem dX12_leaves_32 : decode cX12_leaves 32 = .ok (.iastore, 1) := dc_79 (by decide +kernel)
theorem dX12_leaves_33 : decode cX12_leaves 33 = .ok (.return_, 1) := dc_177 (by decide +kernel)
abbrev R_X12_leaves : Room := { frames := 0, cells := 0, slots := 0, locals := 0 }
set_option maxRecDepth 100000 in
set_option maxHeartbeats 4000000 in
theorem s_X12_leaves {l : Launch} {n0 : Nat} {D : va_G} {cA : Nat → ClassId} {M : gM} (a : Int) (r_a : 0 ≤ a ∧ a ≤ 15) (b : Int) (r_b : -1 ≤ b ∧ b ≤ 8) {sz : Nat} (hsz : 206 ≤ sz) (I : gI sz M) (C : gC sz M)   : Met l yX12_leaves (gWsOf yX12_leaves cX12_leaves 3 (Option.none : Option Jvm.ClassFile.FieldType)) R_X12_leaves (gPc n0 D cA [gA n0 190, gJ a, gJ b] M sz) (gQv n0 D cA sz (fun M1 => gI sz M1 ∧ gC sz M1 ∧ gFr 1125899906842624 M M1)) 0 0 (fun q => n0 ≤ q) := by
  refine gMetV [gA n0 190, gJ a, gJ b] (by decide) (Nat.le_of_ble_eq_true rfl) ⟨rfl, rfl⟩ ?_
  intro p e s m args below meth cd Q X hq
  have X : gCx p s m args meth cd n0 D cA "ParishUnionModel" cX12_leaves 3 := X
  show G p l e R_X12_leaves s m args below meth cd n0 D cA 3 Q 0 0 M sz 0 [(0, gA n0 190), (1, gJ a), (2, gJ b)] []
  refine g_aload_n (n := 1) X 0 dX12_leaves_0 rfl rfl rfl ?_
  refine gg_12_1 (n := 4) (z := 191) X (by decide) (gsz hsz (by decide)) lay_190 kw_6_27 dX12_leaves_1 rfl (rf_190_1 I (gsz hsz (by decide))) (by decide) ?_
  refine g_sipush (n := 7) X dX12_leaves_4 (by decide +kernel) rfl ?_
  refine g_iload_n (n := 8) X 1 dX12_leaves_7 rfl rfl rfl ?_
  refine g_iadd (n := 9) (z := a + 160) X dX12_leaves_8 (by omega) rfl ?_
  refine g_iload_n (n := 10) X 2 dX12_leaves_9 rfl rfl rfl ?_
  refine g_iast (n := 11) X (by decide) (gsz hsz (by decide)) lay_191 (by omega) (by omega) (by decide) dX12_leaves_10 rfl ?_
  refine G.nm (fun M1 e2 => ?_)
  have IM1 : gI sz M1 := gI.set I (rs_AT (k := a + 160) (by omega)).1 (by omega) e2
  have CM1 : gC sz M1 := gC.set C (rs_AT (k := a + 160) (by omega)).2.1 e2
  refine g_aload_n (n := 12) X 0 dX12_leaves_11 rfl rfl rfl ?_
  refine gg_12_1 (n := 15) (z := 191) X (by decide) (gsz hsz (by decide)) lay_190 kw_6_27 dX12_leaves_12 rfl (rf_190_1 IM1 (gsz hsz (by decide))) (by decide) ?_
  refine g_sipush (n := 18) X dX12_leaves_15 (by decide +kernel) rfl ?_
  refine g_iload_n (n := 19) X 1 dX12_leaves_18 rfl rfl rfl ?_
  refine g_iadd (n := 20) (z := a + 208) X dX12_leaves_19 (by omega) rfl ?_
  refine g_iconst (n := 21) X dX12_leaves_20 rfl ?_
  refine g_iast (n := 22) X (by decide) (gsz hsz (by decide)) lay_191 (by omega) (by omega) (by decide) dX12_leaves_21 rfl ?_
  refine G.nm (fun M3 e4 => ?_)
  have IM3 : gI sz M3 := gI.set IM1 (rs_WARD (k := a + 208) (by omega)).1 (by omega) e4
  have CM3 : gC sz M3 := gC.set CM1 (rs_WARD (k := a + 208) (by omega)).2.1 e4
  refine g_aload_n (n := 23) X 0 dX12_leaves_22 rfl rfl rfl ?_
  refine gg_12_1 (n := 26) (z := 191) X (by decide) (gsz hsz (by decide)) lay_190 kw_6_27 dX12_leaves_23 rfl (rf_190_1 IM3 (gsz hsz (by decide))) (by decide) ?_
  refine g_sipush (n := 29) X dX12_leaves_26 (by decide +kernel) rfl ?_
  refine g_iload_n (n := 30) X 1 dX12_leaves_29 rfl rfl rfl ?_
  refine g_iadd (n := 31) (z := a + 240) X dX12_leaves_30 (by omega) rfl ?_
  refine g_iconst (n := 32) X dX12_leaves_31 rfl ?_
  refine g_iast (n := 33) X (by decide) (gsz hsz (by decide)) lay_191 (by omega) (by omega) (by decide) dX12_leaves_32 rfl ?_
  refine G.nm (fun M5 e6 => ?_)
  have IM5 : gI sz M5 := gI.set IM3 (rs_CAME (k := a + 240) (by omega)).1 (by omega) e6
  have CM5 : gC sz M5 := gC.set CM3 (rs_CAME (k := a + 240) (by omega)).2.1 e6
  exact hq _ _ _ dX12_leaves_33 ⟨IM5, CM5, (gFr.s (gFr.s (gFr.s gFr.rf e2 (rs_AT (k := a + 160) (by omega)).2.2 rfl) e4 (rs_WARD (k := a + 208) (by omega)).2.2 rfl) e6 (rs_CAME (k := a + 240) (by omega)).2.2 rfl)⟩
theorem dX12_hungers_0 : decode cX12_hungers 0 = .ok (.aload_n 0, 1) := dc_42 (by decide +kernel)
theorem dX12_hungers_1 : decode cX12_hungers 1 = .ok (.getfield 7, 3) := dc_180 0 7 (by decide +kernel)
theorem dX12_hungers_4 : decode cX12_hungers 4 = .ok (.sipush 176, 3) := dc_17 0 176 176 (by decide +kernel)
theorem dX12_hungers_7 : decode cX12_hungers 7 = .ok (.iload_n 1, 1) := dc_27 (by decide +kernel)
theorem dX12_hungers_8 : decode cX12_hungers 8 = .ok (.iadd, 1) := dc_96 (by decide +kernel)
theorem dX12_hungers_9 : decode cX12_hungers 9 = .ok (.iaload, 1) := dc_46 (by decide +kernel)
theorem dX12_hungers_10 : decode cX12_hungers 10 = .ok (.iload_n 2, 1) := dc_28 (by decide +kernel)
theorem dX12_hungers_11 : decode cX12_hungers 11 = .ok (.iadd, 1) := dc_96 (by decide +kernel)
theorem dX12_hungers_12 : decode cX12_hungers 12 = .ok (.istore_n 3, 1) := dc_62 (by decide +kernel)
theorem dX12_hungers_13 : decode cX12_hungers 13 = .ok (.aload_n 0, 1) := dc_42 (by decide +kernel)
theorem dX12_hungers_14 : decode cX12_hungers 14 = .ok (.getfield 7, 3) := dc_180 0 7 (by decide +kernel)
theorem dX12_hungers_17 : decode cX12_hungers 17 = .ok (.sipush 176, 3) := dc_17 0 176 176 (by decide +kernel)
theorem dX12_hungers_20 : decode cX12_hungers 20 = .ok (.iload_n 1, 1) := dc_27 (by decide +kernel)
theorem dX12_hungers_21 : decode cX12_hungers 21 = .ok (.iadd, 1) := dc_96 (by decide +kernel)
theorem dX12_hungers_22 : decode cX12_hungers 22 = .ok (.iload_n 3, 1) := dc_29 (by decide +kernel)
theorem dX12_hungers_23 : decode cX12_hungers 23 = .ok (.ifCond .ge 7, 3) := dc_156 0 7 7 (by decide +kernel)
theorem dX12_hungers_30 : decode cX12_hungers 30 = .ok (.iload_n 3, 1) := dc_29 (by decide +kernel)
theorem dX12_hungers_31 : decode cX12_hungers 31 = .ok (.bipush 30, 2) := dc_16 30 30 (by decide +kernel)
theorem dX12_hungers_33 : decode cX12_hungers 33 = .ok (.if_icmp .le 8, 3) := dc_164 0 8 8 (by decide +kernel)
theorem dX12_hungers_41 : decode cX12_hungers 41 = .ok (.iload_n 3, 1) := dc_29 (by decide +kernel)
theorem dX12_hungers_42 : decode cX12_hungers 42 = .ok (.iastore, 1) := dc_79 (by decide +kernel)
theorem dX12_hungers_43 : decode cX12_hungers 43 = .ok (.return_, 1) := dc_177 (by decide +kernel)
theorem dX12_hungers_36 : decode cX12_hungers 36 = .ok (.bipush 30, 2) := dc_16 30 30 (by decide +kernel)
theorem dX12_hungers_38 : decode cX12_hungers 38 = .ok (.goto 4, 3) := dc_167 0 4 4 (by decide +kernel)
theorem dX12_hungers_26 : decode cX12_hungers 26 = .ok (.iconst 0, 1) := dc_3 (by decide +kernel)
theorem dX12_hungers_27 : decode cX12_hungers 27 = .ok (.goto 15, 3) := dc_167 0 15 15 (by decide +kernel)
abbrev R_X12_hungers : Room := { frames := 0, cells := 0, slots := 0, locals := 0 }
set_option maxRecDepth 100000 in
set_option maxHeartbeats 4000000 in
theorem s_X12_hungers {l : Launch} {n0 : Nat} {D : va_G} {cA : Nat → ClassId} {M : gM} (a : Int) (r_a : 0 ≤ a ∧ a ≤ 15) (b : Int) (r_b : -2147483648 ≤ b ∧ b ≤ 2147483647) {sz : Nat} (hsz : 206 ≤ sz) (I : gI sz M) (C : gC sz M)   : Met l yX12_hungers (gWsOf yX12_hungers cX12_hungers 4 (Option.none : Option Jvm.ClassFile.FieldType)) R_X12_hungers (gPc n0 D cA [gA n0 190, gJ a, gJ b] M sz) (gQv n0 D cA sz (fun M1 => gI sz M1 ∧ gC sz M1 ∧ gFr 1125899906842624 M M1)) 0 0 (fun q => n0 ≤ q) := by
  refine gMetV [gA n0 190, gJ a, gJ b] (by decide) (Nat.le_of_ble_eq_true rfl) ⟨rfl, rfl⟩ ?_
  intro p e s m args below meth cd Q X hq
  have X : gCx p s m args meth cd n0 D cA "ParishUnionModel" cX12_hungers 4 := X
  show G p l e R_X12_hungers s m args below meth cd n0 D cA 4 Q 0 0 M sz 0 [(0, gA n0 190), (1, gJ a), (2, gJ b)] []
  refine g_aload_n (n := 1) X 0 dX12_hungers_0 rfl rfl rfl ?_
  refine gg_12_1 (n := 4) (z := 191) X (by decide) (gsz hsz (by decide)) lay_190 kw_6_27 dX12_hungers_1 rfl (rf_190_1 I (gsz hsz (by decide))) (by decide) ?_
  refine g_sipush (n := 7) X dX12_hungers_4 (by decide +kernel) rfl ?_
  refine g_iload_n (n := 8) X 1 dX12_hungers_7 rfl rfl rfl ?_
  refine g_iadd (n := 9) (z := a + 176) X dX12_hungers_8 (by omega) rfl ?_
  obtain ⟨v1, hv1, rv1⟩ := gRd I (by decide) (gsz hsz (by decide)) (rs_HUNGER (k := a + 176) (by omega)).1
  refine g_iald2 (n := 10) (v := v1) X (by decide) (gsz hsz (by decide)) lay_191 (by omega) (by omega) (by decide) dX12_hungers_9 rfl hv1 ?_
  refine g_iload_n (n := 11) X 2 dX12_hungers_10 rfl rfl rfl ?_
  refine g_iaddA (n := 12) X dX12_hungers_11 rfl (fun v2 rv2 xv2 => ?_)
  clear xv2
  refine g_istore_n (n := 13) (L' := [(3, gJ v2), (0, gA n0 190), (1, gJ a), (2, gJ b)]) X dX12_hungers_12 rfl (by decide) rfl rfl ?_
  refine g_aload_n (n := 14) X 1 dX12_hungers_13 rfl rfl rfl ?_
  refine gg_12_1 (n := 17) (z := 191) X (by decide) (gsz hsz (by decide)) lay_190 kw_6_27 dX12_hungers_14 rfl (rf_190_1 I (gsz hsz (by decide))) (by decide) ?_
  refine g_sipush (n := 20) X dX12_hungers_17 (by decide +kernel) rfl ?_
  refine g_iload_n (n := 21) X 2 dX12_hungers_20 rfl rfl rfl ?_
  refine g_iadd (n := 22) (z := a + 176) X dX12_hungers_21 (by omega) rfl ?_
  refine g_iload_n (n := 23) X 0 dX12_hungers_22 rfl rfl rfl ?_
  refine g_if_ge (n := 26) (tgt := 30) X dX12_hungers_23 (by decide) (by omega) rfl (fun c3 => ?_) (fun c3 => ?_)
  · refine g_iload_n (n := 31) X 0 dX12_hungers_30 rfl rfl rfl ?_
    refine g_bipush (n := 33) X dX12_hungers_31 (by decide +kernel) rfl ?_
    refine g_icmp_le (n := 36) (tgt := 41) X dX12_hungers_33 (by decide) (by omega) (by omega) rfl (fun c4 => ?_) (fun c4 => ?_)
    · refine g_iload_n (n := 42) X 0 dX12_hungers_41 rfl rfl rfl ?_
      refine g_iast (n := 43) X (by decide) (gsz hsz (by decide)) lay_191 (by omega) (by omega) (by decide) dX12_hungers_42 rfl ?_
      refine G.nm (fun M5 e6 => ?_)
      have IM5 : gI sz M5 := gI.set I (rs_HUNGER (k := a + 176) (by omega)).1 (by omega) e6
      have CM5 : gC sz M5 := gC.set C (rs_HUNGER (k := a + 176) (by omega)).2.1 e6
      exact hq _ _ _ dX12_hungers_43 ⟨IM5, CM5, (gFr.s gFr.rf e6 (rs_HUNGER (k := a + 176) (by omega)).2.2 rfl)⟩
    · refine g_bipush (n := 38) X dX12_hungers_36 (by decide +kernel) rfl ?_
      refine g_goto (tgt := 42) X dX12_hungers_38 (by decide) ?_
      refine g_iast (n := 43) X (by decide) (gsz hsz (by decide)) lay_191 (by omega) (by omega) (by decide) dX12_hungers_42 rfl ?_
      refine G.nm (fun M7 e8 => ?_)
      have IM7 : gI sz M7 := gI.set I (rs_HUNGER (k := a + 176) (by omega)).1 (by omega) e8
      have CM7 : gC sz M7 := gC.set C (rs_HUNGER (k := a + 176) (by omega)).2.1 e8
      exact hq _ _ _ dX12_hungers_43 ⟨IM7, CM7, (gFr.s gFr.rf e8 (rs_HUNGER (k := a + 176) (by omega)).2.2 rfl)⟩
  · refine g_iconst (n := 27) X dX12_hungers_26 rfl ?_
    refine g_goto (tgt := 42) X dX12_hungers_27 (by decide) ?_
    refine g_iast (n := 43) X (by decide) (gsz hsz (by decide)) lay_191 (by omega) (by omega) (by decide) dX12_hungers_42 rfl ?_
    refine G.nm (fun M9 e10 => ?_)
    have IM9 : gI sz M9 := gI.set I (rs_HUNGER (k := a + 176) (by omega)).1 (by omega) e10
    have CM9 : gC sz M9 := gC.set C (rs_HUNGER (k := a + 176) (by omega)).2.1 e10
    exact hq _ _ _ dX12_hungers_43 ⟨IM9, CM9, (gFr.s gFr.rf e10 (rs_HUNGER (k := a + 176) (by omega)).2.2 rfl)⟩
theorem dX12_ageOf_0 : decode cX12_ageOf 0 = .ok (.iload_n 2, 1) := dc_28 (by decide +kernel)
theorem dX12_ageOf_1 : decode cX12_ageOf 1 = .ok (.aload_n 0, 1) := dc_42 (by decide +kernel)
theorem dX12_ageOf_2 : decode cX12_ageOf 2 = .ok (.getfield 7, 3) := dc_180 0 7 (by decide +kernel)
theorem dX12_ageOf_5 : decode cX12_ageOf 5 = .ok (.bipush 96, 2) := dc_16 96 96 (by decide +kernel)
theorem dX12_ageOf_7 : decode cX12_ageOf 7 = .ok (.iload_n 1, 1) := dc_27 (by decide +kernel)
theorem dX12_ageOf_8 : decode cX12_ageOf 8 = .ok (.iadd, 1) := dc_96 (by decide +kernel)
theorem dX12_ageOf_9 : decode cX12_ageOf 9 = .ok (.iaload, 1) := dc_46 (by decide +kernel)
theorem dX12_ageOf_10 : decode cX12_ageOf 10 = .ok (.isub, 1) := dc_100 (by decide +kernel)
theorem dX12_ageOf_11 : decode cX12_ageOf 11 = .ok (.bipush 50, 2) := dc_16 50 50 (by decide +kernel)
theorem dX12_ageOf_13 : decode cX12_ageOf 13 = .ok (.idiv, 1) := dc_108 (by decide +kernel)
theorem dX12_ageOf_14 : decode cX12_ageOf 14 = .ok (.ireturn, 1) := dc_172 (by decide +kernel)
abbrev R_X12_ageOf : Room := { frames := 0, cells := 0, slots := 0, locals := 0 }
set_option maxRecDepth 100000 in
set_option maxHeartbeats 4000000 in
theorem s_X12_ageOf {l : Launch} {n0 : Nat} {D : va_G} {cA : Nat → ClassId} {M : gM} (a : Int) (r_a : 0 ≤ a ∧ a ≤ 15) (b : Int) (r_b : 0 ≤ b ∧ b ≤ 300) {sz : Nat} (hsz : 206 ≤ sz) (I : gI sz M) (C : gC sz M)   : Met l yX12_ageOf (gWsOf yX12_ageOf cX12_ageOf 3 (Option.some Jvm.ClassFile.FieldType.int)) R_X12_ageOf (gPc n0 D cA [gA n0 190, gJ a, gJ b] M sz) (gQi n0 D cA sz (fun z M1 => M = M1 ∧ (-2147483648 ≤ z ∧ z ≤ 2147483647))) 0 0 (fun q => n0 ≤ q) := by
  refine gMetI [gA n0 190, gJ a, gJ b] (by decide) (Nat.le_of_ble_eq_true rfl) ⟨rfl, rfl⟩ ?_
  intro p e s m args below meth cd Q X hq
  have X : gCx p s m args meth cd n0 D cA "ParishUnionModel" cX12_ageOf 3 := X
  show G p l e R_X12_ageOf s m args below meth cd n0 D cA 3 Q 0 0 M sz 0 [(0, gA n0 190), (1, gJ a), (2, gJ b)] []
  refine g_iload_n (n := 1) X 2 dX12_ageOf_0 rfl rfl rfl ?_
  refine g_aload_n (n := 2) X 0 dX12_ageOf_1 rfl rfl rfl ?_
  refine gg_12_1 (n := 5) (z := 191) X (by decide) (gsz hsz (by decide)) lay_190 kw_6_27 dX12_ageOf_2 rfl (rf_190_1 I (gsz hsz (by decide))) (by decide) ?_
  refine g_bipush (n := 7) X dX12_ageOf_5 (by decide +kernel) rfl ?_
  refine g_iload_n (n := 8) X 1 dX12_ageOf_7 rfl rfl rfl ?_
  refine g_iadd (n := 9) (z := a + 96) X dX12_ageOf_8 (by omega) rfl ?_
  obtain ⟨v1, hv1, rv1⟩ := gRd I (by decide) (gsz hsz (by decide)) (rs_BORN (k := a + 96) (by omega)).1
  refine g_iald2 (n := 10) (v := v1) X (by decide) (gsz hsz (by decide)) lay_191 (by omega) (by omega) (by decide) dX12_ageOf_9 rfl hv1 ?_
  refine g_isub (n := 11) (z := b - v1) X dX12_ageOf_10 rfl rfl ?_
  refine g_bipush (n := 13) X dX12_ageOf_11 (by decide +kernel) rfl ?_
  refine g_idivA (n := 14) X dX12_ageOf_13 (by decide +kernel) rfl (fun v2 rv2 xv2 => ?_)
  clear xv2
  exact hq _ _ _ _ dX12_ageOf_14 ⟨rfl, by omega⟩
theorem dX12_without_0 : decode cX12_without 0 = .ok (.iload_n 0, 1) := dc_26 (by decide +kernel)
theorem dX12_without_1 : decode cX12_without 1 = .ok (.tableswitch 59 0 6 #[43, 46, 49, 52, 54, 57, 57], 43) := by decide +kernel
theorem dX12_without_44 : decode cX12_without 44 = .ok (.bipush 50, 2) := dc_16 50 50 (by decide +kernel)
theorem dX12_without_46 : decode cX12_without 46 = .ok (.ireturn, 1) := dc_172 (by decide +kernel)
theorem dX12_without_47 : decode cX12_without 47 = .ok (.bipush 100, 2) := dc_16 100 100 (by decide +kernel)
theorem dX12_without_49 : decode cX12_without 49 = .ok (.ireturn, 1) := dc_172 (by decide +kernel)
theorem dX12_without_50 : decode cX12_without 50 = .ok (.bipush 10, 2) := dc_16 10 10 (by decide +kernel)
theorem dX12_without_52 : decode cX12_without 52 = .ok (.ireturn, 1) := dc_172 (by decide +kernel)
theorem dX12_without_53 : decode cX12_without 53 = .ok (.iconst 5, 1) := dc_8 (by decide +kernel)
theorem dX12_without_54 : decode cX12_without 54 = .ok (.ireturn, 1) := dc_172 (by decide +kernel)
theorem dX12_without_55 : decode cX12_without 55 = .ok (.bipush 14, 2) := dc_16 14 14 (by decide +kernel)
theorem dX12_without_57 : decode cX12_without 57 = .ok (.ireturn, 1) := dc_172 (by decide +kernel)
theorem dX12_without_58 : decode cX12_without 58 = .ok (.iconst 1, 1) := dc_4 (by decide +kernel)
theorem dX12_without_59 : decode cX12_without 59 = .ok (.ireturn, 1) := dc_172 (by decide +kernel)
theorem dX12_without_60 : decode cX12_without 60 = .ok (.iconst 0, 1) := dc_3 (by decide +kernel)
theorem dX12_without_61 : decode cX12_without 61 = .ok (.ireturn, 1) := dc_172 (by decide +kernel)
abbrev R_X12_without : Room := { frames := 0, cells := 0, slots := 0, locals := 0 }
set_option maxRecDepth 100000 in
set_option maxHeartbeats 4000000 in
theorem s_X12_without {l : Launch} {n0 : Nat} {D : va_G} {cA : Nat → ClassId} {M : gM} (a : Int) (r_a : -2147483648 ≤ a ∧ a ≤ 2147483647) {sz : Nat} (hsz : 206 ≤ sz) (I : gI sz M) (C : gC sz M)   : Met l yX12_without (gWsOf yX12_without cX12_without 1 (Option.some Jvm.ClassFile.FieldType.int)) R_X12_without (gPc n0 D cA [gJ a] M sz) (gQi n0 D cA sz (fun z M1 => M = M1 ∧ (0 ≤ z ∧ z ≤ 100))) 0 0 (fun q => n0 ≤ q) := by
  refine gMetI [gJ a] (by decide) (Nat.le_of_ble_eq_true rfl) ⟨rfl, rfl⟩ ?_
  intro p e s m args below meth cd Q X hq
  have X : gCx p s m args meth cd n0 D cA "ParishUnionModel" cX12_without 1 := X
  show G p l e R_X12_without s m args below meth cd n0 D cA 1 Q 0 0 M sz 0 [(0, gJ a)] []
  refine g_iload_n (n := 1) X 0 dX12_without_0 rfl rfl rfl ?_
  by_cases c1 : a = 0
  · refine g_tableIn (tgt := 44) X 0 dX12_without_1 (by omega) (by omega) (by omega) (by omega) rfl (by decide) ?_
    refine g_bipush (n := 46) X dX12_without_44 (by decide +kernel) rfl ?_
    exact hq _ _ _ _ dX12_without_46 ⟨rfl, by omega⟩
  by_cases c2 : a = 1
  · refine g_tableIn (tgt := 47) X 1 dX12_without_1 (by omega) (by omega) (by omega) (by omega) rfl (by decide) ?_
    refine g_bipush (n := 49) X dX12_without_47 (by decide +kernel) rfl ?_
    exact hq _ _ _ _ dX12_without_49 ⟨rfl, by omega⟩
  by_cases c3 : a = 2
  · refine g_tableIn (tgt := 50) X 2 dX12_without_1 (by omega) (by omega) (by omega) (by omega) rfl (by decide) ?_
    refine g_bipush (n := 52) X dX12_without_50 (by decide +kernel) rfl ?_
    exact hq _ _ _ _ dX12_without_52 ⟨rfl, by omega⟩
  by_cases c4 : a = 3
  · refine g_tableIn (tgt := 53) X 3 dX12_without_1 (by omega) (by omega) (by omega) (by omega) rfl (by decide) ?_
    refine g_iconst (n := 54) X dX12_without_53 rfl ?_
    exact hq _ _ _ _ dX12_without_54 ⟨rfl, by omega⟩
  by_cases c5 : a = 4
  · refine g_tableIn (tgt := 55) X 4 dX12_without_1 (by omega) (by omega) (by omega) (by omega) rfl (by decide) ?_
    refine g_bipush (n := 57) X dX12_without_55 (by decide +kernel) rfl ?_
    exact hq _ _ _ _ dX12_without_57 ⟨rfl, by omega⟩
  by_cases c6 : a = 5
  · refine g_tableIn (tgt := 58) X 5 dX12_without_1 (by omega) (by omega) (by omega) (by omega) rfl (by decide) ?_
    refine g_iconst (n := 59) X dX12_without_58 rfl ?_
    exact hq _ _ _ _ dX12_without_59 ⟨rfl, by omega⟩
  by_cases c7 : a = 6
  · refine g_tableIn (tgt := 58) X 6 dX12_without_1 (by omega) (by omega) (by omega) (by omega) rfl (by decide) ?_
    refine g_iconst (n := 59) X dX12_without_58 rfl ?_
    exact hq _ _ _ _ dX12_without_59 ⟨rfl, by omega⟩
  refine g_tableOut (tgt := 60) X dX12_without_1 (by omega) (by omega) (by decide) ?_
  refine g_iconst (n := 61) X dX12_without_60 rfl ?_
  exact hq _ _ _ _ dX12_without_61 ⟨rfl, by omega⟩
theorem dX12_has_0 : decode cX12_has 0 = .ok (.iconst 0, 1) := dc_3 (by decide +kernel)
theorem dX12_has_1 : decode cX12_has 1 = .ok (.istore_n 3, 1) := dc_62 (by decide +kernel)
theorem dX12_has_2 : decode cX12_has 2 = .ok (.iload_n 3, 1) := dc_29 (by decide +kernel)
theorem dX12_has_3 : decode cX12_has 3 = .ok (.aload_n 0, 1) := dc_42 (by decide +kernel)
theorem dX12_has_4 : decode cX12_has 4 = .ok (.getfield 7, 3) := dc_180 0 7 (by decide +kernel)
theorem dX12_has_7 : decode cX12_has 7 = .ok (.sipush 24700, 3) := dc_17 96 124 24700 (by decide +kernel)
theorem dX12_has_10 : decode cX12_has 10 = .ok (.iload_n 1, 1) := dc_27 (by decide +kernel)
theorem dX12_has_11 : decode cX12_has 11 = .ok (.iadd, 1) := dc_96 (by decide +kernel)
theorem dX12_has_12 : decode cX12_has 12 = .ok (.iaload, 1) := dc_46 (by decide +kernel)
theorem dX12_has_13 : decode cX12_has 13 = .ok (.if_icmp .ge 30, 3) := dc_162 0 30 30 (by decide +kernel)
theorem dX12_has_43 : decode cX12_has 43 = .ok (.iconst 0, 1) := dc_3 (by decide +kernel)
theorem dX12_has_44 : decode cX12_has 44 = .ok (.ireturn, 1) := dc_172 (by decide +kernel)
theorem dX12_has_16 : decode cX12_has 16 = .ok (.aload_n 0, 1) := dc_42 (by decide +kernel)
theorem dX12_has_17 : decode cX12_has 17 = .ok (.getfield 7, 3) := dc_180 0 7 (by decide +kernel)
theorem dX12_has_20 : decode cX12_has 20 = .ok (.sipush 24720, 3) := dc_17 96 144 24720 (by decide +kernel)
theorem dX12_has_23 : decode cX12_has 23 = .ok (.bipush 8, 2) := dc_16 8 8 (by decide +kernel)
theorem dX12_has_25 : decode cX12_has 25 = .ok (.iload_n 1, 1) := dc_27 (by decide +kernel)
theorem dX12_has_26 : decode cX12_has 26 = .ok (.imul, 1) := dc_104 (by decide +kernel)
theorem dX12_has_27 : decode cX12_has 27 = .ok (.iadd, 1) := dc_96 (by decide +kernel)
theorem dX12_has_28 : decode cX12_has 28 = .ok (.iload_n 3, 1) := dc_29 (by decide +kernel)
theorem dX12_has_29 : decode cX12_has 29 = .ok (.iadd, 1) := dc_96 (by decide +kernel)
theorem dX12_has_30 : decode cX12_has 30 = .ok (.iaload, 1) := dc_46 (by decide +kernel)
theorem dX12_has_31 : decode cX12_has 31 = .ok (.iload_n 2, 1) := dc_28 (by decide +kernel)
theorem dX12_has_32 : decode cX12_has 32 = .ok (.if_icmp .ne 5, 3) := dc_160 0 5 5 (by decide +kernel)
theorem dX12_has_37 : decode cX12_has 37 = .ok (.iinc 3 1, 3) := dc_132 3 1 1 (by decide +kernel)
theorem dX12_has_40 : decode cX12_has 40 = .ok (.goto (-38), 3) := dc_167 255 218 (-38) (by decide +kernel)
theorem dX12_has_35 : decode cX12_has 35 = .ok (.iconst 1, 1) := dc_4 (by decide +kernel)
theorem dX12_has_36 : decode cX12_has 36 = .ok (.ireturn, 1) := dc_172 (by decide +kernel)
abbrev R_X12_has : Room := { frames := 0, cells := 0, slots := 0, locals := 0 }
set_option maxRecDepth 100000 in
set_option maxHeartbeats 4000000 in
theorem s_X12_has {l : Launch} {n0 : Nat} {D : va_G} {cA : Nat → ClassId} {M : gM} (a : Int) (r_a : 0 ≤ a ∧ a ≤ 10) (b : Int) (r_b : -2147483648 ≤ b ∧ b ≤ 2147483647) {sz : Nat} (hsz : 206 ≤ sz) (I : gI sz M) (C : gC sz M)   : Met l yX12_has (gWsOf yX12_has cX12_has 4 (Option.some Jvm.ClassFile.FieldType.boolean)) R_X12_has (gPc n0 D cA [gA n0 190, gJ a, gJ b] M sz) (gQi n0 D cA sz (fun z M1 => M = M1 ∧ (0 ≤ z ∧ z ≤ 1))) 0 0 (fun q => n0 ≤ q) := by
  refine gMetZ [gA n0 190, gJ a, gJ b] (by decide) (Nat.le_of_ble_eq_true rfl) ⟨rfl, rfl⟩ ?_
  intro p e s m args below meth cd Q X hq
  have X : gCx p s m args meth cd n0 D cA "ParishUnionModel" cX12_has 4 := X
  show G p l e R_X12_has s m args below meth cd n0 D cA 4 Q 0 0 M sz 0 [(0, gA n0 190), (1, gJ a), (2, gJ b)] []
  refine g_iconst (n := 1) X dX12_has_0 rfl ?_
  refine g_istore_n (n := 2) (L' := [(3, gJ 0), (0, gA n0 190), (1, gJ a), (2, gJ b)]) X dX12_has_1 rfl (by decide) rfl rfl ?_
  have j3 : ∀ (N24 : Nat) (v1 : Int) , (0 ≤ v1 ∧ v1 ≤ 8) → (8 - v1).toNat < N24 → G p l e R_X12_has s m args below meth cd n0 D cA 4 Q 0 0 M sz 2 [(0, gA n0 190), (1, gJ a), (2, gJ b), (3, gJ v1)] [] := by
    intro N24; induction N24 with
    | zero => intro v1 rv1 hm26; exfalso; omega
    | succ N24 ih25 =>
      intro v1 rv1 hm26
      refine g_iload_n (n := 3) X 3 dX12_has_2 rfl rfl rfl ?_
      refine g_aload_n (n := 4) X 0 dX12_has_3 rfl rfl rfl ?_
      refine gg_12_1 (n := 7) (z := 191) X (by decide) (gsz hsz (by decide)) lay_190 kw_6_27 dX12_has_4 rfl (rf_190_1 I (gsz hsz (by decide))) (by decide) ?_
      refine g_sipush (n := 10) X dX12_has_7 (by decide +kernel) rfl ?_
      refine g_iload_n (n := 11) X 1 dX12_has_10 rfl rfl rfl ?_
      refine g_iadd (n := 12) (z := a + 24700) X dX12_has_11 (by omega) rfl ?_
      obtain ⟨v27, hv27, rv27⟩ := gRd I (by decide) (gsz hsz (by decide)) (rs_LCOUNT (k := a + 24700) (by omega)).1
      refine g_iald2 (n := 13) (v := v27) X (by decide) (gsz hsz (by decide)) lay_191 (by omega) (by omega) (by decide) dX12_has_12 rfl hv27 ?_
      refine g_icmp_ge (n := 16) (tgt := 43) X dX12_has_13 (by decide) (by omega) (by omega) rfl (fun c28 => ?_) (fun c28 => ?_)
      · refine g_iconst (n := 44) X dX12_has_43 rfl ?_
        exact hq _ _ _ _ dX12_has_44 (by omega) ⟨rfl, by omega⟩
      · refine g_aload_n (n := 17) X 0 dX12_has_16 rfl rfl rfl ?_
        refine gg_12_1 (n := 20) (z := 191) X (by decide) (gsz hsz (by decide)) lay_190 kw_6_27 dX12_has_17 rfl (rf_190_1 I (gsz hsz (by decide))) (by decide) ?_
        refine g_sipush (n := 23) X dX12_has_20 (by decide +kernel) rfl ?_
        refine g_bipush (n := 25) X dX12_has_23 (by decide +kernel) rfl ?_
        refine g_iload_n (n := 26) X 1 dX12_has_25 rfl rfl rfl ?_
        refine g_imul (n := 27) (z := 8 * a) X dX12_has_26 rfl rfl ?_
        refine g_iadd (n := 28) (z := 24720 + (8 * a)) X dX12_has_27 rfl rfl ?_
        refine g_iload_n (n := 29) X 3 dX12_has_28 rfl rfl rfl ?_
        refine g_iadd (n := 30) (z := (24720 + (8 * a)) + v1) X dX12_has_29 rfl rfl ?_
        obtain ⟨v29, hv29, rv29⟩ := gRd I (by decide) (gsz hsz (by decide)) (rs_LWORD (k := (24720 + (8 * a)) + v1) (by omega)).1
        refine g_iald2 (n := 31) (v := v29) X (by decide) (gsz hsz (by decide)) lay_191 (by omega) (by omega) (by decide) dX12_has_30 rfl hv29 ?_
        refine g_iload_n (n := 32) X 2 dX12_has_31 rfl rfl rfl ?_
        refine g_icmp_ne (n := 35) (tgt := 37) X dX12_has_32 (by decide) (by omega) (by omega) rfl (fun c30 => ?_) (fun c30 => ?_)
        · refine g_iinc (n := 40) (w := v1 + 1) (L' := [(3, gJ (v1 + 1)), (0, gA n0 190), (1, gJ a), (2, gJ b)]) X 3 dX12_has_37 rfl rfl (by decide) rfl rfl ?_
          refine g_goto (tgt := 2) X dX12_has_40 (by decide) ?_
          refine G.sub (L' := [(0, gA n0 190), (1, gJ a), (2, gJ b), (3, gJ (v1 + 1))]) [1, 2, 3, 0] rfl ?_
          exact ih25 (v1 + 1) (by omega) (by omega)
        · refine g_iconst (n := 36) X dX12_has_35 rfl ?_
          exact hq _ _ _ _ dX12_has_36 (by omega) ⟨rfl, by omega⟩
  refine G.sub (L' := [(0, gA n0 190), (1, gJ a), (2, gJ b), (3, gJ 0)]) [1, 2, 3, 0] rfl ?_
  exact j3 _ 0 (by omega) (Nat.lt_succ_self _)
theorem dX12_actOf_0 : decode cX12_actOf 0 = .ok (.iconst (-1), 1) := dc_2 (by decide +kernel)
theorem dX12_actOf_1 : decode cX12_actOf 1 = .ok (.istore_n 3, 1) := dc_62 (by decide +kernel)
theorem dX12_actOf_2 : decode cX12_actOf 2 = .ok (.iconst 0, 1) := dc_3 (by decide +kernel)
theorem dX12_actOf_3 : decode cX12_actOf 3 = .ok (.istore 4, 2) := dc_54 4 (by decide +kernel)
theorem dX12_actOf_5 : decode cX12_actOf 5 = .ok (.iload 4, 2) := dc_21 4 (by decide +kernel)
theorem dX12_actOf_7 : decode cX12_actOf 7 = .ok (.aload_n 0, 1) := dc_42 (by decide +kernel)
theorem dX12_actOf_8 : decode cX12_actOf 8 = .ok (.getfield 7, 3) := dc_180 0 7 (by decide +kernel)
theorem dX12_actOf_11 : decode cX12_actOf 11 = .ok (.iconst 4, 1) := dc_7 (by decide +kernel)
theorem dX12_actOf_12 : decode cX12_actOf 12 = .ok (.iaload, 1) := dc_46 (by decide +kernel)
theorem dX12_actOf_13 : decode cX12_actOf 13 = .ok (.if_icmp .ge 70, 3) := dc_162 0 70 70 (by decide +kernel)
theorem dX12_actOf_83 : decode cX12_actOf 83 = .ok (.iload_n 3, 1) := dc_29 (by decide +kernel)
theorem dX12_actOf_84 : decode cX12_actOf 84 = .ok (.ireturn, 1) := dc_172 (by decide +kernel)
theorem dX12_actOf_16 : decode cX12_actOf 16 = .ok (.aload_n 0, 1) := dc_42 (by decide +kernel)
theorem dX12_actOf_17 : decode cX12_actOf 17 = .ok (.getfield 7, 3) := dc_180 0 7 (by decide +kernel)
theorem dX12_actOf_20 : decode cX12_actOf 20 = .ok (.sipush 656, 3) := dc_17 2 144 656 (by decide +kernel)
theorem dX12_actOf_23 : decode cX12_actOf 23 = .ok (.iload 4, 2) := dc_21 4 (by decide +kernel)
theorem dX12_actOf_25 : decode cX12_actOf 25 = .ok (.iadd, 1) := dc_96 (by decide +kernel)
theorem dX12_actOf_26 : decode cX12_actOf 26 = .ok (.iaload, 1) := dc_46 (by decide +kernel)
theorem dX12_actOf_27 : decode cX12_actOf 27 = .ok (.iload_n 2, 1) := dc_28 (by decide +kernel)
theorem dX12_actOf_28 : decode cX12_actOf 28 = .ok (.if_icmp .gt 47, 3) := dc_163 0 47 47 (by decide +kernel)
theorem dX12_actOf_75 : decode cX12_actOf 75 = .ok (.iload_n 3, 1) := dc_29 (by decide +kernel)
theorem dX12_actOf_76 : decode cX12_actOf 76 = .ok (.istore_n 3, 1) := dc_62 (by decide +kernel)
theorem dX12_actOf_77 : decode cX12_actOf 77 = .ok (.iinc 4 1, 3) := dc_132 4 1 1 (by decide +kernel)
theorem dX12_actOf_80 : decode cX12_actOf 80 = .ok (.goto (-75), 3) := dc_167 255 181 (-75) (by decide +kernel)
theorem dX12_actOf_31 : decode cX12_actOf 31 = .ok (.iload_n 3, 1) := dc_29 (by decide +kernel)
theorem dX12_actOf_32 : decode cX12_actOf 32 = .ok (.iconst (-1), 1) := dc_2 (by decide +kernel)
theorem dX12_actOf_33 : decode cX12_actOf 33 = .ok (.if_icmp .eq 27, 3) := dc_159 0 27 27 (by decide +kernel)
theorem dX12_actOf_60 : decode cX12_actOf 60 = .ok (.aload_n 0, 1) := dc_42 (by decide +kernel)
theorem dX12_actOf_61 : decode cX12_actOf 61 = .ok (.iload 4, 2) := dc_21 4 (by decide +kernel)
theorem dX12_actOf_63 : decode cX12_actOf 63 = .ok (.iload_n 1, 1) := dc_27 (by decide +kernel)
theorem dX12_actOf_64 : decode cX12_actOf 64 = .ok (.invokevirtual 227, 3) := dc_182 0 227 (by decide +kernel)
theorem kw_6_201 : (Jvm.Cond.methodLink "ParishUnionModel" (227 : Nat) ({ cls := "ParishUnionModel", name := "has", desc := "(II)Z" } : Jvm.MethodName)) ∈ gT := gT_of (tb_6 _ (List.mem_of_getElem? (i := 201) rfl)) rfl
theorem kw_6_204 : (Jvm.Cond.code ({ cls := "ParishUnionModel", name := "has", desc := "(II)Z" } : Jvm.MethodName) prog_14_method_50_code (4 : Nat) (Option.some Jvm.ClassFile.FieldType.boolean)) ∈ gT := gT_of (tb_6 _ (List.mem_of_getElem? (i := 204) rfl)) rfl
theorem okX12_has : gQok yX12_has cX12_has 4 (Option.some Jvm.ClassFile.FieldType.boolean) 2 := ⟨kw_6_204, kw_1_13, by decide +kernel, by decide +kernel, by decide +kernel⟩
theorem kw_6_203 : (Jvm.Cond.instanceMethod ({ cls := "ParishUnionModel", name := "has", desc := "(II)Z" } : Jvm.MethodName)) ∈ gT := gT_of (tb_6 _ (List.mem_of_getElem? (i := 203) rfl)) rfl
theorem kw_0_51 : (Jvm.Cond.selects "ParishUnionModel" ({ cls := "ParishUnionModel", name := "has", desc := "(II)Z" } : Jvm.MethodName) ({ cls := "ParishUnionModel", name := "has", desc := "(II)Z" } : Jvm.MethodName)) ∈ gT := gT_of (tb_0 _ (List.mem_of_getElem? (i := 51) rfl)) rfl
theorem dX12_actOf_67 : decode cX12_actOf 67 = .ok (.ifCond .eq 8, 3) := dc_153 0 8 8 (by decide +kernel)
theorem dX12_actOf_70 : decode cX12_actOf 70 = .ok (.iload 4, 2) := dc_21 4 (by decide +kernel)
theorem dX12_actOf_72 : decode cX12_actOf 72 = .ok (.goto 4, 3) := dc_167 0 4 4 (by decide +kernel)
theorem dX12_actOf_36 : decode cX12_actOf 36 = .ok (.aload_n 0, 1) := dc_42 (by decide +kernel)
theorem dX12_actOf_37 : decode cX12_actOf 37 = .ok (.getfield 7, 3) := dc_180 0 7 (by decide +kernel)
theorem dX12_actOf_40 : decode cX12_actOf 40 = .ok (.sipush 656, 3) := dc_17 2 144 656 (by decide +kernel)
theorem dX12_actOf_43 : decode cX12_actOf 43 = .ok (.iload 4, 2) := dc_21 4 (by decide +kernel)
theorem dX12_actOf_45 : decode cX12_actOf 45 = .ok (.iadd, 1) := dc_96 (by decide +kernel)
theorem dX12_actOf_46 : decode cX12_actOf 46 = .ok (.iaload, 1) := dc_46 (by decide +kernel)
theorem dX12_actOf_47 : decode cX12_actOf 47 = .ok (.aload_n 0, 1) := dc_42 (by decide +kernel)
theorem dX12_actOf_48 : decode cX12_actOf 48 = .ok (.getfield 7, 3) := dc_180 0 7 (by decide +kernel)
theorem dX12_actOf_51 : decode cX12_actOf 51 = .ok (.sipush 656, 3) := dc_17 2 144 656 (by decide +kernel)
theorem dX12_actOf_54 : decode cX12_actOf 54 = .ok (.iload_n 3, 1) := dc_29 (by decide +kernel)
theorem dX12_actOf_55 : decode cX12_actOf 55 = .ok (.iadd, 1) := dc_96 (by decide +kernel)
theorem dX12_actOf_56 : decode cX12_actOf 56 = .ok (.iaload, 1) := dc_46 (by decide +kernel)
theorem dX12_actOf_57 : decode cX12_actOf 57 = .ok (.if_icmp .lt 18, 3) := dc_161 0 18 18 (by decide +kernel)
abbrev R_X12_actOf : Room := { frames := 1, cells := 0, slots := 0, locals := 23 }
set_option maxRecDepth 100000 in
set_option maxHeartbeats 4000000 in
theorem s_X12_actOf {l : Launch} {n0 : Nat} {D : va_G} {cA : Nat → ClassId} {M : gM} (a : Int) (r_a : -2147483648 ≤ a ∧ a ≤ 2147483647) (b : Int) (r_b : 0 ≤ b ∧ b ≤ 300) {sz : Nat} (hsz : 206 ≤ sz) (I : gI sz M) (C : gC sz M)   : Met l yX12_actOf (gWsOf yX12_actOf cX12_actOf 5 (Option.some Jvm.ClassFile.FieldType.int)) R_X12_actOf (gPc n0 D cA [gA n0 190, gJ a, gJ b] M sz) (gQi n0 D cA sz (fun z M1 => M = M1 ∧ (-1 ≤ z ∧ z ≤ 10))) 0 0 (fun q => n0 ≤ q) := by
  refine gMetI [gA n0 190, gJ a, gJ b] (by decide) (Nat.le_of_ble_eq_true rfl) ⟨rfl, rfl⟩ ?_
  intro p e s m args below meth cd Q X hq
  have X : gCx p s m args meth cd n0 D cA "ParishUnionModel" cX12_actOf 5 := X
  show G p l e R_X12_actOf s m args below meth cd n0 D cA 5 Q 0 0 M sz 0 [(0, gA n0 190), (1, gJ a), (2, gJ b)] []
  refine g_iconst (n := 1) X dX12_actOf_0 rfl ?_
  refine g_istore_n (n := 2) (L' := [(3, gJ (-1)), (0, gA n0 190), (1, gJ a), (2, gJ b)]) X dX12_actOf_1 rfl (by decide) rfl rfl ?_
  refine g_iconst (n := 3) X dX12_actOf_2 rfl ?_
  refine g_istore (n := 5) (L' := [(4, gJ 0), (3, gJ (-1)), (0, gA n0 190), (1, gJ a), (2, gJ b)]) X dX12_actOf_3 (by decide) rfl rfl ?_
  have j4 : ∀ (N134 : Nat) (v1 v2 : Int) , (-1 ≤ v1 ∧ v1 ≤ 10) → (0 ≤ v2 ∧ v2 ≤ 11) → (11 - v2).toNat < N134 → G p l e R_X12_actOf s m args below meth cd n0 D cA 5 Q 0 0 M sz 5 [(0, gA n0 190), (1, gJ a), (2, gJ b), (3, gJ v1), (4, gJ v2)] [] := by
    intro N134; induction N134 with
    | zero => intro v1 v2 rv1 rv2 hm136; exfalso; omega
    | succ N134 ih135 =>
      intro v1 v2 rv1 rv2 hm136
      refine g_iload (n := 7) X 4 dX12_actOf_5 rfl rfl ?_
      refine g_aload_n (n := 8) X 0 dX12_actOf_7 rfl rfl rfl ?_
      refine gg_12_1 (n := 11) (z := 191) X (by decide) (gsz hsz (by decide)) lay_190 kw_6_27 dX12_actOf_8 rfl (rf_190_1 I (gsz hsz (by decide))) (by decide) ?_
      refine g_iconst (n := 12) X dX12_actOf_11 rfl ?_
      obtain ⟨v137, hv137, rv137⟩ := gRd I (by decide) (gsz hsz (by decide)) (rs_NA (k := 4) (by omega)).1
      refine g_iald2 (n := 13) (v := v137) X (by decide) (gsz hsz (by decide)) lay_191 (by omega) (by omega) (by decide) dX12_actOf_12 rfl hv137 ?_
      refine g_icmp_ge (n := 16) (tgt := 83) X dX12_actOf_13 (by decide) (by omega) (by omega) rfl (fun c138 => ?_) (fun c138 => ?_)
      · refine g_iload_n (n := 84) X 3 dX12_actOf_83 rfl rfl rfl ?_
        exact hq _ _ _ _ dX12_actOf_84 ⟨rfl, by omega⟩
      · refine g_aload_n (n := 17) X 0 dX12_actOf_16 rfl rfl rfl ?_
        refine gg_12_1 (n := 20) (z := 191) X (by decide) (gsz hsz (by decide)) lay_190 kw_6_27 dX12_actOf_17 rfl (rf_190_1 I (gsz hsz (by decide))) (by decide) ?_
        refine g_sipush (n := 23) X dX12_actOf_20 (by decide +kernel) rfl ?_
        refine g_iload (n := 25) X 4 dX12_actOf_23 rfl rfl ?_
        refine g_iadd (n := 26) (z := v2 + 656) X dX12_actOf_25 (by omega) rfl ?_
        obtain ⟨v139, hv139, rv139⟩ := gRd I (by decide) (gsz hsz (by decide)) (rs_AWEEK (k := v2 + 656) (by omega)).1
        refine g_iald2 (n := 27) (v := v139) X (by decide) (gsz hsz (by decide)) lay_191 (by omega) (by omega) (by decide) dX12_actOf_26 rfl hv139 ?_
        refine g_iload_n (n := 28) X 2 dX12_actOf_27 rfl rfl rfl ?_
        refine g_icmp_gt (n := 31) (tgt := 75) X dX12_actOf_28 (by decide) (by omega) (by omega) rfl (fun c140 => ?_) (fun c140 => ?_)
        · refine g_iload_n (n := 76) X 3 dX12_actOf_75 rfl rfl rfl ?_
          refine g_istore_n (n := 77) (L' := [(3, gJ v1), (0, gA n0 190), (1, gJ a), (2, gJ b), (4, gJ v2)]) X dX12_actOf_76 rfl (by decide) rfl rfl ?_
          refine g_iinc (n := 80) (w := v2 + 1) (L' := [(4, gJ (v2 + 1)), (3, gJ v1), (0, gA n0 190), (1, gJ a), (2, gJ b)]) X 4 dX12_actOf_77 rfl rfl (by decide) rfl rfl ?_
          refine g_goto (tgt := 5) X dX12_actOf_80 (by decide) ?_
          refine G.sub (L' := [(0, gA n0 190), (1, gJ a), (2, gJ b), (3, gJ v1), (4, gJ (v2 + 1))]) [2, 3, 4, 1, 0] rfl ?_
          exact ih135 v1 (v2 + 1) (by omega) (by omega) (by omega)
        · refine g_iload_n (n := 32) X 3 dX12_actOf_31 rfl rfl rfl ?_
          refine g_iconst (n := 33) X dX12_actOf_32 rfl ?_
          refine g_icmp_eq (n := 36) (tgt := 60) X dX12_actOf_33 (by decide) (by omega) (by omega) rfl (fun c141 => ?_) (fun c141 => ?_)
          · refine g_aload_n (n := 61) X 0 dX12_actOf_60 rfl rfl rfl ?_
            refine g_iload (n := 63) X 4 dX12_actOf_61 rfl rfl ?_
            refine g_iload_n (n := 64) X 1 dX12_actOf_63 rfl rfl rfl ?_
            refine g_callVi (n := 67) (As := [gJ v2, gJ a]) (rest := []) (cs1 := 0) (ss1 := 0) X (s_X12_has v2 (by omega) a (by omega) hsz I C ) okX12_has kw_6_201 ⟨kw_6_203, kw_0_51⟩ ⟨rfl, rfl⟩ ⟨Nat.le_of_ble_eq_true rfl, Nat.le_of_ble_eq_true rfl⟩ rfl (by decide) (gsz hsz (by decide)) lay_190 rfl rfl (Nat.le_of_ble_eq_true rfl) ⟨Nat.le_of_ble_eq_true rfl, Nat.le_of_ble_eq_true rfl⟩ rfl rfl dX12_actOf_64 rfl (fun v142 M143 P144 => ?_)
            obtain ⟨rfl, rv142⟩ := P144
            refine g_if_eq (n := 70) (tgt := 75) X dX12_actOf_67 (by decide) (by omega) rfl (fun c145 => ?_) (fun c145 => ?_)
            · refine g_iload_n (n := 76) X 3 dX12_actOf_75 rfl rfl rfl ?_
              refine g_istore_n (n := 77) (L' := [(3, gJ v1), (0, gA n0 190), (1, gJ a), (2, gJ b), (4, gJ v2)]) X dX12_actOf_76 rfl (by decide) rfl rfl ?_
              refine g_iinc (n := 80) (w := v2 + 1) (L' := [(4, gJ (v2 + 1)), (3, gJ v1), (0, gA n0 190), (1, gJ a), (2, gJ b)]) X 4 dX12_actOf_77 rfl rfl (by decide) rfl rfl ?_
              refine g_goto (tgt := 5) X dX12_actOf_80 (by decide) ?_
              refine G.sub (L' := [(0, gA n0 190), (1, gJ a), (2, gJ b), (3, gJ v1), (4, gJ (v2 + 1))]) [2, 3, 4, 1, 0] rfl ?_
              exact ih135 v1 (v2 + 1) (by omega) (by omega) (by omega)
            · refine g_iload (n := 72) X 4 dX12_actOf_70 rfl rfl ?_
              refine g_goto (tgt := 76) X dX12_actOf_72 (by decide) ?_
              refine g_istore_n (n := 77) (L' := [(3, gJ v2), (0, gA n0 190), (1, gJ a), (2, gJ b), (4, gJ v2)]) X dX12_actOf_76 rfl (by decide) rfl rfl ?_
              refine g_iinc (n := 80) (w := v2 + 1) (L' := [(4, gJ (v2 + 1)), (3, gJ v2), (0, gA n0 190), (1, gJ a), (2, gJ b)]) X 4 dX12_actOf_77 rfl rfl (by decide) rfl rfl ?_
              refine g_goto (tgt := 5) X dX12_actOf_80 (by decide) ?_
              refine G.sub (L' := [(0, gA n0 190), (1, gJ a), (2, gJ b), (3, gJ v2), (4, gJ (v2 + 1))]) [2, 3, 4, 1, 0] rfl ?_
              exact ih135 v2 (v2 + 1) (by omega) (by omega) (by omega)
          · refine g_aload_n (n := 37) X 0 dX12_actOf_36 rfl rfl rfl ?_
            refine gg_12_1 (n := 40) (z := 191) X (by decide) (gsz hsz (by decide)) lay_190 kw_6_27 dX12_actOf_37 rfl (rf_190_1 I (gsz hsz (by decide))) (by decide) ?_
            refine g_sipush (n := 43) X dX12_actOf_40 (by decide +kernel) rfl ?_
            refine g_iload (n := 45) X 4 dX12_actOf_43 rfl rfl ?_
            refine g_iadd (n := 46) (z := v2 + 656) X dX12_actOf_45 (by omega) rfl ?_
            refine g_iald2 (n := 47) (v := v139) X (by decide) (gsz hsz (by decide)) lay_191 (by omega) (by omega) (by decide) dX12_actOf_46 rfl hv139 ?_
            refine g_aload_n (n := 48) X 0 dX12_actOf_47 rfl rfl rfl ?_
            refine gg_12_1 (n := 51) (z := 191) X (by decide) (gsz hsz (by decide)) lay_190 kw_6_27 dX12_actOf_48 rfl (rf_190_1 I (gsz hsz (by decide))) (by decide) ?_
            refine g_sipush (n := 54) X dX12_actOf_51 (by decide +kernel) rfl ?_
            refine g_iload_n (n := 55) X 3 dX12_actOf_54 rfl rfl rfl ?_
            refine g_iadd (n := 56) (z := v1 + 656) X dX12_actOf_55 (by omega) rfl ?_
            obtain ⟨v146, hv146, rv146⟩ := gRd I (by decide) (gsz hsz (by decide)) (rs_AWEEK (k := v1 + 656) (by omega)).1
            refine g_iald2 (n := 57) (v := v146) X (by decide) (gsz hsz (by decide)) lay_191 (by omega) (by omega) (by decide) dX12_actOf_56 rfl hv146 ?_
            refine g_icmp_lt (n := 60) (tgt := 75) X dX12_actOf_57 (by decide) (by omega) (by omega) rfl (fun c147 => ?_) (fun c147 => ?_)
            · refine g_iload_n (n := 76) X 3 dX12_actOf_75 rfl rfl rfl ?_
              refine g_istore_n (n := 77) (L' := [(3, gJ v1), (0, gA n0 190), (1, gJ a), (2, gJ b), (4, gJ v2)]) X dX12_actOf_76 rfl (by decide) rfl rfl ?_
              refine g_iinc (n := 80) (w := v2 + 1) (L' := [(4, gJ (v2 + 1)), (3, gJ v1), (0, gA n0 190), (1, gJ a), (2, gJ b)]) X 4 dX12_actOf_77 rfl rfl (by decide) rfl rfl ?_
              refine g_goto (tgt := 5) X dX12_actOf_80 (by decide) ?_
              refine G.sub (L' := [(0, gA n0 190), (1, gJ a), (2, gJ b), (3, gJ v1), (4, gJ (v2 + 1))]) [2, 3, 4, 1, 0] rfl ?_
              exact ih135 v1 (v2 + 1) (by omega) (by omega) (by omega)
            · refine g_aload_n (n := 61) X 0 dX12_actOf_60 rfl rfl rfl ?_
              refine g_iload (n := 63) X 4 dX12_actOf_61 rfl rfl ?_
              refine g_iload_n (n := 64) X 1 dX12_actOf_63 rfl rfl rfl ?_
              refine g_callVi (n := 67) (As := [gJ v2, gJ a]) (rest := []) (cs1 := 0) (ss1 := 0) X (s_X12_has v2 (by omega) a (by omega) hsz I C ) okX12_has kw_6_201 ⟨kw_6_203, kw_0_51⟩ ⟨rfl, rfl⟩ ⟨Nat.le_of_ble_eq_true rfl, Nat.le_of_ble_eq_true rfl⟩ rfl (by decide) (gsz hsz (by decide)) lay_190 rfl rfl (Nat.le_of_ble_eq_true rfl) ⟨Nat.le_of_ble_eq_true rfl, Nat.le_of_ble_eq_true rfl⟩ rfl rfl dX12_actOf_64 rfl (fun v148 M149 P150 => ?_)
              obtain ⟨rfl, rv148⟩ := P150
              refine g_if_eq (n := 70) (tgt := 75) X dX12_actOf_67 (by decide) (by omega) rfl (fun c151 => ?_) (fun c151 => ?_)
              · refine g_iload_n (n := 76) X 3 dX12_actOf_75 rfl rfl rfl ?_
                refine g_istore_n (n := 77) (L' := [(3, gJ v1), (0, gA n0 190), (1, gJ a), (2, gJ b), (4, gJ v2)]) X dX12_actOf_76 rfl (by decide) rfl rfl ?_
                refine g_iinc (n := 80) (w := v2 + 1) (L' := [(4, gJ (v2 + 1)), (3, gJ v1), (0, gA n0 190), (1, gJ a), (2, gJ b)]) X 4 dX12_actOf_77 rfl rfl (by decide) rfl rfl ?_
                refine g_goto (tgt := 5) X dX12_actOf_80 (by decide) ?_
                refine G.sub (L' := [(0, gA n0 190), (1, gJ a), (2, gJ b), (3, gJ v1), (4, gJ (v2 + 1))]) [2, 3, 4, 1, 0] rfl ?_
                exact ih135 v1 (v2 + 1) (by omega) (by omega) (by omega)
              · refine g_iload (n := 72) X 4 dX12_actOf_70 rfl rfl ?_
                refine g_goto (tgt := 76) X dX12_actOf_72 (by decide) ?_
                refine g_istore_n (n := 77) (L' := [(3, gJ v2), (0, gA n0 190), (1, gJ a), (2, gJ b), (4, gJ v2)]) X dX12_actOf_76 rfl (by decide) rfl rfl ?_
                refine g_iinc (n := 80) (w := v2 + 1) (L' := [(4, gJ (v2 + 1)), (3, gJ v2), (0, gA n0 190), (1, gJ a), (2, gJ b)]) X 4 dX12_actOf_77 rfl rfl (by decide) rfl rfl ?_
                refine g_goto (tgt := 5) X dX12_actOf_80 (by decide) ?_
                refine G.sub (L' := [(0, gA n0 190), (1, gJ a), (2, gJ b), (3, gJ v2), (4, gJ (v2 + 1))]) [2, 3, 4, 1, 0] rfl ?_
                exact ih135 v2 (v2 + 1) (by omega) (by omega) (by omega)
  refine G.sub (L' := [(0, gA n0 190), (1, gJ a), (2, gJ b), (3, gJ (-1)), (4, gJ 0)]) [2, 3, 4, 1, 0] rfl ?_
  exact j4 _ (-1) 0 (by omega) (by omega) (Nat.lt_succ_self _)
theorem dX12_law_0 : decode cX12_law 0 = .ok (.aload_n 0, 1) := dc_42 (by decide +kernel)
theorem dX12_law_1 : decode cX12_law 1 = .ok (.iload_n 1, 1) := dc_27 (by decide +kernel)
theorem dX12_law_2 : decode cX12_law 2 = .ok (.iload_n 2, 1) := dc_28 (by decide +kernel)
theorem dX12_law_3 : decode cX12_law 3 = .ok (.invokevirtual 230, 3) := dc_182 0 230 (by decide +kernel)
theorem kw_6_197 : (Jvm.Cond.methodLink "ParishUnionModel" (230 : Nat) ({ cls := "ParishUnionModel", name := "actOf", desc := "(II)I" } : Jvm.MethodName)) ∈ gT := gT_of (tb_6 _ (List.mem_of_getElem? (i := 197) rfl)) rfl
theorem kw_6_200 : (Jvm.Cond.code ({ cls := "ParishUnionModel", name := "actOf", desc := "(II)I" } : Jvm.MethodName) prog_14_method_51_code (5 : Nat) (Option.some Jvm.ClassFile.FieldType.int)) ∈ gT := gT_of (tb_6 _ (List.mem_of_getElem? (i := 200) rfl)) rfl
theorem okX12_actOf : gQok yX12_actOf cX12_actOf 5 (Option.some Jvm.ClassFile.FieldType.int) 2 := ⟨kw_6_200, kw_1_13, by decide +kernel, by decide +kernel, by decide +kernel⟩
theorem kw_6_199 : (Jvm.Cond.instanceMethod ({ cls := "ParishUnionModel", name := "actOf", desc := "(II)I" } : Jvm.MethodName)) ∈ gT := gT_of (tb_6 _ (List.mem_of_getElem? (i := 199) rfl)) rfl
theorem kw_0_50 : (Jvm.Cond.selects "ParishUnionModel" ({ cls := "ParishUnionModel", name := "actOf", desc := "(II)I" } : Jvm.MethodName) ({ cls := "ParishUnionModel", name := "actOf", desc := "(II)I" } : Jvm.MethodName)) ∈ gT := gT_of (tb_0 _ (List.mem_of_getElem? (i := 50) rfl)) rfl
theorem dX12_law_6 : decode cX12_law 6 = .ok (.istore_n 3, 1) := dc_62 (by decide +kernel)
theorem dX12_law_7 : decode cX12_law 7 = .ok (.iload_n 1, 1) := dc_27 (by decide +kernel)
theorem dX12_law_8 : decode cX12_law 8 = .ok (.invokestatic 233, 3) := dc_184 0 233 (by decide +kernel)
theorem kw_6_205 : (Jvm.Cond.methodLink "ParishUnionModel" (233 : Nat) ({ cls := "ParishUnionModel", name := "without", desc := "(I)I" } : Jvm.MethodName)) ∈ gT := gT_of (tb_6 _ (List.mem_of_getElem? (i := 205) rfl)) rfl
theorem kw_6_207 : (Jvm.Cond.code ({ cls := "ParishUnionModel", name := "without", desc := "(I)I" } : Jvm.MethodName) prog_14_method_52_code (1 : Nat) (Option.some Jvm.ClassFile.FieldType.int)) ∈ gT := gT_of (tb_6 _ (List.mem_of_getElem? (i := 207) rfl)) rfl
theorem okX12_without : gQok yX12_without cX12_without 1 (Option.some Jvm.ClassFile.FieldType.int) 1 := ⟨kw_6_207, kw_1_13, by decide +kernel, by decide +kernel, by decide +kernel⟩
theorem kw_6_206 : (Jvm.Cond.static ({ cls := "ParishUnionModel", name := "without", desc := "(I)I" } : Jvm.MethodName)) ∈ gT := gT_of (tb_6 _ (List.mem_of_getElem? (i := 206) rfl)) rfl
theorem dX12_law_11 : decode cX12_law 11 = .ok (.istore 4, 2) := dc_54 4 (by decide +kernel)
theorem dX12_law_13 : decode cX12_law 13 = .ok (.iconst 0, 1) := dc_3 (by decide +kernel)
theorem dX12_law_14 : decode cX12_law 14 = .ok (.istore 5, 2) := dc_54 5 (by decide +kernel)
theorem dX12_law_16 : decode cX12_law 16 = .ok (.iload_n 3, 1) := dc_29 (by decide +kernel)
theorem dX12_law_17 : decode cX12_law 17 = .ok (.iconst (-1), 1) := dc_2 (by decide +kernel)
theorem dX12_law_18 : decode cX12_law 18 = .ok (.if_icmp .eq 67, 3) := dc_159 0 67 67 (by decide +kernel)
theorem dX12_law_85 : decode cX12_law 85 = .ok (.iload 4, 2) := dc_21 4 (by decide +kernel)
theorem dX12_law_87 : decode cX12_law 87 = .ok (.ireturn, 1) := dc_172 (by decide +kernel)
theorem dX12_law_21 : decode cX12_law 21 = .ok (.iload 5, 2) := dc_21 5 (by decide +kernel)
theorem dX12_law_23 : decode cX12_law 23 = .ok (.aload_n 0, 1) := dc_42 (by decide +kernel)
theorem dX12_law_24 : decode cX12_law 24 = .ok (.getfield 7, 3) := dc_180 0 7 (by decide +kernel)
theorem dX12_law_27 : decode cX12_law 27 = .ok (.sipush 24700, 3) := dc_17 96 124 24700 (by decide +kernel)
theorem dX12_law_30 : decode cX12_law 30 = .ok (.iload_n 3, 1) := dc_29 (by decide +kernel)
theorem dX12_law_31 : decode cX12_law 31 = .ok (.iadd, 1) := dc_96 (by decide +kernel)
theorem dX12_law_32 : decode cX12_law 32 = .ok (.iaload, 1) := dc_46 (by decide +kernel)
theorem dX12_law_33 : decode cX12_law 33 = .ok (.if_icmp .ge 52, 3) := dc_162 0 52 52 (by decide +kernel)
theorem dX12_law_36 : decode cX12_law 36 = .ok (.aload_n 0, 1) := dc_42 (by decide +kernel)
theorem dX12_law_37 : decode cX12_law 37 = .ok (.getfield 7, 3) := dc_180 0 7 (by decide +kernel)
theorem dX12_law_40 : decode cX12_law 40 = .ok (.sipush 24720, 3) := dc_17 96 144 24720 (by decide +kernel)
theorem dX12_law_43 : decode cX12_law 43 = .ok (.bipush 8, 2) := dc_16 8 8 (by decide +kernel)
theorem dX12_law_45 : decode cX12_law 45 = .ok (.iload_n 3, 1) := dc_29 (by decide +kernel)
theorem dX12_law_46 : decode cX12_law 46 = .ok (.imul, 1) := dc_104 (by decide +kernel)
theorem dX12_law_47 : decode cX12_law 47 = .ok (.iadd, 1) := dc_96 (by decide +kernel)
theorem dX12_law_48 : decode cX12_law 48 = .ok (.iload 5, 2) := dc_21 5 (by decide +kernel)
theorem dX12_law_50 : decode cX12_law 50 = .ok (.iadd, 1) := dc_96 (by decide +kernel)
theorem dX12_law_51 : decode cX12_law 51 = .ok (.iaload, 1) := dc_46 (by decide +kernel)
theorem dX12_law_52 : decode cX12_law 52 = .ok (.iload_n 1, 1) := dc_27 (by decide +kernel)
theorem dX12_law_53 : decode cX12_law 53 = .ok (.if_icmp .ne 22, 3) := dc_160 0 22 22 (by decide +kernel)
theorem dX12_law_75 : decode cX12_law 75 = .ok (.iload 4, 2) := dc_21 4 (by decide +kernel)
theorem dX12_law_77 : decode cX12_law 77 = .ok (.istore 4, 2) := dc_54 4 (by decide +kernel)
theorem dX12_law_79 : decode cX12_law 79 = .ok (.iinc 5 1, 3) := dc_132 5 1 1 (by decide +kernel)
theorem dX12_law_82 : decode cX12_law 82 = .ok (.goto (-66), 3) := dc_167 255 190 (-66) (by decide +kernel)
theorem dX12_law_56 : decode cX12_law 56 = .ok (.aload_n 0, 1) := dc_42 (by decide +kernel)
theorem dX12_law_57 : decode cX12_law 57 = .ok (.getfield 7, 3) := dc_180 0 7 (by decide +kernel)
theorem dX12_law_60 : decode cX12_law 60 = .ok (.sipush 24810, 3) := dc_17 96 234 24810 (by decide +kernel)
theorem dX12_law_63 : decode cX12_law 63 = .ok (.bipush 8, 2) := dc_16 8 8 (by decide +kernel)
theorem dX12_law_65 : decode cX12_law 65 = .ok (.iload_n 3, 1) := dc_29 (by decide +kernel)
theorem dX12_law_66 : decode cX12_law 66 = .ok (.imul, 1) := dc_104 (by decide +kernel)
theorem dX12_law_67 : decode cX12_law 67 = .ok (.iadd, 1) := dc_96 (by decide +kernel)
theorem dX12_law_68 : decode cX12_law 68 = .ok (.iload 5, 2) := dc_21 5 (by decide +kernel)
theorem dX12_law_70 : decode cX12_law 70 = .ok (.iadd, 1) := dc_96 (by decide +kernel)
theorem dX12_law_71 : decode cX12_law 71 = .ok (.iaload, 1) := dc_46 (by decide +kernel)
theorem dX12_law_72 : decode cX12_law 72 = .ok (.goto 5, 3) := dc_167 0 5 5 (by decide +kernel)
abbrev R_X12_law : Room := { frames := 2, cells := 0, slots := 0, locals := 47 }
set_option maxRecDepth 100000 in
set_option maxHeartbeats 4000000 in
theorem s_X12_law {l : Launch} {n0 : Nat} {D : va_G} {cA : Nat → ClassId} {M : gM} (a : Int) (r_a : -2147483648 ≤ a ∧ a ≤ 2147483647) (b : Int) (r_b : 0 ≤ b ∧ b ≤ 300) {sz : Nat} (hsz : 206 ≤ sz) (I : gI sz M) (C : gC sz M)   : Met l yX12_law (gWsOf yX12_law cX12_law 6 (Option.some Jvm.ClassFile.FieldType.int)) R_X12_law (gPc n0 D cA [gA n0 190, gJ a, gJ b] M sz) (gQi n0 D cA sz (fun z M1 => M = M1 ∧ (-60 ≤ z ∧ z ≤ 9999))) 0 0 (fun q => n0 ≤ q) := by
  refine gMetI [gA n0 190, gJ a, gJ b] (by decide) (Nat.le_of_ble_eq_true rfl) ⟨rfl, rfl⟩ ?_
  intro p e s m args below meth cd Q X hq
  have X : gCx p s m args meth cd n0 D cA "ParishUnionModel" cX12_law 6 := X
  show G p l e R_X12_law s m args below meth cd n0 D cA 6 Q 0 0 M sz 0 [(0, gA n0 190), (1, gJ a), (2, gJ b)] []
  refine g_aload_n (n := 1) X 0 dX12_law_0 rfl rfl rfl ?_
  refine g_iload_n (n := 2) X 1 dX12_law_1 rfl rfl rfl ?_
  refine g_iload_n (n := 3) X 2 dX12_law_2 rfl rfl rfl ?_
  refine g_callVi (n := 6) (As := [gJ a, gJ b]) (rest := []) (cs1 := 0) (ss1 := 0) X (s_X12_actOf a (by omega) b (by omega) hsz I C ) okX12_actOf kw_6_197 ⟨kw_6_199, kw_0_50⟩ ⟨rfl, rfl⟩ ⟨Nat.le_of_ble_eq_true rfl, Nat.le_of_ble_eq_true rfl⟩ rfl (by decide) (gsz hsz (by decide)) lay_190 rfl rfl (Nat.le_of_ble_eq_true rfl) ⟨Nat.le_of_ble_eq_true rfl, Nat.le_of_ble_eq_true rfl⟩ rfl rfl dX12_law_3 rfl (fun v1 M2 P3 => ?_)
  obtain ⟨rfl, rv1⟩ := P3
  refine g_istore_n (n := 7) (L' := [(3, gJ v1), (0, gA n0 190), (1, gJ a), (2, gJ b)]) X dX12_law_6 rfl (by decide) rfl rfl ?_
  refine g_iload_n (n := 8) X 2 dX12_law_7 rfl rfl rfl ?_
  refine g_callSi (n := 11) (As := [gJ a]) (rest := []) (cs1 := 0) (ss1 := 0) X (s_X12_without a (by omega) hsz I C ) okX12_without kw_6_205 kw_6_206 ⟨rfl, rfl⟩ ⟨Nat.le_of_ble_eq_true rfl, Nat.le_of_ble_eq_true rfl⟩ rfl rfl (Nat.le_of_ble_eq_true rfl) ⟨Nat.le_of_ble_eq_true rfl, Nat.le_of_ble_eq_true rfl⟩ rfl rfl dX12_law_8 rfl (fun v4 M5 P6 => ?_)
  obtain ⟨rfl, rv4⟩ := P6
  refine g_istore (n := 13) (L' := [(4, gJ v4), (3, gJ v1), (0, gA n0 190), (1, gJ a), (2, gJ b)]) X dX12_law_11 (by decide) rfl rfl ?_
  refine g_iconst (n := 14) X dX12_law_13 rfl ?_
  refine g_istore (n := 16) (L' := [(5, gJ 0), (4, gJ v4), (3, gJ v1), (0, gA n0 190), (1, gJ a), (2, gJ b)]) X dX12_law_14 (by decide) rfl rfl ?_
  have j10 : ∀ (N41 : Nat) (v7 v8 : Int) , (-60 ≤ v7 ∧ v7 ≤ 9999) → (0 ≤ v8 ∧ v8 ≤ 8) → (8 - v8).toNat < N41 → G p l e R_X12_law s m args below meth cd n0 D cA 6 Q 0 0 M sz 16 [(0, gA n0 190), (1, gJ a), (3, gJ v1), (4, gJ v7), (5, gJ v8)] [] := by
    intro N41; induction N41 with
    | zero => intro v7 v8 rv7 rv8 hm43; exfalso; omega
    | succ N41 ih42 =>
      intro v7 v8 rv7 rv8 hm43
      refine g_iload_n (n := 17) X 2 dX12_law_16 rfl rfl rfl ?_
      refine g_iconst (n := 18) X dX12_law_17 rfl ?_
      refine g_icmp_eq (n := 21) (tgt := 85) X dX12_law_18 (by decide) (by omega) (by omega) rfl (fun c44 => ?_) (fun c44 => ?_)
      · refine g_iload (n := 87) X 3 dX12_law_85 rfl rfl ?_
        exact hq _ _ _ _ dX12_law_87 ⟨rfl, by omega⟩
      · refine g_iload (n := 23) X 4 dX12_law_21 rfl rfl ?_
        refine g_aload_n (n := 24) X 0 dX12_law_23 rfl rfl rfl ?_
        refine gg_12_1 (n := 27) (z := 191) X (by decide) (gsz hsz (by decide)) lay_190 kw_6_27 dX12_law_24 rfl (rf_190_1 I (gsz hsz (by decide))) (by decide) ?_
        refine g_sipush (n := 30) X dX12_law_27 (by decide +kernel) rfl ?_
        refine g_iload_n (n := 31) X 2 dX12_law_30 rfl rfl rfl ?_
        refine g_iadd (n := 32) (z := v1 + 24700) X dX12_law_31 (by omega) rfl ?_
        obtain ⟨v45, hv45, rv45⟩ := gRd I (by decide) (gsz hsz (by decide)) (rs_LCOUNT (k := v1 + 24700) (by omega)).1
        refine g_iald2 (n := 33) (v := v45) X (by decide) (gsz hsz (by decide)) lay_191 (by omega) (by omega) (by decide) dX12_law_32 rfl hv45 ?_
        refine g_icmp_ge (n := 36) (tgt := 85) X dX12_law_33 (by decide) (by omega) (by omega) rfl (fun c46 => ?_) (fun c46 => ?_)
        · refine g_iload (n := 87) X 3 dX12_law_85 rfl rfl ?_
          exact hq _ _ _ _ dX12_law_87 ⟨rfl, by omega⟩
        · refine g_aload_n (n := 37) X 0 dX12_law_36 rfl rfl rfl ?_
          refine gg_12_1 (n := 40) (z := 191) X (by decide) (gsz hsz (by decide)) lay_190 kw_6_27 dX12_law_37 rfl (rf_190_1 I (gsz hsz (by decide))) (by decide) ?_
          refine g_sipush (n := 43) X dX12_law_40 (by decide +kernel) rfl ?_
          refine g_bipush (n := 45) X dX12_law_43 (by decide +kernel) rfl ?_
          refine g_iload_n (n := 46) X 2 dX12_law_45 rfl rfl rfl ?_
          refine g_imul (n := 47) (z := 8 * v1) X dX12_law_46 rfl rfl ?_
          refine g_iadd (n := 48) (z := 24720 + (8 * v1)) X dX12_law_47 rfl rfl ?_
          refine g_iload (n := 50) X 4 dX12_law_48 rfl rfl ?_
          refine g_iadd (n := 51) (z := (24720 + (8 * v1)) + v8) X dX12_law_50 rfl rfl ?_
          obtain ⟨v47, hv47, rv47⟩ := gRd I (by decide) (gsz hsz (by decide)) (rs_LWORD (k := (24720 + (8 * v1)) + v8) (by omega)).1
          refine g_iald2 (n := 52) (v := v47) X (by decide) (gsz hsz (by decide)) lay_191 (by omega) (by omega) (by decide) dX12_law_51 rfl hv47 ?_
          refine g_iload_n (n := 53) X 1 dX12_law_52 rfl rfl rfl ?_
          refine g_icmp_ne (n := 56) (tgt := 75) X dX12_law_53 (by decide) (by omega) (by omega) rfl (fun c48 => ?_) (fun c48 => ?_)
          · refine g_iload (n := 77) X 3 dX12_law_75 rfl rfl ?_
            refine g_istore (n := 79) (L' := [(4, gJ v7), (0, gA n0 190), (1, gJ a), (3, gJ v1), (5, gJ v8)]) X dX12_law_77 (by decide) rfl rfl ?_
            refine g_iinc (n := 82) (w := v8 + 1) (L' := [(5, gJ (v8 + 1)), (4, gJ v7), (0, gA n0 190), (1, gJ a), (3, gJ v1)]) X 4 dX12_law_79 rfl rfl (by decide) rfl rfl ?_
            refine g_goto (tgt := 16) X dX12_law_82 (by decide) ?_
            refine G.sub (L' := [(0, gA n0 190), (1, gJ a), (3, gJ v1), (4, gJ v7), (5, gJ (v8 + 1))]) [2, 3, 4, 1, 0] rfl ?_
            exact ih42 v7 (v8 + 1) (by omega) (by omega) (by omega)
          · refine g_aload_n (n := 57) X 0 dX12_law_56 rfl rfl rfl ?_
            refine gg_12_1 (n := 60) (z := 191) X (by decide) (gsz hsz (by decide)) lay_190 kw_6_27 dX12_law_57 rfl (rf_190_1 I (gsz hsz (by decide))) (by decide) ?_
            refine g_sipush (n := 63) X dX12_law_60 (by decide +kernel) rfl ?_
            refine g_bipush (n := 65) X dX12_law_63 (by decide +kernel) rfl ?_
            refine g_iload_n (n := 66) X 2 dX12_law_65 rfl rfl rfl ?_
            refine g_imul (n := 67) (z := 8 * v1) X dX12_law_66 rfl rfl ?_
            refine g_iadd (n := 68) (z := 24810 + (8 * v1)) X dX12_law_67 rfl rfl ?_
            refine g_iload (n := 70) X 4 dX12_law_68 rfl rfl ?_
            refine g_iadd (n := 71) (z := (24810 + (8 * v1)) + v8) X dX12_law_70 rfl rfl ?_
            obtain ⟨v49, hv49, rv49⟩ := gRd I (by decide) (gsz hsz (by decide)) (rs_LVALUE (k := (24810 + (8 * v1)) + v8) (by omega)).1
            refine g_iald2 (n := 72) (v := v49) X (by decide) (gsz hsz (by decide)) lay_191 (by omega) (by omega) (by decide) dX12_law_71 rfl hv49 ?_
            refine g_goto (tgt := 77) X dX12_law_72 (by decide) ?_
            refine g_istore (n := 79) (L' := [(4, gJ v49), (0, gA n0 190), (1, gJ a), (3, gJ v1), (5, gJ v8)]) X dX12_law_77 (by decide) rfl rfl ?_
            refine g_iinc (n := 82) (w := v8 + 1) (L' := [(5, gJ (v8 + 1)), (4, gJ v49), (0, gA n0 190), (1, gJ a), (3, gJ v1)]) X 4 dX12_law_79 rfl rfl (by decide) rfl rfl ?_
            refine g_goto (tgt := 16) X dX12_law_82 (by decide) ?_
            refine G.sub (L' := [(0, gA n0 190), (1, gJ a), (3, gJ v1), (4, gJ v49), (5, gJ (v8 + 1))]) [2, 3, 4, 1, 0] rfl ?_
            exact ih42 v49 (v8 + 1) (by omega) (by omega) (by omega)
  refine G.sub (L' := [(0, gA n0 190), (1, gJ a), (3, gJ v1), (4, gJ v4), (5, gJ 0)]) [3, 4, 2, 1, 0] rfl ?_
  exact j10 _ v4 0 (by omega) (by omega) (Nat.lt_succ_self _)
theorem dX12_manyOf_0 : decode cX12_manyOf 0 = .ok (.aload_n 0, 1) := dc_42 (by decide +kernel)
theorem dX12_manyOf_1 : decode cX12_manyOf 1 = .ok (.iload_n 1, 1) := dc_27 (by decide +kernel)
theorem dX12_manyOf_2 : decode cX12_manyOf 2 = .ok (.iload_n 2, 1) := dc_28 (by decide +kernel)
theorem dX12_manyOf_3 : decode cX12_manyOf 3 = .ok (.invokevirtual 230, 3) := dc_182 0 230 (by decide +kernel)
theorem dX12_manyOf_6 : decode cX12_manyOf 6 = .ok (.istore_n 3, 1) := dc_62 (by decide +kernel)
theorem dX12_manyOf_7 : decode cX12_manyOf 7 = .ok (.iconst 0, 1) := dc_3 (by decide +kernel)
theorem dX12_manyOf_8 : decode cX12_manyOf 8 = .ok (.istore 4, 2) := dc_54 4 (by decide +kernel)
theorem dX12_manyOf_10 : decode cX12_manyOf 10 = .ok (.iconst 0, 1) := dc_3 (by decide +kernel)
theorem dX12_manyOf_11 : decode cX12_manyOf 11 = .ok (.istore 5, 2) := dc_54 5 (by decide +kernel)
theorem dX12_manyOf_13 : decode cX12_manyOf 13 = .ok (.iload_n 3, 1) := dc_29 (by decide +kernel)
theorem dX12_manyOf_14 : decode cX12_manyOf 14 = .ok (.iconst (-1), 1) := dc_2 (by decide +kernel)
theorem dX12_manyOf_15 : decode cX12_manyOf 15 = .ok (.if_icmp .eq 54, 3) := dc_159 0 54 54 (by decide +kernel)
theorem dX12_manyOf_69 : decode cX12_manyOf 69 = .ok (.iload 4, 2) := dc_21 4 (by decide +kernel)
theorem dX12_manyOf_71 : decode cX12_manyOf 71 = .ok (.ireturn, 1) := dc_172 (by decide +kernel)
theorem dX12_manyOf_18 : decode cX12_manyOf 18 = .ok (.iload 5, 2) := dc_21 5 (by decide +kernel)
theorem dX12_manyOf_20 : decode cX12_manyOf 20 = .ok (.aload_n 0, 1) := dc_42 (by decide +kernel)
theorem dX12_manyOf_21 : decode cX12_manyOf 21 = .ok (.getfield 7, 3) := dc_180 0 7 (by decide +kernel)
theorem dX12_manyOf_24 : decode cX12_manyOf 24 = .ok (.sipush 24700, 3) := dc_17 96 124 24700 (by decide +kernel)
theorem dX12_manyOf_27 : decode cX12_manyOf 27 = .ok (.iload_n 3, 1) := dc_29 (by decide +kernel)
theorem dX12_manyOf_28 : decode cX12_manyOf 28 = .ok (.iadd, 1) := dc_96 (by decide +kernel)
theorem dX12_manyOf_29 : decode cX12_manyOf 29 = .ok (.iaload, 1) := dc_46 (by decide +kernel)
theorem dX12_manyOf_30 : decode cX12_manyOf 30 = .ok (.if_icmp .ge 39, 3) := dc_162 0 39 39 (by decide +kernel)
theorem dX12_manyOf_33 : decode cX12_manyOf 33 = .ok (.iload 4, 2) := dc_21 4 (by decide +kernel)
theorem dX12_manyOf_35 : decode cX12_manyOf 35 = .ok (.aload_n 0, 1) := dc_42 (by decide +kernel)
theorem dX12_manyOf_36 : decode cX12_manyOf 36 = .ok (.getfield 7, 3) := dc_180 0 7 (by decide +kernel)
theorem dX12_manyOf_39 : decode cX12_manyOf 39 = .ok (.sipush 24720, 3) := dc_17 96 144 24720 (by decide +kernel)
theorem dX12_manyOf_42 : decode cX12_manyOf 42 = .ok (.bipush 8, 2) := dc_16 8 8 (by decide +kernel)
theorem dX12_manyOf_44 : decode cX12_manyOf 44 = .ok (.iload_n 3, 1) := dc_29 (by decide +kernel)
theorem dX12_manyOf_45 : decode cX12_manyOf 45 = .ok (.imul, 1) := dc_104 (by decide +kernel)
theorem dX12_manyOf_46 : decode cX12_manyOf 46 = .ok (.iadd, 1) := dc_96 (by decide +kernel)
theorem dX12_manyOf_47 : decode cX12_manyOf 47 = .ok (.iload 5, 2) := dc_21 5 (by decide +kernel)
theorem dX12_manyOf_49 : decode cX12_manyOf 49 = .ok (.iadd, 1) := dc_96 (by decide +kernel)
theorem dX12_manyOf_50 : decode cX12_manyOf 50 = .ok (.iaload, 1) := dc_46 (by decide +kernel)
theorem dX12_manyOf_51 : decode cX12_manyOf 51 = .ok (.iload_n 1, 1) := dc_27 (by decide +kernel)
theorem dX12_manyOf_52 : decode cX12_manyOf 52 = .ok (.if_icmp .ne 7, 3) := dc_160 0 7 7 (by decide +kernel)
theorem dX12_manyOf_59 : decode cX12_manyOf 59 = .ok (.iconst 0, 1) := dc_3 (by decide +kernel)
theorem dX12_manyOf_60 : decode cX12_manyOf 60 = .ok (.iadd, 1) := dc_96 (by decide +kernel)
theorem dX12_manyOf_61 : decode cX12_manyOf 61 = .ok (.istore 4, 2) := dc_54 4 (by decide +kernel)
theorem dX12_manyOf_63 : decode cX12_manyOf 63 = .ok (.iinc 5 1, 3) := dc_132 5 1 1 (by decide +kernel)
theorem dX12_manyOf_66 : decode cX12_manyOf 66 = .ok (.goto (-53), 3) := dc_167 255 203 (-53) (by decide +kernel)
theorem dX12_manyOf_55 : decode cX12_manyOf 55 = .ok (.iconst 1, 1) := dc_4 (by decide +kernel)
theorem dX12_manyOf_56 : decode cX12_manyOf 56 = .ok (.goto 4, 3) := dc_167 0 4 4 (by decide +kernel)
abbrev R_X12_manyOf : Room := { frames := 2, cells := 0, slots := 0, locals := 47 }
set_option maxRecDepth 100000 in
set_option maxHeartbeats 4000000 in
theorem s_X12_manyOf {l : Launch} {n0 : Nat} {D : va_G} {cA : Nat → ClassId} {M : gM} (a : Int) (r_a : -2147483648 ≤ a ∧ a ≤ 2147483647) (b : Int) (r_b : 0 ≤ b ∧ b ≤ 300) {sz : Nat} (hsz : 206 ≤ sz) (I : gI sz M) (C : gC sz M)   : Met l yX12_manyOf (gWsOf yX12_manyOf cX12_manyOf 6 (Option.some Jvm.ClassFile.FieldType.int)) R_X12_manyOf (gPc n0 D cA [gA n0 190, gJ a, gJ b] M sz) (gQi n0 D cA sz (fun z M1 => M = M1 ∧ (-2147483648 ≤ z ∧ z ≤ 2147483647))) 0 0 (fun q => n0 ≤ q) := by
  refine gMetI [gA n0 190, gJ a, gJ b] (by decide) (Nat.le_of_ble_eq_true rfl) ⟨rfl, rfl⟩ ?_
  intro p e s m args below meth cd Q X hq
  have X : gCx p s m args meth cd n0 D cA "ParishUnionModel" cX12_manyOf 6 := X
  show G p l e R_X12_manyOf s m args below meth cd n0 D cA 6 Q 0 0 M sz 0 [(0, gA n0 190), (1, gJ a), (2, gJ b)] []
  refine g_aload_n (n := 1) X 0 dX12_manyOf_0 rfl rfl rfl ?_
  refine g_iload_n (n := 2) X 1 dX12_manyOf_1 rfl rfl rfl ?_
  refine g_iload_n (n := 3) X 2 dX12_manyOf_2 rfl rfl rfl ?_
  refine g_callVi (n := 6) (As := [gJ a, gJ b]) (rest := []) (cs1 := 0) (ss1 := 0) X (s_X12_actOf a (by omega) b (by omega) hsz I C ) okX12_actOf kw_6_197 ⟨kw_6_199, kw_0_50⟩ ⟨rfl, rfl⟩ ⟨Nat.le_of_ble_eq_true rfl, Nat.le_of_ble_eq_true rfl⟩ rfl (by decide) (gsz hsz (by decide)) lay_190 rfl rfl (Nat.le_of_ble_eq_true rfl) ⟨Nat.le_of_ble_eq_true rfl, Nat.le_of_ble_eq_true rfl⟩ rfl rfl dX12_manyOf_3 rfl (fun v1 M2 P3 => ?_)
  obtain ⟨rfl, rv1⟩ := P3
  refine g_istore_n (n := 7) (L' := [(3, gJ v1), (0, gA n0 190), (1, gJ a), (2, gJ b)]) X dX12_manyOf_6 rfl (by decide) rfl rfl ?_
  refine g_iconst (n := 8) X dX12_manyOf_7 rfl ?_
  refine g_istore (n := 10) (L' := [(4, gJ 0), (3, gJ v1), (0, gA n0 190), (1, gJ a), (2, gJ b)]) X dX12_manyOf_8 (by decide) rfl rfl ?_
  refine g_iconst (n := 11) X dX12_manyOf_10 rfl ?_
  refine g_istore (n := 13) (L' := [(5, gJ 0), (4, gJ 0), (3, gJ v1), (0, gA n0 190), (1, gJ a), (2, gJ b)]) X dX12_manyOf_11 (by decide) rfl rfl ?_
  have j7 : ∀ (N115 : Nat) (v4 v5 : Int) , (-2147483648 ≤ v4 ∧ v4 ≤ 2147483647) → (0 ≤ v5 ∧ v5 ≤ 8) → (8 - v5).toNat < N115 → G p l e R_X12_manyOf s m args below meth cd n0 D cA 6 Q 0 0 M sz 13 [(0, gA n0 190), (1, gJ a), (3, gJ v1), (4, gJ v4), (5, gJ v5)] [] := by
    intro N115; induction N115 with
    | zero => intro v4 v5 rv4 rv5 hm117; exfalso; omega
    | succ N115 ih116 =>
      intro v4 v5 rv4 rv5 hm117
      refine g_iload_n (n := 14) X 2 dX12_manyOf_13 rfl rfl rfl ?_
      refine g_iconst (n := 15) X dX12_manyOf_14 rfl ?_
      refine g_icmp_eq (n := 18) (tgt := 69) X dX12_manyOf_15 (by decide) (by omega) (by omega) rfl (fun c118 => ?_) (fun c118 => ?_)
      · refine g_iload (n := 71) X 3 dX12_manyOf_69 rfl rfl ?_
        exact hq _ _ _ _ dX12_manyOf_71 ⟨rfl, by omega⟩
      · refine g_iload (n := 20) X 4 dX12_manyOf_18 rfl rfl ?_
        refine g_aload_n (n := 21) X 0 dX12_manyOf_20 rfl rfl rfl ?_
        refine gg_12_1 (n := 24) (z := 191) X (by decide) (gsz hsz (by decide)) lay_190 kw_6_27 dX12_manyOf_21 rfl (rf_190_1 I (gsz hsz (by decide))) (by decide) ?_
        refine g_sipush (n := 27) X dX12_manyOf_24 (by decide +kernel) rfl ?_
        refine g_iload_n (n := 28) X 2 dX12_manyOf_27 rfl rfl rfl ?_
        refine g_iadd (n := 29) (z := v1 + 24700) X dX12_manyOf_28 (by omega) rfl ?_
        obtain ⟨v119, hv119, rv119⟩ := gRd I (by decide) (gsz hsz (by decide)) (rs_LCOUNT (k := v1 + 24700) (by omega)).1
        refine g_iald2 (n := 30) (v := v119) X (by decide) (gsz hsz (by decide)) lay_191 (by omega) (by omega) (by decide) dX12_manyOf_29 rfl hv119 ?_
        refine g_icmp_ge (n := 33) (tgt := 69) X dX12_manyOf_30 (by decide) (by omega) (by omega) rfl (fun c120 => ?_) (fun c120 => ?_)
        · refine g_iload (n := 71) X 3 dX12_manyOf_69 rfl rfl ?_
          exact hq _ _ _ _ dX12_manyOf_71 ⟨rfl, by omega⟩
        · refine g_iload (n := 35) X 3 dX12_manyOf_33 rfl rfl ?_
          refine g_aload_n (n := 36) X 0 dX12_manyOf_35 rfl rfl rfl ?_
          refine gg_12_1 (n := 39) (z := 191) X (by decide) (gsz hsz (by decide)) lay_190 kw_6_27 dX12_manyOf_36 rfl (rf_190_1 I (gsz hsz (by decide))) (by decide) ?_
          refine g_sipush (n := 42) X dX12_manyOf_39 (by decide +kernel) rfl ?_
          refine g_bipush (n := 44) X dX12_manyOf_42 (by decide +kernel) rfl ?_
          refine g_iload_n (n := 45) X 2 dX12_manyOf_44 rfl rfl rfl ?_
          refine g_imul (n := 46) (z := 8 * v1) X dX12_manyOf_45 rfl rfl ?_
          refine g_iadd (n := 47) (z := 24720 + (8 * v1)) X dX12_manyOf_46 rfl rfl ?_
          refine g_iload (n := 49) X 4 dX12_manyOf_47 rfl rfl ?_
          refine g_iadd (n := 50) (z := (24720 + (8 * v1)) + v5) X dX12_manyOf_49 rfl rfl ?_
          obtain ⟨v121, hv121, rv121⟩ := gRd I (by decide) (gsz hsz (by decide)) (rs_LWORD (k := (24720 + (8 * v1)) + v5) (by omega)).1
          refine g_iald2 (n := 51) (v := v121) X (by decide) (gsz hsz (by decide)) lay_191 (by omega) (by omega) (by decide) dX12_manyOf_50 rfl hv121 ?_
          refine g_iload_n (n := 52) X 1 dX12_manyOf_51 rfl rfl rfl ?_
          refine g_icmp_ne (n := 55) (tgt := 59) X dX12_manyOf_52 (by decide) (by omega) (by omega) rfl (fun c122 => ?_) (fun c122 => ?_)
          · refine g_iconst (n := 60) X dX12_manyOf_59 rfl ?_
            refine g_iadd (n := 61) (z := v4) X dX12_manyOf_60 (by omega) rfl ?_
            refine g_istore (n := 63) (L' := [(4, gJ v4), (0, gA n0 190), (1, gJ a), (3, gJ v1), (5, gJ v5)]) X dX12_manyOf_61 (by decide) rfl rfl ?_
            refine g_iinc (n := 66) (w := v5 + 1) (L' := [(5, gJ (v5 + 1)), (4, gJ v4), (0, gA n0 190), (1, gJ a), (3, gJ v1)]) X 4 dX12_manyOf_63 rfl rfl (by decide) rfl rfl ?_
            refine g_goto (tgt := 13) X dX12_manyOf_66 (by decide) ?_
            refine G.sub (L' := [(0, gA n0 190), (1, gJ a), (3, gJ v1), (4, gJ v4), (5, gJ (v5 + 1))]) [2, 3, 4, 1, 0] rfl ?_
            exact ih116 v4 (v5 + 1) (by omega) (by omega) (by omega)
          · refine g_iconst (n := 56) X dX12_manyOf_55 rfl ?_
            refine g_goto (tgt := 60) X dX12_manyOf_56 (by decide) ?_
            refine g_iaddA (n := 61) X dX12_manyOf_60 rfl (fun v123 rv123 xv123 => ?_)
            clear xv123
            refine g_istore (n := 63) (L' := [(4, gJ v123), (0, gA n0 190), (1, gJ a), (3, gJ v1), (5, gJ v5)]) X dX12_manyOf_61 (by decide) rfl rfl ?_
            refine g_iinc (n := 66) (w := v5 + 1) (L' := [(5, gJ (v5 + 1)), (4, gJ v123), (0, gA n0 190), (1, gJ a), (3, gJ v1)]) X 4 dX12_manyOf_63 rfl rfl (by decide) rfl rfl ?_
            refine g_goto (tgt := 13) X dX12_manyOf_66 (by decide) ?_
            refine G.sub (L' := [(0, gA n0 190), (1, gJ a), (3, gJ v1), (4, gJ v123), (5, gJ (v5 + 1))]) [2, 3, 4, 1, 0] rfl ?_
            exact ih116 v123 (v5 + 1) (by omega) (by omega) (by omega)
  refine G.sub (L' := [(0, gA n0 190), (1, gJ a), (3, gJ v1), (4, gJ 0), (5, gJ 0)]) [3, 4, 2, 1, 0] rfl ?_
  exact j7 _ 0 0 (by omega) (by omega) (Nat.lt_succ_self _)
theorem dX12_force_0 : decode cX12_force 0 = .ok (.iload_n 2, 1) := dc_28 (by decide +kernel)
theorem dX12_force_1 : decode cX12_force 1 = .ok (.iconst 0, 1) := dc_3 (by decide +kernel)
theorem dX12_force_2 : decode cX12_force 2 = .ok (.bipush 19, 2) := dc_16 19 19 (by decide +kernel)
theorem dX12_force_4 : decode cX12_force 4 = .ok (.invokestatic 64, 3) := dc_184 0 64 (by decide +kernel)
theorem dX12_force_7 : decode cX12_force 7 = .ok (.ifCond .ne 5, 3) := dc_154 0 5 5 (by decide +kernel)
theorem dX12_force_12 : decode cX12_force 12 = .ok (.iload_n 1, 1) := dc_27 (by decide +kernel)
theorem dX12_force_13 : decode cX12_force 13 = .ok (.invokestatic 220, 3) := dc_184 0 220 (by decide +kernel)
theorem kw_6_236 : (Jvm.Cond.methodLink "ParishUnionModel" (220 : Nat) ({ cls := "ParishUnionModel", name := "isWeek", desc := "(I)Z" } : Jvm.MethodName)) ∈ gT := gT_of (tb_6 _ (List.mem_of_getElem? (i := 236) rfl)) rfl
theorem kw_6_238 : (Jvm.Cond.code ({ cls := "ParishUnionModel", name := "isWeek", desc := "(I)Z" } : Jvm.MethodName) prog_14_method_8_code (1 : Nat) (Option.some Jvm.ClassFile.FieldType.boolean)) ∈ gT := gT_of (tb_6 _ (List.mem_of_getElem? (i := 238) rfl)) rfl
theorem okX12_isWeek : gQok yX12_isWeek cX12_isWeek 1 (Option.some Jvm.ClassFile.FieldType.boolean) 1 := ⟨kw_6_238, kw_1_13, by decide +kernel, by decide +kernel, by decide +kernel⟩
theorem kw_6_237 : (Jvm.Cond.static ({ cls := "ParishUnionModel", name := "isWeek", desc := "(I)Z" } : Jvm.MethodName)) ∈ gT := gT_of (tb_6 _ (List.mem_of_getElem? (i := 237) rfl)) rfl
theorem dX12_force_16 : decode cX12_force 16 = .ok (.ifCond .ne 6, 3) := dc_154 0 6 6 (by decide +kernel)
theorem dX12_force_22 : decode cX12_force 22 = .ok (.iload_n 2, 1) := dc_28 (by decide +kernel)
theorem dX12_force_23 : decode cX12_force 23 = .ok (.bipush 9, 2) := dc_16 9 9 (by decide +kernel)
theorem dX12_force_25 : decode cX12_force 25 = .ok (.if_icmp .le 15, 3) := dc_164 0 15 15 (by decide +kernel)
theorem dX12_force_40 : decode cX12_force 40 = .ok (.iload_n 2, 1) := dc_28 (by decide +kernel)
theorem dX12_force_41 : decode cX12_force 41 = .ok (.bipush 7, 2) := dc_16 7 7 (by decide +kernel)
theorem dX12_force_43 : decode cX12_force 43 = .ok (.if_icmp .le 12, 3) := dc_164 0 12 12 (by decide +kernel)
theorem dX12_force_55 : decode cX12_force 55 = .ok (.aload_n 0, 1) := dc_42 (by decide +kernel)
theorem dX12_force_56 : decode cX12_force 56 = .ok (.iload_n 2, 1) := dc_28 (by decide +kernel)
theorem dX12_force_57 : decode cX12_force 57 = .ok (.iload_n 1, 1) := dc_27 (by decide +kernel)
theorem dX12_force_58 : decode cX12_force 58 = .ok (.invokevirtual 101, 3) := dc_182 0 101 (by decide +kernel)
theorem kw_6_193 : (Jvm.Cond.methodLink "ParishUnionModel" (101 : Nat) ({ cls := "ParishUnionModel", name := "law", desc := "(II)I" } : Jvm.MethodName)) ∈ gT := gT_of (tb_6 _ (List.mem_of_getElem? (i := 193) rfl)) rfl
theorem kw_6_196 : (Jvm.Cond.code ({ cls := "ParishUnionModel", name := "law", desc := "(II)I" } : Jvm.MethodName) prog_14_method_53_code (6 : Nat) (Option.some Jvm.ClassFile.FieldType.int)) ∈ gT := gT_of (tb_6 _ (List.mem_of_getElem? (i := 196) rfl)) rfl
theorem okX12_law : gQok yX12_law cX12_law 6 (Option.some Jvm.ClassFile.FieldType.int) 2 := ⟨kw_6_196, kw_1_13, by decide +kernel, by decide +kernel, by decide +kernel⟩
theorem kw_6_195 : (Jvm.Cond.instanceMethod ({ cls := "ParishUnionModel", name := "law", desc := "(II)I" } : Jvm.MethodName)) ∈ gT := gT_of (tb_6 _ (List.mem_of_getElem? (i := 195) rfl)) rfl
theorem kw_0_49 : (Jvm.Cond.selects "ParishUnionModel" ({ cls := "ParishUnionModel", name := "law", desc := "(II)I" } : Jvm.MethodName) ({ cls := "ParishUnionModel", name := "law", desc := "(II)I" } : Jvm.MethodName)) ∈ gT := gT_of (tb_0 _ (List.mem_of_getElem? (i := 49) rfl)) rfl
theorem dX12_force_61 : decode cX12_force 61 = .ok (.ireturn, 1) := dc_172 (by decide +kernel)
theorem dX12_force_46 : decode cX12_force 46 = .ok (.aload_n 0, 1) := dc_42 (by decide +kernel)
theorem dX12_force_47 : decode cX12_force 47 = .ok (.iload_n 2, 1) := dc_28 (by decide +kernel)
theorem dX12_force_48 : decode cX12_force 48 = .ok (.iload_n 1, 1) := dc_27 (by decide +kernel)
theorem dX12_force_49 : decode cX12_force 49 = .ok (.invokevirtual 236, 3) := dc_182 0 236 (by decide +kernel)
theorem kw_7_74 : (Jvm.Cond.methodLink "ParishUnionModel" (236 : Nat) ({ cls := "ParishUnionModel", name := "manyOf", desc := "(II)I" } : Jvm.MethodName)) ∈ gT := gT_of (tb_7 _ (List.mem_of_getElem? (i := 74) rfl)) rfl
theorem kw_7_77 : (Jvm.Cond.code ({ cls := "ParishUnionModel", name := "manyOf", desc := "(II)I" } : Jvm.MethodName) prog_14_method_54_code (6 : Nat) (Option.some Jvm.ClassFile.FieldType.int)) ∈ gT := gT_of (tb_7 _ (List.mem_of_getElem? (i := 77) rfl)) rfl
theorem okX12_manyOf : gQok yX12_manyOf cX12_manyOf 6 (Option.some Jvm.ClassFile.FieldType.int) 2 := ⟨kw_7_77, kw_1_13, by decide +kernel, by decide +kernel, by decide +kernel⟩
theorem kw_7_76 : (Jvm.Cond.instanceMethod ({ cls := "ParishUnionModel", name := "manyOf", desc := "(II)I" } : Jvm.MethodName)) ∈ gT := gT_of (tb_7 _ (List.mem_of_getElem? (i := 76) rfl)) rfl
theorem kw_0_69 : (Jvm.Cond.selects "ParishUnionModel" ({ cls := "ParishUnionModel", name := "manyOf", desc := "(II)I" } : Jvm.MethodName) ({ cls := "ParishUnionModel", name := "manyOf", desc := "(II)I" } : Jvm.MethodName)) ∈ gT := gT_of (tb_0 _ (List.mem_of_getElem? (i := 69) rfl)) rfl
theorem dX12_force_52 : decode cX12_force 52 = .ok (.goto 9, 3) := dc_167 0 9 9 (by decide +kernel)
theorem dX12_force_28 : decode cX12_force 28 = .ok (.aload_n 0, 1) := dc_42 (by decide +kernel)
theorem dX12_force_29 : decode cX12_force 29 = .ok (.iload_n 2, 1) := dc_28 (by decide +kernel)
theorem dX12_force_30 : decode cX12_force 30 = .ok (.bipush 10, 2) := dc_16 10 10 (by decide +kernel)
theorem dX12_force_32 : decode cX12_force 32 = .ok (.isub, 1) := dc_100 (by decide +kernel)
theorem dX12_force_33 : decode cX12_force 33 = .ok (.iload_n 1, 1) := dc_27 (by decide +kernel)
theorem dX12_force_34 : decode cX12_force 34 = .ok (.invokevirtual 230, 3) := dc_182 0 230 (by decide +kernel)
theorem dX12_force_37 : decode cX12_force 37 = .ok (.goto 24, 3) := dc_167 0 24 24 (by decide +kernel)
theorem dX12_force_19 : decode cX12_force 19 = .ok (.bipush (-2), 2) := dc_16 254 (-2) (by decide +kernel)
theorem dX12_force_21 : decode cX12_force 21 = .ok (.ireturn, 1) := dc_172 (by decide +kernel)
theorem dX12_force_10 : decode cX12_force 10 = .ok (.iconst (-1), 1) := dc_2 (by decide +kernel)
theorem dX12_force_11 : decode cX12_force 11 = .ok (.ireturn, 1) := dc_172 (by decide +kernel)
abbrev R_X12_force : Room := { frames := 3, cells := 0, slots := 0, locals := 72 }
set_option maxRecDepth 100000 in
set_option maxHeartbeats 4000000 in
theorem s_X12_force {l : Launch} {n0 : Nat} {D : va_G} {cA : Nat → ClassId} {M : gM} (a : Int) (r_a : -2147483648 ≤ a ∧ a ≤ 2147483647) (b : Int) (r_b : -2147483648 ≤ b ∧ b ≤ 2147483647) {sz : Nat} (hsz : 206 ≤ sz) (I : gI sz M) (C : gC sz M)   : Met l yX12_force (gWsOf yX12_force cX12_force 3 (Option.some Jvm.ClassFile.FieldType.int)) R_X12_force (gPc n0 D cA [gA n0 190, gJ a, gJ b] M sz) (gQi n0 D cA sz (fun z M1 => M = M1 ∧ (-2147483648 ≤ z ∧ z ≤ 2147483647))) 0 0 (fun q => n0 ≤ q) := by
  refine gMetI [gA n0 190, gJ a, gJ b] (by decide) (Nat.le_of_ble_eq_true rfl) ⟨rfl, rfl⟩ ?_
  intro p e s m args below meth cd Q X hq
  have X : gCx p s m args meth cd n0 D cA "ParishUnionModel" cX12_force 3 := X
  show G p l e R_X12_force s m args below meth cd n0 D cA 3 Q 0 0 M sz 0 [(0, gA n0 190), (1, gJ a), (2, gJ b)] []
  refine g_iload_n (n := 1) X 2 dX12_force_0 rfl rfl rfl ?_
  refine g_iconst (n := 2) X dX12_force_1 rfl ?_
  refine g_bipush (n := 4) X dX12_force_2 (by decide +kernel) rfl ?_
  refine g_callSi (n := 7) (As := [gJ b, gJ 0, gJ 19]) (rest := []) (cs1 := 0) (ss1 := 0) X (s_X12_in b (by omega) 0 (by omega) 19 (by omega) hsz I C ) okX12_in kw_6_106 kw_6_107 ⟨rfl, rfl⟩ ⟨Nat.le_of_ble_eq_true rfl, Nat.le_of_ble_eq_true rfl⟩ rfl rfl (Nat.le_of_ble_eq_true rfl) ⟨Nat.le_of_ble_eq_true rfl, Nat.le_of_ble_eq_true rfl⟩ rfl rfl dX12_force_4 rfl (fun v1 M2 P3 => ?_)
  obtain ⟨rfl, rv1, xv1⟩ := P3
  refine g_if_ne (n := 10) (tgt := 12) X dX12_force_7 (by decide) (by omega) rfl (fun c4 => ?_) (fun c4 => ?_)
  · refine g_iload_n (n := 13) X 1 dX12_force_12 rfl rfl rfl ?_
    refine g_callSi (n := 16) (As := [gJ a]) (rest := []) (cs1 := 0) (ss1 := 0) X (s_X12_isWeek a (by omega) hsz I C ) okX12_isWeek kw_6_236 kw_6_237 ⟨rfl, rfl⟩ ⟨Nat.le_of_ble_eq_true rfl, Nat.le_of_ble_eq_true rfl⟩ rfl rfl (Nat.le_of_ble_eq_true rfl) ⟨Nat.le_of_ble_eq_true rfl, Nat.le_of_ble_eq_true rfl⟩ rfl rfl dX12_force_13 rfl (fun v5 M6 P7 => ?_)
    obtain ⟨rfl, rv5, xv5⟩ := P7
    refine g_if_ne (n := 19) (tgt := 22) X dX12_force_16 (by decide) (by omega) rfl (fun c8 => ?_) (fun c8 => ?_)
    · refine g_iload_n (n := 23) X 2 dX12_force_22 rfl rfl rfl ?_
      refine g_bipush (n := 25) X dX12_force_23 (by decide +kernel) rfl ?_
      refine g_icmp_le (n := 28) (tgt := 40) X dX12_force_25 (by decide) (by omega) (by omega) rfl (fun c9 => ?_) (fun c9 => ?_)
      · refine g_iload_n (n := 41) X 2 dX12_force_40 rfl rfl rfl ?_
        refine g_bipush (n := 43) X dX12_force_41 (by decide +kernel) rfl ?_
        refine g_icmp_le (n := 46) (tgt := 55) X dX12_force_43 (by decide) (by omega) (by omega) rfl (fun c10 => ?_) (fun c10 => ?_)
        · refine g_aload_n (n := 56) X 0 dX12_force_55 rfl rfl rfl ?_
          refine g_iload_n (n := 57) X 2 dX12_force_56 rfl rfl rfl ?_
          refine g_iload_n (n := 58) X 1 dX12_force_57 rfl rfl rfl ?_
          refine g_callVi (n := 61) (As := [gJ b, gJ a]) (rest := []) (cs1 := 0) (ss1 := 0) X (s_X12_law b (by omega) a (by omega) hsz I C ) okX12_law kw_6_193 ⟨kw_6_195, kw_0_49⟩ ⟨rfl, rfl⟩ ⟨Nat.le_of_ble_eq_true rfl, Nat.le_of_ble_eq_true rfl⟩ rfl (by decide) (gsz hsz (by decide)) lay_190 rfl rfl (Nat.le_of_ble_eq_true rfl) ⟨Nat.le_of_ble_eq_true rfl, Nat.le_of_ble_eq_true rfl⟩ rfl rfl dX12_force_58 rfl (fun v11 M12 P13 => ?_)
          obtain ⟨rfl, rv11⟩ := P13
          exact hq _ _ _ _ dX12_force_61 ⟨rfl, by omega⟩
        · refine g_aload_n (n := 47) X 0 dX12_force_46 rfl rfl rfl ?_
          refine g_iload_n (n := 48) X 2 dX12_force_47 rfl rfl rfl ?_
          refine g_iload_n (n := 49) X 1 dX12_force_48 rfl rfl rfl ?_
          refine g_callVi (n := 52) (As := [gJ b, gJ a]) (rest := []) (cs1 := 0) (ss1 := 0) X (s_X12_manyOf b (by omega) a (by omega) hsz I C ) okX12_manyOf kw_7_74 ⟨kw_7_76, kw_0_69⟩ ⟨rfl, rfl⟩ ⟨Nat.le_of_ble_eq_true rfl, Nat.le_of_ble_eq_true rfl⟩ rfl (by decide) (gsz hsz (by decide)) lay_190 rfl rfl (Nat.le_of_ble_eq_true rfl) ⟨Nat.le_of_ble_eq_true rfl, Nat.le_of_ble_eq_true rfl⟩ rfl rfl dX12_force_49 rfl (fun v14 M15 P16 => ?_)
          obtain ⟨rfl, rv14⟩ := P16
          refine g_goto (tgt := 61) X dX12_force_52 (by decide) ?_
          exact hq _ _ _ _ dX12_force_61 ⟨rfl, by omega⟩
      · refine g_aload_n (n := 29) X 0 dX12_force_28 rfl rfl rfl ?_
        refine g_iload_n (n := 30) X 2 dX12_force_29 rfl rfl rfl ?_
        refine g_bipush (n := 32) X dX12_force_30 (by decide +kernel) rfl ?_
        refine g_isub (n := 33) (z := b - 10) X dX12_force_32 (by omega) rfl ?_
        refine g_iload_n (n := 34) X 1 dX12_force_33 rfl rfl rfl ?_
        refine g_callVi (n := 37) (As := [gJ (b - 10), gJ a]) (rest := []) (cs1 := 0) (ss1 := 0) X (s_X12_actOf (b - 10) (by omega) a (by omega) hsz I C ) okX12_actOf kw_6_197 ⟨kw_6_199, kw_0_50⟩ ⟨rfl, rfl⟩ ⟨Nat.le_of_ble_eq_true rfl, Nat.le_of_ble_eq_true rfl⟩ rfl (by decide) (gsz hsz (by decide)) lay_190 rfl rfl (Nat.le_of_ble_eq_true rfl) ⟨Nat.le_of_ble_eq_true rfl, Nat.le_of_ble_eq_true rfl⟩ rfl rfl dX12_force_34 rfl (fun v17 M18 P19 => ?_)
        obtain ⟨rfl, rv17⟩ := P19
        refine g_goto (tgt := 61) X dX12_force_37 (by decide) ?_
        exact hq _ _ _ _ dX12_force_61 ⟨rfl, by omega⟩
    · refine g_bipush (n := 21) X dX12_force_19 (by decide +kernel) rfl ?_
      exact hq _ _ _ _ dX12_force_21 ⟨rfl, by omega⟩
  · refine g_iconst (n := 11) X dX12_force_10 rfl ?_
    exact hq _ _ _ _ dX12_force_11 ⟨rfl, by omega⟩
theorem dX12_counted_0 : decode cX12_counted 0 = .ok (.aload_n 0, 1) := dc_42 (by decide +kernel)
theorem dX12_counted_1 : decode cX12_counted 1 = .ok (.getfield 7, 3) := dc_180 0 7 (by decide +kernel)
theorem dX12_counted_4 : decode cX12_counted 4 = .ok (.sipush 256, 3) := dc_17 1 0 256 (by decide +kernel)
theorem dX12_counted_7 : decode cX12_counted 7 = .ok (.iload_n 1, 1) := dc_27 (by decide +kernel)
theorem dX12_counted_8 : decode cX12_counted 8 = .ok (.iadd, 1) := dc_96 (by decide +kernel)
theorem dX12_counted_9 : decode cX12_counted 9 = .ok (.iaload, 1) := dc_46 (by decide +kernel)
theorem dX12_counted_10 : decode cX12_counted 10 = .ok (.iconst 4, 1) := dc_7 (by decide +kernel)
theorem dX12_counted_11 : decode cX12_counted 11 = .ok (.if_icmp .ne 18, 3) := dc_160 0 18 18 (by decide +kernel)
theorem dX12_counted_29 : decode cX12_counted 29 = .ok (.aload_n 0, 1) := dc_42 (by decide +kernel)
theorem dX12_counted_30 : decode cX12_counted 30 = .ok (.getfield 7, 3) := dc_180 0 7 (by decide +kernel)
theorem dX12_counted_33 : decode cX12_counted 33 = .ok (.sipush 376, 3) := dc_17 1 120 376 (by decide +kernel)
theorem dX12_counted_36 : decode cX12_counted 36 = .ok (.iload_n 1, 1) := dc_27 (by decide +kernel)
theorem dX12_counted_37 : decode cX12_counted 37 = .ok (.iadd, 1) := dc_96 (by decide +kernel)
theorem dX12_counted_38 : decode cX12_counted 38 = .ok (.iaload, 1) := dc_46 (by decide +kernel)
theorem dX12_counted_39 : decode cX12_counted 39 = .ok (.ireturn, 1) := dc_172 (by decide +kernel)
theorem dX12_counted_14 : decode cX12_counted 14 = .ok (.iconst 2, 1) := dc_5 (by decide +kernel)
theorem dX12_counted_15 : decode cX12_counted 15 = .ok (.aload_n 0, 1) := dc_42 (by decide +kernel)
theorem dX12_counted_16 : decode cX12_counted 16 = .ok (.getfield 7, 3) := dc_180 0 7 (by decide +kernel)
theorem dX12_counted_19 : decode cX12_counted 19 = .ok (.sipush 376, 3) := dc_17 1 120 376 (by decide +kernel)
theorem dX12_counted_22 : decode cX12_counted 22 = .ok (.iload_n 1, 1) := dc_27 (by decide +kernel)
theorem dX12_counted_23 : decode cX12_counted 23 = .ok (.iadd, 1) := dc_96 (by decide +kernel)
theorem dX12_counted_24 : decode cX12_counted 24 = .ok (.iaload, 1) := dc_46 (by decide +kernel)
theorem dX12_counted_25 : decode cX12_counted 25 = .ok (.imul, 1) := dc_104 (by decide +kernel)
theorem dX12_counted_26 : decode cX12_counted 26 = .ok (.goto 13, 3) := dc_167 0 13 13 (by decide +kernel)
abbrev R_X12_counted : Room := { frames := 0, cells := 0, slots := 0, locals := 0 }
set_option maxRecDepth 100000 in
set_option maxHeartbeats 4000000 in
theorem s_X12_counted {l : Launch} {n0 : Nat} {D : va_G} {cA : Nat → ClassId} {M : gM} (a : Int) (r_a : 0 ≤ a ∧ a ≤ 39) {sz : Nat} (hsz : 206 ≤ sz) (I : gI sz M) (C : gC sz M)   : Met l yX12_counted (gWsOf yX12_counted cX12_counted 2 (Option.some Jvm.ClassFile.FieldType.int)) R_X12_counted (gPc n0 D cA [gA n0 190, gJ a] M sz) (gQi n0 D cA sz (fun z M1 => M = M1 ∧ (0 ≤ z ∧ z ≤ 19998) ∧ ((M 191 (a + 256) = 4 ∧ z = 2 * M 191 (a + 376)) ∨ (¬ M 191 (a + 256) = 4 ∧ z = M 191 (a + 376))))) 0 0 (fun q => n0 ≤ q) := by
  refine gMetI [gA n0 190, gJ a] (by decide) (Nat.le_of_ble_eq_true rfl) ⟨rfl, rfl⟩ ?_
  intro p e s m args below meth cd Q X hq
  have X : gCx p s m args meth cd n0 D cA "ParishUnionModel" cX12_counted 2 := X
  show G p l e R_X12_counted s m args below meth cd n0 D cA 2 Q 0 0 M sz 0 [(0, gA n0 190), (1, gJ a)] []
  refine g_aload_n (n := 1) X 0 dX12_counted_0 rfl rfl rfl ?_
  refine gg_12_1 (n := 4) (z := 191) X (by decide) (gsz hsz (by decide)) lay_190 kw_6_27 dX12_counted_1 rfl (rf_190_1 I (gsz hsz (by decide))) (by decide) ?_
  refine g_sipush (n := 7) X dX12_counted_4 (by decide +kernel) rfl ?_
  refine g_iload_n (n := 8) X 1 dX12_counted_7 rfl rfl rfl ?_
  refine g_iadd (n := 9) (z := a + 256) X dX12_counted_8 (by omega) rfl ?_
  obtain ⟨v1, hv1, rv1⟩ := gRd I (by decide) (gsz hsz (by decide)) (rs_RKIND (k := a + 256) (by omega)).1
  refine g_iald2 (n := 10) (v := v1) X (by decide) (gsz hsz (by decide)) lay_191 (by omega) (by omega) (by decide) dX12_counted_9 rfl hv1 ?_
  refine g_iconst (n := 11) X dX12_counted_10 rfl ?_
  refine g_icmp_ne (n := 14) (tgt := 29) X dX12_counted_11 (by decide) (by omega) (by omega) rfl (fun c2 => ?_) (fun c2 => ?_)
  · refine g_aload_n (n := 30) X 0 dX12_counted_29 rfl rfl rfl ?_
    refine gg_12_1 (n := 33) (z := 191) X (by decide) (gsz hsz (by decide)) lay_190 kw_6_27 dX12_counted_30 rfl (rf_190_1 I (gsz hsz (by decide))) (by decide) ?_
    refine g_sipush (n := 36) X dX12_counted_33 (by decide +kernel) rfl ?_
    refine g_iload_n (n := 37) X 1 dX12_counted_36 rfl rfl rfl ?_
    refine g_iadd (n := 38) (z := a + 376) X dX12_counted_37 (by omega) rfl ?_
    obtain ⟨v3, hv3, rv3⟩ := gRd I (by decide) (gsz hsz (by decide)) (rs_RN (k := a + 376) (by omega)).1
    refine g_iald2 (n := 39) (v := v3) X (by decide) (gsz hsz (by decide)) lay_191 (by omega) (by omega) (by decide) dX12_counted_38 rfl hv3 ?_
    exact hq _ _ _ _ dX12_counted_39 ⟨rfl, by omega, by omega⟩
  · refine g_iconst (n := 15) X dX12_counted_14 rfl ?_
    refine g_aload_n (n := 16) X 0 dX12_counted_15 rfl rfl rfl ?_
    refine gg_12_1 (n := 19) (z := 191) X (by decide) (gsz hsz (by decide)) lay_190 kw_6_27 dX12_counted_16 rfl (rf_190_1 I (gsz hsz (by decide))) (by decide) ?_
    refine g_sipush (n := 22) X dX12_counted_19 (by decide +kernel) rfl ?_
    refine g_iload_n (n := 23) X 1 dX12_counted_22 rfl rfl rfl ?_
    refine g_iadd (n := 24) (z := a + 376) X dX12_counted_23 (by omega) rfl ?_
    obtain ⟨v4, hv4, rv4⟩ := gRd I (by decide) (gsz hsz (by decide)) (rs_RN (k := a + 376) (by omega)).1
    refine g_iald2 (n := 25) (v := v4) X (by decide) (gsz hsz (by decide)) lay_191 (by omega) (by omega) (by decide) dX12_counted_24 rfl hv4 ?_
    refine g_imul (n := 26) (z := 2 * v4) X dX12_counted_25 rfl rfl ?_
    refine g_goto (tgt := 39) X dX12_counted_26 (by decide) ?_
    exact hq _ _ _ _ dX12_counted_39 ⟨rfl, by omega, by omega⟩
theorem dX12_takenIn_0 : decode cX12_takenIn 0 = .ok (.iconst 0, 1) := dc_3 (by decide +kernel)
theorem dX12_takenIn_1 : decode cX12_takenIn 1 = .ok (.istore_n 2, 1) := dc_61 (by decide +kernel)
theorem dX12_takenIn_2 : decode cX12_takenIn 2 = .ok (.iconst 0, 1) := dc_3 (by decide +kernel)
theorem dX12_takenIn_3 : decode cX12_takenIn 3 = .ok (.istore_n 3, 1) := dc_62 (by decide +kernel)
theorem dX12_takenIn_4 : decode cX12_takenIn 4 = .ok (.iload_n 3, 1) := dc_29 (by decide +kernel)
theorem dX12_takenIn_5 : decode cX12_takenIn 5 = .ok (.aload_n 0, 1) := dc_42 (by decide +kernel)
theorem dX12_takenIn_6 : decode cX12_takenIn 6 = .ok (.getfield 7, 3) := dc_180 0 7 (by decide +kernel)
theorem dX12_takenIn_9 : decode cX12_takenIn 9 = .ok (.iconst 1, 1) := dc_4 (by decide +kernel)
theorem dX12_takenIn_10 : decode cX12_takenIn 10 = .ok (.iaload, 1) := dc_46 (by decide +kernel)
theorem dX12_takenIn_11 : decode cX12_takenIn 11 = .ok (.if_icmp .ge 46, 3) := dc_162 0 46 46 (by decide +kernel)
theorem dX12_takenIn_57 : decode cX12_takenIn 57 = .ok (.iload_n 2, 1) := dc_28 (by decide +kernel)
theorem dX12_takenIn_58 : decode cX12_takenIn 58 = .ok (.ireturn, 1) := dc_172 (by decide +kernel)
theorem dX12_takenIn_14 : decode cX12_takenIn 14 = .ok (.iload_n 2, 1) := dc_28 (by decide +kernel)
theorem dX12_takenIn_15 : decode cX12_takenIn 15 = .ok (.aload_n 0, 1) := dc_42 (by decide +kernel)
theorem dX12_takenIn_16 : decode cX12_takenIn 16 = .ok (.getfield 7, 3) := dc_180 0 7 (by decide +kernel)
theorem dX12_takenIn_19 : decode cX12_takenIn 19 = .ok (.sipush 160, 3) := dc_17 0 160 160 (by decide +kernel)
theorem dX12_takenIn_22 : decode cX12_takenIn 22 = .ok (.iload_n 3, 1) := dc_29 (by decide +kernel)
theorem dX12_takenIn_23 : decode cX12_takenIn 23 = .ok (.iadd, 1) := dc_96 (by decide +kernel)
theorem dX12_takenIn_24 : decode cX12_takenIn 24 = .ok (.iaload, 1) := dc_46 (by decide +kernel)
theorem dX12_takenIn_25 : decode cX12_takenIn 25 = .ok (.bipush 6, 2) := dc_16 6 6 (by decide +kernel)
theorem dX12_takenIn_27 : decode cX12_takenIn 27 = .ok (.if_icmp .ne 21, 3) := dc_160 0 21 21 (by decide +kernel)
theorem dX12_takenIn_48 : decode cX12_takenIn 48 = .ok (.iconst 0, 1) := dc_3 (by decide +kernel)
theorem dX12_takenIn_49 : decode cX12_takenIn 49 = .ok (.iadd, 1) := dc_96 (by decide +kernel)
theorem dX12_takenIn_50 : decode cX12_takenIn 50 = .ok (.istore_n 2, 1) := dc_61 (by decide +kernel)
theorem dX12_takenIn_51 : decode cX12_takenIn 51 = .ok (.iinc 3 1, 3) := dc_132 3 1 1 (by decide +kernel)
theorem dX12_takenIn_54 : decode cX12_takenIn 54 = .ok (.goto (-50), 3) := dc_167 255 206 (-50) (by decide +kernel)
theorem dX12_takenIn_30 : decode cX12_takenIn 30 = .ok (.aload_n 0, 1) := dc_42 (by decide +kernel)
theorem dX12_takenIn_31 : decode cX12_takenIn 31 = .ok (.getfield 7, 3) := dc_180 0 7 (by decide +kernel)
theorem dX12_takenIn_34 : decode cX12_takenIn 34 = .ok (.sipush 208, 3) := dc_17 0 208 208 (by decide +kernel)
theorem dX12_takenIn_37 : decode cX12_takenIn 37 = .ok (.iload_n 3, 1) := dc_29 (by decide +kernel)
theorem dX12_takenIn_38 : decode cX12_takenIn 38 = .ok (.iadd, 1) := dc_96 (by decide +kernel)
theorem dX12_takenIn_39 : decode cX12_takenIn 39 = .ok (.iaload, 1) := dc_46 (by decide +kernel)
theorem dX12_takenIn_40 : decode cX12_takenIn 40 = .ok (.iload_n 1, 1) := dc_27 (by decide +kernel)
theorem dX12_takenIn_41 : decode cX12_takenIn 41 = .ok (.if_icmp .ne 7, 3) := dc_160 0 7 7 (by decide +kernel)
theorem dX12_takenIn_44 : decode cX12_takenIn 44 = .ok (.iconst 1, 1) := dc_4 (by decide +kernel)
theorem dX12_takenIn_45 : decode cX12_takenIn 45 = .ok (.goto 4, 3) := dc_167 0 4 4 (by decide +kernel)
abbrev R_X12_takenIn : Room := { frames := 0, cells := 0, slots := 0, locals := 0 }
set_option maxRecDepth 100000 in
set_option maxHeartbeats 4000000 in
theorem s_X12_takenIn {l : Launch} {n0 : Nat} {D : va_G} {cA : Nat → ClassId} {M : gM} (a : Int) (r_a : -2147483648 ≤ a ∧ a ≤ 2147483647) {sz : Nat} (hsz : 206 ≤ sz) (I : gI sz M) (C : gC sz M)   : Met l yX12_takenIn (gWsOf yX12_takenIn cX12_takenIn 4 (Option.some Jvm.ClassFile.FieldType.int)) R_X12_takenIn (gPc n0 D cA [gA n0 190, gJ a] M sz) (gQi n0 D cA sz (fun z M1 => M = M1 ∧ (-2147483648 ≤ z ∧ z ≤ 2147483647))) 0 0 (fun q => n0 ≤ q) := by
  refine gMetI [gA n0 190, gJ a] (by decide) (Nat.le_of_ble_eq_true rfl) ⟨rfl, rfl⟩ ?_
  intro p e s m args below meth cd Q X hq
  have X : gCx p s m args meth cd n0 D cA "ParishUnionModel" cX12_takenIn 4 := X
  show G p l e R_X12_takenIn s m args below meth cd n0 D cA 4 Q 0 0 M sz 0 [(0, gA n0 190), (1, gJ a)] []
  refine g_iconst (n := 1) X dX12_takenIn_0 rfl ?_
  refine g_istore_n (n := 2) (L' := [(2, gJ 0), (0, gA n0 190), (1, gJ a)]) X dX12_takenIn_1 rfl (by decide) rfl rfl ?_
  refine g_iconst (n := 3) X dX12_takenIn_2 rfl ?_
  refine g_istore_n (n := 4) (L' := [(3, gJ 0), (2, gJ 0), (0, gA n0 190), (1, gJ a)]) X dX12_takenIn_3 rfl (by decide) rfl rfl ?_
  have j4 : ∀ (N133 : Nat) (v1 v2 : Int) , (-2147483648 ≤ v1 ∧ v1 ≤ 2147483647) → (0 ≤ v2 ∧ v2 ≤ 16) → (16 - v2).toNat < N133 → G p l e R_X12_takenIn s m args below meth cd n0 D cA 4 Q 0 0 M sz 4 [(0, gA n0 190), (1, gJ a), (2, gJ v1), (3, gJ v2)] [] := by
    intro N133; induction N133 with
    | zero => intro v1 v2 rv1 rv2 hm135; exfalso; omega
    | succ N133 ih134 =>
      intro v1 v2 rv1 rv2 hm135
      refine g_iload_n (n := 5) X 3 dX12_takenIn_4 rfl rfl rfl ?_
      refine g_aload_n (n := 6) X 0 dX12_takenIn_5 rfl rfl rfl ?_
      refine gg_12_1 (n := 9) (z := 191) X (by decide) (gsz hsz (by decide)) lay_190 kw_6_27 dX12_takenIn_6 rfl (rf_190_1 I (gsz hsz (by decide))) (by decide) ?_
      refine g_iconst (n := 10) X dX12_takenIn_9 rfl ?_
      obtain ⟨v136, hv136, rv136⟩ := gRd I (by decide) (gsz hsz (by decide)) (rs_PERS (k := 1) (by omega)).1
      refine g_iald2 (n := 11) (v := v136) X (by decide) (gsz hsz (by decide)) lay_191 (by omega) (by omega) (by decide) dX12_takenIn_10 rfl hv136 ?_
      refine g_icmp_ge (n := 14) (tgt := 57) X dX12_takenIn_11 (by decide) (by omega) (by omega) rfl (fun c137 => ?_) (fun c137 => ?_)
      · refine g_iload_n (n := 58) X 2 dX12_takenIn_57 rfl rfl rfl ?_
        exact hq _ _ _ _ dX12_takenIn_58 ⟨rfl, by omega⟩
      · refine g_iload_n (n := 15) X 2 dX12_takenIn_14 rfl rfl rfl ?_
        refine g_aload_n (n := 16) X 0 dX12_takenIn_15 rfl rfl rfl ?_
        refine gg_12_1 (n := 19) (z := 191) X (by decide) (gsz hsz (by decide)) lay_190 kw_6_27 dX12_takenIn_16 rfl (rf_190_1 I (gsz hsz (by decide))) (by decide) ?_
        refine g_sipush (n := 22) X dX12_takenIn_19 (by decide +kernel) rfl ?_
        refine g_iload_n (n := 23) X 3 dX12_takenIn_22 rfl rfl rfl ?_
        refine g_iadd (n := 24) (z := v2 + 160) X dX12_takenIn_23 (by omega) rfl ?_
        obtain ⟨v138, hv138, rv138⟩ := gRd I (by decide) (gsz hsz (by decide)) (rs_AT (k := v2 + 160) (by omega)).1
        refine g_iald2 (n := 25) (v := v138) X (by decide) (gsz hsz (by decide)) lay_191 (by omega) (by omega) (by decide) dX12_takenIn_24 rfl hv138 ?_
        refine g_bipush (n := 27) X dX12_takenIn_25 (by decide +kernel) rfl ?_
        refine g_icmp_ne (n := 30) (tgt := 48) X dX12_takenIn_27 (by decide) (by omega) (by omega) rfl (fun c139 => ?_) (fun c139 => ?_)
        · refine g_iconst (n := 49) X dX12_takenIn_48 rfl ?_
          refine g_iadd (n := 50) (z := v1) X dX12_takenIn_49 (by omega) rfl ?_
          refine g_istore_n (n := 51) (L' := [(2, gJ v1), (0, gA n0 190), (1, gJ a), (3, gJ v2)]) X dX12_takenIn_50 rfl (by decide) rfl rfl ?_
          refine g_iinc (n := 54) (w := v2 + 1) (L' := [(3, gJ (v2 + 1)), (2, gJ v1), (0, gA n0 190), (1, gJ a)]) X 3 dX12_takenIn_51 rfl rfl (by decide) rfl rfl ?_
          refine g_goto (tgt := 4) X dX12_takenIn_54 (by decide) ?_
          refine G.sub (L' := [(0, gA n0 190), (1, gJ a), (2, gJ v1), (3, gJ (v2 + 1))]) [2, 3, 1, 0] rfl ?_
          exact ih134 v1 (v2 + 1) (by omega) (by omega) (by omega)
        · refine g_aload_n (n := 31) X 0 dX12_takenIn_30 rfl rfl rfl ?_
          refine gg_12_1 (n := 34) (z := 191) X (by decide) (gsz hsz (by decide)) lay_190 kw_6_27 dX12_takenIn_31 rfl (rf_190_1 I (gsz hsz (by decide))) (by decide) ?_
          refine g_sipush (n := 37) X dX12_takenIn_34 (by decide +kernel) rfl ?_
          refine g_iload_n (n := 38) X 3 dX12_takenIn_37 rfl rfl rfl ?_
          refine g_iadd (n := 39) (z := v2 + 208) X dX12_takenIn_38 (by omega) rfl ?_
          obtain ⟨v140, hv140, rv140⟩ := gRd I (by decide) (gsz hsz (by decide)) (rs_WARD (k := v2 + 208) (by omega)).1
          refine g_iald2 (n := 40) (v := v140) X (by decide) (gsz hsz (by decide)) lay_191 (by omega) (by omega) (by decide) dX12_takenIn_39 rfl hv140 ?_
          refine g_iload_n (n := 41) X 1 dX12_takenIn_40 rfl rfl rfl ?_
          refine g_icmp_ne (n := 44) (tgt := 48) X dX12_takenIn_41 (by decide) (by omega) (by omega) rfl (fun c141 => ?_) (fun c141 => ?_)
          · refine g_iconst (n := 49) X dX12_takenIn_48 rfl ?_
            refine g_iadd (n := 50) (z := v1) X dX12_takenIn_49 (by omega) rfl ?_
            refine g_istore_n (n := 51) (L' := [(2, gJ v1), (0, gA n0 190), (1, gJ a), (3, gJ v2)]) X dX12_takenIn_50 rfl (by decide) rfl rfl ?_
            refine g_iinc (n := 54) (w := v2 + 1) (L' := [(3, gJ (v2 + 1)), (2, gJ v1), (0, gA n0 190), (1, gJ a)]) X 3 dX12_takenIn_51 rfl rfl (by decide) rfl rfl ?_
            refine g_goto (tgt := 4) X dX12_takenIn_54 (by decide) ?_
            refine G.sub (L' := [(0, gA n0 190), (1, gJ a), (2, gJ v1), (3, gJ (v2 + 1))]) [2, 3, 1, 0] rfl ?_
            exact ih134 v1 (v2 + 1) (by omega) (by omega) (by omega)
          · refine g_iconst (n := 45) X dX12_takenIn_44 rfl ?_
            refine g_goto (tgt := 49) X dX12_takenIn_45 (by decide) ?_
            refine g_iaddA (n := 50) X dX12_takenIn_49 rfl (fun v142 rv142 xv142 => ?_)
            clear xv142
            refine g_istore_n (n := 51) (L' := [(2, gJ v142), (0, gA n0 190), (1, gJ a), (3, gJ v2)]) X dX12_takenIn_50 rfl (by decide) rfl rfl ?_
            refine g_iinc (n := 54) (w := v2 + 1) (L' := [(3, gJ (v2 + 1)), (2, gJ v142), (0, gA n0 190), (1, gJ a)]) X 3 dX12_takenIn_51 rfl rfl (by decide) rfl rfl ?_
            refine g_goto (tgt := 4) X dX12_takenIn_54 (by decide) ?_
            refine G.sub (L' := [(0, gA n0 190), (1, gJ a), (2, gJ v142), (3, gJ (v2 + 1))]) [2, 3, 1, 0] rfl ?_
            exact ih134 v142 (v2 + 1) (by omega) (by omega) (by omega)
  refine G.sub (L' := [(0, gA n0 190), (1, gJ a), (2, gJ 0), (3, gJ 0)]) [2, 3, 1, 0] rfl ?_
  exact j4 _ 0 0 (by omega) (by omega) (Nat.lt_succ_self _)
theorem dX12_heardIn_0 : decode cX12_heardIn 0 = .ok (.aload_n 0, 1) := dc_42 (by decide +kernel)
theorem dX12_heardIn_1 : decode cX12_heardIn 1 = .ok (.iload_n 1, 1) := dc_27 (by decide +kernel)
theorem dX12_heardIn_2 : decode cX12_heardIn 2 = .ok (.iconst 0, 1) := dc_3 (by decide +kernel)
theorem dX12_heardIn_3 : decode cX12_heardIn 3 = .ok (.invokevirtual 72, 3) := dc_182 0 72 (by decide +kernel)
theorem dX12_heardIn_6 : decode cX12_heardIn 6 = .ok (.istore_n 3, 1) := dc_62 (by decide +kernel)
theorem dX12_heardIn_7 : decode cX12_heardIn 7 = .ok (.iconst 0, 1) := dc_3 (by decide +kernel)
theorem dX12_heardIn_8 : decode cX12_heardIn 8 = .ok (.istore 4, 2) := dc_54 4 (by decide +kernel)
theorem dX12_heardIn_10 : decode cX12_heardIn 10 = .ok (.iconst 0, 1) := dc_3 (by decide +kernel)
theorem dX12_heardIn_11 : decode cX12_heardIn 11 = .ok (.istore 5, 2) := dc_54 5 (by decide +kernel)
theorem dX12_heardIn_13 : decode cX12_heardIn 13 = .ok (.iload_n 3, 1) := dc_29 (by decide +kernel)
theorem dX12_heardIn_14 : decode cX12_heardIn 14 = .ok (.bipush 99, 2) := dc_16 99 99 (by decide +kernel)
theorem dX12_heardIn_16 : decode cX12_heardIn 16 = .ok (.if_icmp .ge 58, 3) := dc_162 0 58 58 (by decide +kernel)
theorem dX12_heardIn_74 : decode cX12_heardIn 74 = .ok (.iload 4, 2) := dc_21 4 (by decide +kernel)
theorem dX12_heardIn_76 : decode cX12_heardIn 76 = .ok (.ireturn, 1) := dc_172 (by decide +kernel)
theorem dX12_heardIn_19 : decode cX12_heardIn 19 = .ok (.iload 5, 2) := dc_21 5 (by decide +kernel)
theorem dX12_heardIn_21 : decode cX12_heardIn 21 = .ok (.iload_n 2, 1) := dc_28 (by decide +kernel)
theorem dX12_heardIn_22 : decode cX12_heardIn 22 = .ok (.iload_n 3, 1) := dc_29 (by decide +kernel)
theorem dX12_heardIn_23 : decode cX12_heardIn 23 = .ok (.isub, 1) := dc_100 (by decide +kernel)
theorem dX12_heardIn_24 : decode cX12_heardIn 24 = .ok (.iconst 1, 1) := dc_4 (by decide +kernel)
theorem dX12_heardIn_25 : decode cX12_heardIn 25 = .ok (.isub, 1) := dc_100 (by decide +kernel)
theorem dX12_heardIn_26 : decode cX12_heardIn 26 = .ok (.if_icmp .gt 48, 3) := dc_163 0 48 48 (by decide +kernel)
theorem dX12_heardIn_29 : decode cX12_heardIn 29 = .ok (.iload 5, 2) := dc_21 5 (by decide +kernel)
theorem dX12_heardIn_31 : decode cX12_heardIn 31 = .ok (.aload_n 0, 1) := dc_42 (by decide +kernel)
theorem dX12_heardIn_32 : decode cX12_heardIn 32 = .ok (.getfield 7, 3) := dc_180 0 7 (by decide +kernel)
theorem dX12_heardIn_35 : decode cX12_heardIn 35 = .ok (.iconst 0, 1) := dc_3 (by decide +kernel)
theorem dX12_heardIn_36 : decode cX12_heardIn 36 = .ok (.iaload, 1) := dc_46 (by decide +kernel)
theorem dX12_heardIn_37 : decode cX12_heardIn 37 = .ok (.if_icmp .ge 37, 3) := dc_162 0 37 37 (by decide +kernel)
theorem dX12_heardIn_40 : decode cX12_heardIn 40 = .ok (.iload 4, 2) := dc_21 4 (by decide +kernel)
theorem dX12_heardIn_42 : decode cX12_heardIn 42 = .ok (.aload_n 0, 1) := dc_42 (by decide +kernel)
theorem dX12_heardIn_43 : decode cX12_heardIn 43 = .ok (.getfield 7, 3) := dc_180 0 7 (by decide +kernel)
theorem dX12_heardIn_46 : decode cX12_heardIn 46 = .ok (.sipush 3802, 3) := dc_17 14 218 3802 (by decide +kernel)
theorem dX12_heardIn_49 : decode cX12_heardIn 49 = .ok (.iload 5, 2) := dc_21 5 (by decide +kernel)
theorem dX12_heardIn_51 : decode cX12_heardIn 51 = .ok (.iadd, 1) := dc_96 (by decide +kernel)
theorem dX12_heardIn_52 : decode cX12_heardIn 52 = .ok (.iaload, 1) := dc_46 (by decide +kernel)
theorem dX12_heardIn_53 : decode cX12_heardIn 53 = .ok (.aload_n 0, 1) := dc_42 (by decide +kernel)
theorem dX12_heardIn_54 : decode cX12_heardIn 54 = .ok (.getfield 7, 3) := dc_180 0 7 (by decide +kernel)
theorem dX12_heardIn_57 : decode cX12_heardIn 57 = .ok (.sipush 4103, 3) := dc_17 16 7 4103 (by decide +kernel)
theorem dX12_heardIn_60 : decode cX12_heardIn 60 = .ok (.iload 5, 2) := dc_21 5 (by decide +kernel)
theorem dX12_heardIn_62 : decode cX12_heardIn 62 = .ok (.iadd, 1) := dc_96 (by decide +kernel)
theorem dX12_heardIn_63 : decode cX12_heardIn 63 = .ok (.iaload, 1) := dc_46 (by decide +kernel)
theorem dX12_heardIn_64 : decode cX12_heardIn 64 = .ok (.iadd, 1) := dc_96 (by decide +kernel)
theorem dX12_heardIn_65 : decode cX12_heardIn 65 = .ok (.iadd, 1) := dc_96 (by decide +kernel)
theorem dX12_heardIn_66 : decode cX12_heardIn 66 = .ok (.istore 4, 2) := dc_54 4 (by decide +kernel)
theorem dX12_heardIn_68 : decode cX12_heardIn 68 = .ok (.iinc 5 1, 3) := dc_132 5 1 1 (by decide +kernel)
theorem dX12_heardIn_71 : decode cX12_heardIn 71 = .ok (.goto (-58), 3) := dc_167 255 198 (-58) (by decide +kernel)
abbrev R_X12_heardIn : Room := { frames := 1, cells := 0, slots := 0, locals := 22 }
set_option maxRecDepth 100000 in
set_option maxHeartbeats 4000000 in
theorem s_X12_heardIn {l : Launch} {n0 : Nat} {D : va_G} {cA : Nat → ClassId} {M : gM} (a : Int) (r_a : -1 ≤ a ∧ a ≤ 5) (b : Int) (r_b : 0 ≤ b ∧ b ≤ 300) {sz : Nat} (hsz : 206 ≤ sz) (I : gI sz M) (C : gC sz M)   : Met l yX12_heardIn (gWsOf yX12_heardIn cX12_heardIn 6 (Option.some Jvm.ClassFile.FieldType.int)) R_X12_heardIn (gPc n0 D cA [gA n0 190, gJ a, gJ b] M sz) (gQi n0 D cA sz (fun z M1 => M = M1 ∧ (-2147483648 ≤ z ∧ z ≤ 2147483647))) 0 0 (fun q => n0 ≤ q) := by
  refine gMetI [gA n0 190, gJ a, gJ b] (by decide) (Nat.le_of_ble_eq_true rfl) ⟨rfl, rfl⟩ ?_
  intro p e s m args below meth cd Q X hq
  have X : gCx p s m args meth cd n0 D cA "ParishUnionModel" cX12_heardIn 6 := X
  show G p l e R_X12_heardIn s m args below meth cd n0 D cA 6 Q 0 0 M sz 0 [(0, gA n0 190), (1, gJ a), (2, gJ b)] []
  refine g_aload_n (n := 1) X 0 dX12_heardIn_0 rfl rfl rfl ?_
  refine g_iload_n (n := 2) X 1 dX12_heardIn_1 rfl rfl rfl ?_
  refine g_iconst (n := 3) X dX12_heardIn_2 rfl ?_
  refine g_callVi (n := 6) (As := [gJ a, gJ 0]) (rest := []) (cs1 := 0) (ss1 := 0) X (s_X12_farOf a (by omega) 0 (by omega) hsz I C ) okX12_farOf kw_6_113 ⟨kw_6_115, kw_0_39⟩ ⟨rfl, rfl⟩ ⟨Nat.le_of_ble_eq_true rfl, Nat.le_of_ble_eq_true rfl⟩ rfl (by decide) (gsz hsz (by decide)) lay_190 rfl rfl (Nat.le_of_ble_eq_true rfl) ⟨Nat.le_of_ble_eq_true rfl, Nat.le_of_ble_eq_true rfl⟩ rfl rfl dX12_heardIn_3 rfl (fun v1 M2 P3 => ?_)
  obtain ⟨rfl, rv1⟩ := P3
  refine g_istore_n (n := 7) (L' := [(3, gJ v1), (0, gA n0 190), (1, gJ a), (2, gJ b)]) X dX12_heardIn_6 rfl (by decide) rfl rfl ?_
  refine g_iconst (n := 8) X dX12_heardIn_7 rfl ?_
  refine g_istore (n := 10) (L' := [(4, gJ 0), (3, gJ v1), (0, gA n0 190), (1, gJ a), (2, gJ b)]) X dX12_heardIn_8 (by decide) rfl rfl ?_
  refine g_iconst (n := 11) X dX12_heardIn_10 rfl ?_
  refine g_istore (n := 13) (L' := [(5, gJ 0), (4, gJ 0), (3, gJ v1), (0, gA n0 190), (1, gJ a), (2, gJ b)]) X dX12_heardIn_11 (by decide) rfl rfl ?_
  have j7 : ∀ (N137 : Nat) (v4 v5 : Int) , (-2147483648 ≤ v4 ∧ v4 ≤ 2147483647) → (0 ≤ v5 ∧ v5 ≤ 300) → (300 - v5).toNat < N137 → G p l e R_X12_heardIn s m args below meth cd n0 D cA 6 Q 0 0 M sz 13 [(0, gA n0 190), (2, gJ b), (3, gJ v1), (4, gJ v4), (5, gJ v5)] [] := by
    intro N137; induction N137 with
    | zero => intro v4 v5 rv4 rv5 hm139; exfalso; omega
    | succ N137 ih138 =>
      intro v4 v5 rv4 rv5 hm139
      refine g_iload_n (n := 14) X 2 dX12_heardIn_13 rfl rfl rfl ?_
      refine g_bipush (n := 16) X dX12_heardIn_14 (by decide +kernel) rfl ?_
      refine g_icmp_ge (n := 19) (tgt := 74) X dX12_heardIn_16 (by decide) (by omega) (by omega) rfl (fun c140 => ?_) (fun c140 => ?_)
      · refine g_iload (n := 76) X 3 dX12_heardIn_74 rfl rfl ?_
        exact hq _ _ _ _ dX12_heardIn_76 ⟨rfl, by omega⟩
      · refine g_iload (n := 21) X 4 dX12_heardIn_19 rfl rfl ?_
        refine g_iload_n (n := 22) X 1 dX12_heardIn_21 rfl rfl rfl ?_
        refine g_iload_n (n := 23) X 2 dX12_heardIn_22 rfl rfl rfl ?_
        refine g_isubA (n := 24) X dX12_heardIn_23 rfl (fun v141 rv141 xv141 => ?_)
        clear xv141
        refine g_iconst (n := 25) X dX12_heardIn_24 rfl ?_
        refine g_isubA (n := 26) X dX12_heardIn_25 rfl (fun v142 rv142 xv142 => ?_)
        clear xv142
        refine g_icmp_gt (n := 29) (tgt := 74) X dX12_heardIn_26 (by decide) (by omega) (by omega) rfl (fun c143 => ?_) (fun c143 => ?_)
        · refine g_iload (n := 76) X 3 dX12_heardIn_74 rfl rfl ?_
          exact hq _ _ _ _ dX12_heardIn_76 ⟨rfl, by omega⟩
        · refine g_iload (n := 31) X 4 dX12_heardIn_29 rfl rfl ?_
          refine g_aload_n (n := 32) X 0 dX12_heardIn_31 rfl rfl rfl ?_
          refine gg_12_1 (n := 35) (z := 191) X (by decide) (gsz hsz (by decide)) lay_190 kw_6_27 dX12_heardIn_32 rfl (rf_190_1 I (gsz hsz (by decide))) (by decide) ?_
          refine g_iconst (n := 36) X dX12_heardIn_35 rfl ?_
          obtain ⟨v144, hv144, rv144⟩ := gRd I (by decide) (gsz hsz (by decide)) (rs_NOW (k := 0) (by omega)).1
          refine g_iald2 (n := 37) (v := v144) X (by decide) (gsz hsz (by decide)) lay_191 (by omega) (by omega) (by decide) dX12_heardIn_36 rfl hv144 ?_
          refine g_icmp_ge (n := 40) (tgt := 74) X dX12_heardIn_37 (by decide) (by omega) (by omega) rfl (fun c145 => ?_) (fun c145 => ?_)
          · refine g_iload (n := 76) X 3 dX12_heardIn_74 rfl rfl ?_
            exact hq _ _ _ _ dX12_heardIn_76 ⟨rfl, by omega⟩
          · refine g_iload (n := 42) X 3 dX12_heardIn_40 rfl rfl ?_
            refine g_aload_n (n := 43) X 0 dX12_heardIn_42 rfl rfl rfl ?_
            refine gg_12_1 (n := 46) (z := 191) X (by decide) (gsz hsz (by decide)) lay_190 kw_6_27 dX12_heardIn_43 rfl (rf_190_1 I (gsz hsz (by decide))) (by decide) ?_
            refine g_sipush (n := 49) X dX12_heardIn_46 (by decide +kernel) rfl ?_
            refine g_iload (n := 51) X 4 dX12_heardIn_49 rfl rfl ?_
            refine g_iadd (n := 52) (z := v5 + 3802) X dX12_heardIn_51 (by omega) rfl ?_
            obtain ⟨v146, hv146, rv146⟩ := gRd I (by decide) (gsz hsz (by decide)) (rs_G (k := v5 + 3802) (by omega)).1
            refine g_iald2 (n := 53) (v := v146) X (by decide) (gsz hsz (by decide)) lay_191 (by omega) (by omega) (by decide) dX12_heardIn_52 rfl hv146 ?_
            refine g_aload_n (n := 54) X 0 dX12_heardIn_53 rfl rfl rfl ?_
            refine gg_12_1 (n := 57) (z := 191) X (by decide) (gsz hsz (by decide)) lay_190 kw_6_27 dX12_heardIn_54 rfl (rf_190_1 I (gsz hsz (by decide))) (by decide) ?_
            refine g_sipush (n := 60) X dX12_heardIn_57 (by decide +kernel) rfl ?_
            refine g_iload (n := 62) X 4 dX12_heardIn_60 rfl rfl ?_
            refine g_iadd (n := 63) (z := v5 + 4103) X dX12_heardIn_62 (by omega) rfl ?_
            obtain ⟨v147, hv147, rv147⟩ := gRd I (by decide) (gsz hsz (by decide)) (rs_G (k := v5 + 4103) (by omega)).1
            refine g_iald2 (n := 64) (v := v147) X (by decide) (gsz hsz (by decide)) lay_191 (by omega) (by omega) (by decide) dX12_heardIn_63 rfl hv147 ?_
            refine g_iaddA (n := 65) X dX12_heardIn_64 rfl (fun v148 rv148 xv148 => ?_)
            clear xv148
            refine g_iaddA (n := 66) X dX12_heardIn_65 rfl (fun v149 rv149 xv149 => ?_)
            clear xv149
            refine g_istore (n := 68) (L' := [(4, gJ v149), (0, gA n0 190), (2, gJ b), (3, gJ v1), (5, gJ v5)]) X dX12_heardIn_66 (by decide) rfl rfl ?_
            refine g_iinc (n := 71) (w := v5 + 1) (L' := [(5, gJ (v5 + 1)), (4, gJ v149), (0, gA n0 190), (2, gJ b), (3, gJ v1)]) X 4 dX12_heardIn_68 rfl rfl (by decide) rfl rfl ?_
            refine g_goto (tgt := 13) X dX12_heardIn_71 (by decide) ?_
            refine G.sub (L' := [(0, gA n0 190), (2, gJ b), (3, gJ v1), (4, gJ v149), (5, gJ (v5 + 1))]) [2, 3, 4, 1, 0] rfl ?_
            exact ih138 v149 (v5 + 1) (by omega) (by omega) (by omega)
  refine G.sub (L' := [(0, gA n0 190), (2, gJ b), (3, gJ v1), (4, gJ 0), (5, gJ 0)]) [3, 5, 2, 1, 0] rfl ?_
  exact j7 _ 0 0 (by omega) (by omega) (Nat.lt_succ_self _)
theorem dX12_heard_0 : decode cX12_heard 0 = .ok (.iload_n 1, 1) := dc_27 (by decide +kernel)
theorem dX12_heard_1 : decode cX12_heard 1 = .ok (.invokestatic 68, 3) := dc_184 0 68 (by decide +kernel)
theorem dX12_heard_4 : decode cX12_heard 4 = .ok (.ifCond .ne 7, 3) := dc_154 0 7 7 (by decide +kernel)
theorem dX12_heard_11 : decode cX12_heard 11 = .ok (.iload_n 2, 1) := dc_28 (by decide +kernel)
theorem dX12_heard_12 : decode cX12_heard 12 = .ok (.invokestatic 220, 3) := dc_184 0 220 (by decide +kernel)
theorem dX12_heard_15 : decode cX12_heard 15 = .ok (.ifCond .eq 12, 3) := dc_153 0 12 12 (by decide +kernel)
theorem dX12_heard_27 : decode cX12_heard 27 = .ok (.bipush (-2), 2) := dc_16 254 (-2) (by decide +kernel)
theorem dX12_heard_29 : decode cX12_heard 29 = .ok (.ireturn, 1) := dc_172 (by decide +kernel)
theorem dX12_heard_18 : decode cX12_heard 18 = .ok (.aload_n 0, 1) := dc_42 (by decide +kernel)
theorem dX12_heard_19 : decode cX12_heard 19 = .ok (.iload_n 1, 1) := dc_27 (by decide +kernel)
theorem dX12_heard_20 : decode cX12_heard 20 = .ok (.iload_n 2, 1) := dc_28 (by decide +kernel)
theorem dX12_heard_21 : decode cX12_heard 21 = .ok (.invokevirtual 254, 3) := dc_182 0 254 (by decide +kernel)
theorem kw_7_134 : (Jvm.Cond.methodLink "ParishUnionModel" (254 : Nat) ({ cls := "ParishUnionModel", name := "heardIn", desc := "(II)I" } : Jvm.MethodName)) ∈ gT := gT_of (tb_7 _ (List.mem_of_getElem? (i := 134) rfl)) rfl
theorem kw_7_137 : (Jvm.Cond.code ({ cls := "ParishUnionModel", name := "heardIn", desc := "(II)I" } : Jvm.MethodName) prog_14_method_70_code (6 : Nat) (Option.some Jvm.ClassFile.FieldType.int)) ∈ gT := gT_of (tb_7 _ (List.mem_of_getElem? (i := 137) rfl)) rfl
theorem okX12_heardIn : gQok yX12_heardIn cX12_heardIn 6 (Option.some Jvm.ClassFile.FieldType.int) 2 := ⟨kw_7_137, kw_1_13, by decide +kernel, by decide +kernel, by decide +kernel⟩
theorem kw_7_136 : (Jvm.Cond.instanceMethod ({ cls := "ParishUnionModel", name := "heardIn", desc := "(II)I" } : Jvm.MethodName)) ∈ gT := gT_of (tb_7 _ (List.mem_of_getElem? (i := 136) rfl)) rfl
theorem kw_0_75 : (Jvm.Cond.selects "ParishUnionModel" ({ cls := "ParishUnionModel", name := "heardIn", desc := "(II)I" } : Jvm.MethodName) ({ cls := "ParishUnionModel", name := "heardIn", desc := "(II)I" } : Jvm.MethodName)) ∈ gT := gT_of (tb_0 _ (List.mem_of_getElem? (i := 75) rfl)) rfl
theorem dX12_heard_24 : decode cX12_heard 24 = .ok (.goto 5, 3) := dc_167 0 5 5 (by decide +kernel)
theorem dX12_heard_7 : decode cX12_heard 7 = .ok (.iconst (-1), 1) := dc_2 (by decide +kernel)
theorem dX12_heard_8 : decode cX12_heard 8 = .ok (.goto 21, 3) := dc_167 0 21 21 (by decide +kernel)
abbrev R_X12_heard : Room := { frames := 2, cells := 0, slots := 0, locals := 47 }
set_option maxRecDepth 100000 in
set_option maxHeartbeats 4000000 in
theorem s_X12_heard {l : Launch} {n0 : Nat} {D : va_G} {cA : Nat → ClassId} {M : gM} (a : Int) (r_a : -2147483648 ≤ a ∧ a ≤ 2147483647) (b : Int) (r_b : -2147483648 ≤ b ∧ b ≤ 2147483647) {sz : Nat} (hsz : 206 ≤ sz) (I : gI sz M) (C : gC sz M)   : Met l yX12_heard (gWsOf yX12_heard cX12_heard 3 (Option.some Jvm.ClassFile.FieldType.int)) R_X12_heard (gPc n0 D cA [gA n0 190, gJ a, gJ b] M sz) (gQi n0 D cA sz (fun z M1 => M = M1 ∧ (-2147483648 ≤ z ∧ z ≤ 2147483647))) 0 0 (fun q => n0 ≤ q) := by
  refine gMetI [gA n0 190, gJ a, gJ b] (by decide) (Nat.le_of_ble_eq_true rfl) ⟨rfl, rfl⟩ ?_
  intro p e s m args below meth cd Q X hq
  have X : gCx p s m args meth cd n0 D cA "ParishUnionModel" cX12_heard 3 := X
  show G p l e R_X12_heard s m args below meth cd n0 D cA 3 Q 0 0 M sz 0 [(0, gA n0 190), (1, gJ a), (2, gJ b)] []
  refine g_iload_n (n := 1) X 1 dX12_heard_0 rfl rfl rfl ?_
  refine g_callSi (n := 4) (As := [gJ a]) (rest := []) (cs1 := 0) (ss1 := 0) X (s_X12_isParish a (by omega) hsz I C ) okX12_isParish kw_6_103 kw_6_104 ⟨rfl, rfl⟩ ⟨Nat.le_of_ble_eq_true rfl, Nat.le_of_ble_eq_true rfl⟩ rfl rfl (Nat.le_of_ble_eq_true rfl) ⟨Nat.le_of_ble_eq_true rfl, Nat.le_of_ble_eq_true rfl⟩ rfl rfl dX12_heard_1 rfl (fun v1 M2 P3 => ?_)
  obtain ⟨rfl, rv1, xv1⟩ := P3
  refine g_if_ne (n := 7) (tgt := 11) X dX12_heard_4 (by decide) (by omega) rfl (fun c4 => ?_) (fun c4 => ?_)
  · refine g_iload_n (n := 12) X 2 dX12_heard_11 rfl rfl rfl ?_
    refine g_callSi (n := 15) (As := [gJ b]) (rest := []) (cs1 := 0) (ss1 := 0) X (s_X12_isWeek b (by omega) hsz I C ) okX12_isWeek kw_6_236 kw_6_237 ⟨rfl, rfl⟩ ⟨Nat.le_of_ble_eq_true rfl, Nat.le_of_ble_eq_true rfl⟩ rfl rfl (Nat.le_of_ble_eq_true rfl) ⟨Nat.le_of_ble_eq_true rfl, Nat.le_of_ble_eq_true rfl⟩ rfl rfl dX12_heard_12 rfl (fun v5 M6 P7 => ?_)
    obtain ⟨rfl, rv5, xv5⟩ := P7
    refine g_if_eq (n := 18) (tgt := 27) X dX12_heard_15 (by decide) (by omega) rfl (fun c8 => ?_) (fun c8 => ?_)
    · refine g_bipush (n := 29) X dX12_heard_27 (by decide +kernel) rfl ?_
      exact hq _ _ _ _ dX12_heard_29 ⟨rfl, by omega⟩
    · refine g_aload_n (n := 19) X 0 dX12_heard_18 rfl rfl rfl ?_
      refine g_iload_n (n := 20) X 1 dX12_heard_19 rfl rfl rfl ?_
      refine g_iload_n (n := 21) X 2 dX12_heard_20 rfl rfl rfl ?_
      refine g_callVi (n := 24) (As := [gJ a, gJ b]) (rest := []) (cs1 := 0) (ss1 := 0) X (s_X12_heardIn a (by omega) b (by omega) hsz I C ) okX12_heardIn kw_7_134 ⟨kw_7_136, kw_0_75⟩ ⟨rfl, rfl⟩ ⟨Nat.le_of_ble_eq_true rfl, Nat.le_of_ble_eq_true rfl⟩ rfl (by decide) (gsz hsz (by decide)) lay_190 rfl rfl (Nat.le_of_ble_eq_true rfl) ⟨Nat.le_of_ble_eq_true rfl, Nat.le_of_ble_eq_true rfl⟩ rfl rfl dX12_heard_21 rfl (fun v9 M10 P11 => ?_)
      obtain ⟨rfl, rv9⟩ := P11
      refine g_goto (tgt := 29) X dX12_heard_24 (by decide) ?_
      exact hq _ _ _ _ dX12_heard_29 ⟨rfl, by omega⟩
  · refine g_iconst (n := 8) X dX12_heard_7 rfl ?_
    refine g_goto (tgt := 29) X dX12_heard_8 (by decide) ?_
    exact hq _ _ _ _ dX12_heard_29 ⟨rfl, by omega⟩
theorem dX12_costOf_0 : decode cX12_costOf 0 = .ok (.aload_n 0, 1) := dc_42 (by decide +kernel)
theorem dX12_costOf_1 : decode cX12_costOf 1 = .ok (.getfield 7, 3) := dc_180 0 7 (by decide +kernel)
theorem dX12_costOf_4 : decode cX12_costOf 4 = .ok (.sipush 3200, 3) := dc_17 12 128 3200 (by decide +kernel)
theorem dX12_costOf_7 : decode cX12_costOf 7 = .ok (.iload_n 1, 1) := dc_27 (by decide +kernel)
theorem dX12_costOf_8 : decode cX12_costOf 8 = .ok (.iadd, 1) := dc_96 (by decide +kernel)
theorem dX12_costOf_9 : decode cX12_costOf 9 = .ok (.iaload, 1) := dc_46 (by decide +kernel)
theorem dX12_costOf_10 : decode cX12_costOf 10 = .ok (.aload_n 0, 1) := dc_42 (by decide +kernel)
theorem dX12_costOf_11 : decode cX12_costOf 11 = .ok (.getfield 7, 3) := dc_180 0 7 (by decide +kernel)
theorem dX12_costOf_14 : decode cX12_costOf 14 = .ok (.bipush 9, 2) := dc_16 9 9 (by decide +kernel)
theorem dX12_costOf_16 : decode cX12_costOf 16 = .ok (.iaload, 1) := dc_46 (by decide +kernel)
theorem dX12_costOf_17 : decode cX12_costOf 17 = .ok (.imul, 1) := dc_104 (by decide +kernel)
theorem dX12_costOf_18 : decode cX12_costOf 18 = .ok (.aload_n 0, 1) := dc_42 (by decide +kernel)
theorem dX12_costOf_19 : decode cX12_costOf 19 = .ok (.getfield 7, 3) := dc_180 0 7 (by decide +kernel)
theorem dX12_costOf_22 : decode cX12_costOf 22 = .ok (.sipush 3501, 3) := dc_17 13 173 3501 (by decide +kernel)
theorem dX12_costOf_25 : decode cX12_costOf 25 = .ok (.iload_n 1, 1) := dc_27 (by decide +kernel)
theorem dX12_costOf_26 : decode cX12_costOf 26 = .ok (.iadd, 1) := dc_96 (by decide +kernel)
theorem dX12_costOf_27 : decode cX12_costOf 27 = .ok (.iaload, 1) := dc_46 (by decide +kernel)
theorem dX12_costOf_28 : decode cX12_costOf 28 = .ok (.iadd, 1) := dc_96 (by decide +kernel)
theorem dX12_costOf_29 : decode cX12_costOf 29 = .ok (.ireturn, 1) := dc_172 (by decide +kernel)
abbrev R_X12_costOf : Room := { frames := 0, cells := 0, slots := 0, locals := 0 }
set_option maxRecDepth 100000 in
set_option maxHeartbeats 4000000 in
theorem s_X12_costOf {l : Launch} {n0 : Nat} {D : va_G} {cA : Nat → ClassId} {M : gM} (a : Int) (r_a : 0 ≤ a ∧ a ≤ 300) {sz : Nat} (hsz : 206 ≤ sz) (I : gI sz M) (C : gC sz M)   : Met l yX12_costOf (gWsOf yX12_costOf cX12_costOf 2 (Option.some Jvm.ClassFile.FieldType.int)) R_X12_costOf (gPc n0 D cA [gA n0 190, gJ a] M sz) (gQi n0 D cA sz (fun z M1 => M = M1 ∧ (-2147483648 ≤ z ∧ z ≤ 2147483647))) 0 0 (fun q => n0 ≤ q) := by
  refine gMetI [gA n0 190, gJ a] (by decide) (Nat.le_of_ble_eq_true rfl) ⟨rfl, rfl⟩ ?_
  intro p e s m args below meth cd Q X hq
  have X : gCx p s m args meth cd n0 D cA "ParishUnionModel" cX12_costOf 2 := X
  show G p l e R_X12_costOf s m args below meth cd n0 D cA 2 Q 0 0 M sz 0 [(0, gA n0 190), (1, gJ a)] []
  refine g_aload_n (n := 1) X 0 dX12_costOf_0 rfl rfl rfl ?_
  refine gg_12_1 (n := 4) (z := 191) X (by decide) (gsz hsz (by decide)) lay_190 kw_6_27 dX12_costOf_1 rfl (rf_190_1 I (gsz hsz (by decide))) (by decide) ?_
  refine g_sipush (n := 7) X dX12_costOf_4 (by decide +kernel) rfl ?_
  refine g_iload_n (n := 8) X 1 dX12_costOf_7 rfl rfl rfl ?_
  refine g_iadd (n := 9) (z := a + 3200) X dX12_costOf_8 (by omega) rfl ?_
  obtain ⟨v1, hv1, rv1⟩ := gRd I (by decide) (gsz hsz (by decide)) (rs_G (k := a + 3200) (by omega)).1
  refine g_iald2 (n := 10) (v := v1) X (by decide) (gsz hsz (by decide)) lay_191 (by omega) (by omega) (by decide) dX12_costOf_9 rfl hv1 ?_
  refine g_aload_n (n := 11) X 0 dX12_costOf_10 rfl rfl rfl ?_
  refine gg_12_1 (n := 14) (z := 191) X (by decide) (gsz hsz (by decide)) lay_190 kw_6_27 dX12_costOf_11 rfl (rf_190_1 I (gsz hsz (by decide))) (by decide) ?_
  refine g_bipush (n := 16) X dX12_costOf_14 (by decide +kernel) rfl ?_
  obtain ⟨v2, hv2, rv2⟩ := gRd I (by decide) (gsz hsz (by decide)) (rs_PRICE (k := 9) (by omega)).1
  refine g_iald2 (n := 17) (v := v2) X (by decide) (gsz hsz (by decide)) lay_191 (by omega) (by omega) (by decide) dX12_costOf_16 rfl hv2 ?_
  refine g_imulA (n := 18) X dX12_costOf_17 rfl (fun v3 rv3 xv3 => ?_)
  clear xv3
  refine g_aload_n (n := 19) X 0 dX12_costOf_18 rfl rfl rfl ?_
  refine gg_12_1 (n := 22) (z := 191) X (by decide) (gsz hsz (by decide)) lay_190 kw_6_27 dX12_costOf_19 rfl (rf_190_1 I (gsz hsz (by decide))) (by decide) ?_
  refine g_sipush (n := 25) X dX12_costOf_22 (by decide +kernel) rfl ?_
  refine g_iload_n (n := 26) X 1 dX12_costOf_25 rfl rfl rfl ?_
  refine g_iadd (n := 27) (z := a + 3501) X dX12_costOf_26 (by omega) rfl ?_
  obtain ⟨v4, hv4, rv4⟩ := gRd I (by decide) (gsz hsz (by decide)) (rs_G (k := a + 3501) (by omega)).1
  refine g_iald2 (n := 28) (v := v4) X (by decide) (gsz hsz (by decide)) lay_191 (by omega) (by omega) (by decide) dX12_costOf_27 rfl hv4 ?_
  refine g_iaddA (n := 29) X dX12_costOf_28 rfl (fun v5 rv5 xv5 => ?_)
  clear xv5
  exact hq _ _ _ _ dX12_costOf_29 ⟨rfl, by omega⟩
theorem dX12_gone_0 : decode cX12_gone 0 = .ok (.aload_n 0, 1) := dc_42 (by decide +kernel)
theorem dX12_gone_1 : decode cX12_gone 1 = .ok (.iload_n 1, 1) := dc_27 (by decide +kernel)
theorem dX12_gone_2 : decode cX12_gone 2 = .ok (.invokevirtual 275, 3) := dc_182 1 19 (by decide +kernel)
theorem kw_7_170 : (Jvm.Cond.methodLink "ParishUnionModel" (275 : Nat) ({ cls := "ParishUnionModel", name := "isGone", desc := "(I)Z" } : Jvm.MethodName)) ∈ gT := gT_of (tb_7 _ (List.mem_of_getElem? (i := 170) rfl)) rfl
theorem kw_7_173 : (Jvm.Cond.code ({ cls := "ParishUnionModel", name := "isGone", desc := "(I)Z" } : Jvm.MethodName) prog_14_method_7_code (2 : Nat) (Option.some Jvm.ClassFile.FieldType.boolean)) ∈ gT := gT_of (tb_7 _ (List.mem_of_getElem? (i := 173) rfl)) rfl
theorem okX12_isGone : gQok yX12_isGone cX12_isGone 2 (Option.some Jvm.ClassFile.FieldType.boolean) 1 := ⟨kw_7_173, kw_1_13, by decide +kernel, by decide +kernel, by decide +kernel⟩
theorem kw_7_172 : (Jvm.Cond.instanceMethod ({ cls := "ParishUnionModel", name := "isGone", desc := "(I)Z" } : Jvm.MethodName)) ∈ gT := gT_of (tb_7 _ (List.mem_of_getElem? (i := 172) rfl)) rfl
theorem kw_0_82 : (Jvm.Cond.selects "ParishUnionModel" ({ cls := "ParishUnionModel", name := "isGone", desc := "(I)Z" } : Jvm.MethodName) ({ cls := "ParishUnionModel", name := "isGone", desc := "(I)Z" } : Jvm.MethodName)) ∈ gT := gT_of (tb_0 _ (List.mem_of_getElem? (i := 82) rfl)) rfl
theorem dX12_gone_5 : decode cX12_gone 5 = .ok (.ifCond .eq 13, 3) := dc_153 0 13 13 (by decide +kernel)
theorem dX12_gone_18 : decode cX12_gone 18 = .ok (.iconst (-1), 1) := dc_2 (by decide +kernel)
theorem dX12_gone_19 : decode cX12_gone 19 = .ok (.ireturn, 1) := dc_172 (by decide +kernel)
theorem dX12_gone_8 : decode cX12_gone 8 = .ok (.iload_n 2, 1) := dc_28 (by decide +kernel)
theorem dX12_gone_9 : decode cX12_gone 9 = .ok (.iconst 0, 1) := dc_3 (by decide +kernel)
theorem dX12_gone_10 : decode cX12_gone 10 = .ok (.bipush 6, 2) := dc_16 6 6 (by decide +kernel)
theorem dX12_gone_12 : decode cX12_gone 12 = .ok (.invokestatic 64, 3) := dc_184 0 64 (by decide +kernel)
theorem dX12_gone_15 : decode cX12_gone 15 = .ok (.ifCond .ne 5, 3) := dc_154 0 5 5 (by decide +kernel)
theorem dX12_gone_20 : decode cX12_gone 20 = .ok (.iload_n 2, 1) := dc_28 (by decide +kernel)
theorem dX12_gone_21 : decode cX12_gone 21 = .ok (.bipush 6, 2) := dc_16 6 6 (by decide +kernel)
theorem dX12_gone_23 : decode cX12_gone 23 = .ok (.if_icmp .ne 11, 3) := dc_160 0 11 11 (by decide +kernel)
theorem dX12_gone_34 : decode cX12_gone 34 = .ok (.aload_n 0, 1) := dc_42 (by decide +kernel)
theorem dX12_gone_35 : decode cX12_gone 35 = .ok (.getfield 7, 3) := dc_180 0 7 (by decide +kernel)
theorem dX12_gone_38 : decode cX12_gone 38 = .ok (.sipush 3200, 3) := dc_17 12 128 3200 (by decide +kernel)
theorem dX12_gone_41 : decode cX12_gone 41 = .ok (.sipush 301, 3) := dc_17 1 45 301 (by decide +kernel)
theorem dX12_gone_44 : decode cX12_gone 44 = .ok (.iload_n 2, 1) := dc_28 (by decide +kernel)
theorem dX12_gone_45 : decode cX12_gone 45 = .ok (.imul, 1) := dc_104 (by decide +kernel)
theorem dX12_gone_46 : decode cX12_gone 46 = .ok (.iadd, 1) := dc_96 (by decide +kernel)
theorem dX12_gone_47 : decode cX12_gone 47 = .ok (.iload_n 1, 1) := dc_27 (by decide +kernel)
theorem dX12_gone_48 : decode cX12_gone 48 = .ok (.iadd, 1) := dc_96 (by decide +kernel)
theorem dX12_gone_49 : decode cX12_gone 49 = .ok (.iaload, 1) := dc_46 (by decide +kernel)
theorem dX12_gone_50 : decode cX12_gone 50 = .ok (.ireturn, 1) := dc_172 (by decide +kernel)
theorem dX12_gone_26 : decode cX12_gone 26 = .ok (.aload_n 0, 1) := dc_42 (by decide +kernel)
theorem dX12_gone_27 : decode cX12_gone 27 = .ok (.iload_n 1, 1) := dc_27 (by decide +kernel)
theorem dX12_gone_28 : decode cX12_gone 28 = .ok (.invokevirtual 278, 3) := dc_182 1 22 (by decide +kernel)
theorem kw_7_174 : (Jvm.Cond.methodLink "ParishUnionModel" (278 : Nat) ({ cls := "ParishUnionModel", name := "costOf", desc := "(I)I" } : Jvm.MethodName)) ∈ gT := gT_of (tb_7 _ (List.mem_of_getElem? (i := 174) rfl)) rfl
theorem kw_7_177 : (Jvm.Cond.code ({ cls := "ParishUnionModel", name := "costOf", desc := "(I)I" } : Jvm.MethodName) prog_14_method_79_code (2 : Nat) (Option.some Jvm.ClassFile.FieldType.int)) ∈ gT := gT_of (tb_7 _ (List.mem_of_getElem? (i := 177) rfl)) rfl
theorem okX12_costOf : gQok yX12_costOf cX12_costOf 2 (Option.some Jvm.ClassFile.FieldType.int) 1 := ⟨kw_7_177, kw_1_13, by decide +kernel, by decide +kernel, by decide +kernel⟩
theorem kw_7_176 : (Jvm.Cond.instanceMethod ({ cls := "ParishUnionModel", name := "costOf", desc := "(I)I" } : Jvm.MethodName)) ∈ gT := gT_of (tb_7 _ (List.mem_of_getElem? (i := 176) rfl)) rfl
theorem kw_0_83 : (Jvm.Cond.selects "ParishUnionModel" ({ cls := "ParishUnionModel", name := "costOf", desc := "(I)I" } : Jvm.MethodName) ({ cls := "ParishUnionModel", name := "costOf", desc := "(I)I" } : Jvm.MethodName)) ∈ gT := gT_of (tb_0 _ (List.mem_of_getElem? (i := 83) rfl)) rfl
theorem dX12_gone_31 : decode cX12_gone 31 = .ok (.goto 19, 3) := dc_167 0 19 19 (by decide +kernel)
abbrev R_X12_gone : Room := { frames := 2, cells := 0, slots := 0, locals := 43 }
set_option maxRecDepth 100000 in
set_option maxHeartbeats 4000000 in
theorem s_X12_gone {l : Launch} {n0 : Nat} {D : va_G} {cA : Nat → ClassId} {M : gM} (a : Int) (r_a : -2147483648 ≤ a ∧ a ≤ 2147483647) (b : Int) (r_b : -2147483648 ≤ b ∧ b ≤ 2147483647) {sz : Nat} (hsz : 206 ≤ sz) (I : gI sz M) (C : gC sz M)   : Met l yX12_gone (gWsOf yX12_gone cX12_gone 3 (Option.some Jvm.ClassFile.FieldType.int)) R_X12_gone (gPc n0 D cA [gA n0 190, gJ a, gJ b] M sz) (gQi n0 D cA sz (fun z M1 => M = M1 ∧ (-2147483648 ≤ z ∧ z ≤ 2147483647))) 0 0 (fun q => n0 ≤ q) := by
  refine gMetI [gA n0 190, gJ a, gJ b] (by decide) (Nat.le_of_ble_eq_true rfl) ⟨rfl, rfl⟩ ?_
  intro p e s m args below meth cd Q X hq
  have X : gCx p s m args meth cd n0 D cA "ParishUnionModel" cX12_gone 3 := X
  show G p l e R_X12_gone s m args below meth cd n0 D cA 3 Q 0 0 M sz 0 [(0, gA n0 190), (1, gJ a), (2, gJ b)] []
  refine g_aload_n (n := 1) X 0 dX12_gone_0 rfl rfl rfl ?_
  refine g_iload_n (n := 2) X 1 dX12_gone_1 rfl rfl rfl ?_
  refine g_callVi (n := 5) (As := [gJ a]) (rest := []) (cs1 := 0) (ss1 := 0) X (s_X12_isGone a (by omega) hsz I C ) okX12_isGone kw_7_170 ⟨kw_7_172, kw_0_82⟩ ⟨rfl, rfl⟩ ⟨Nat.le_of_ble_eq_true rfl, Nat.le_of_ble_eq_true rfl⟩ rfl (by decide) (gsz hsz (by decide)) lay_190 rfl rfl (Nat.le_of_ble_eq_true rfl) ⟨Nat.le_of_ble_eq_true rfl, Nat.le_of_ble_eq_true rfl⟩ rfl rfl dX12_gone_2 rfl (fun v1 M2 P3 => ?_)
  obtain ⟨rfl, rv1, xv1⟩ := P3
  refine g_if_eq (n := 8) (tgt := 18) X dX12_gone_5 (by decide) (by omega) rfl (fun c4 => ?_) (fun c4 => ?_)
  · refine g_iconst (n := 19) X dX12_gone_18 rfl ?_
    exact hq _ _ _ _ dX12_gone_19 ⟨rfl, by omega⟩
  · refine g_iload_n (n := 9) X 2 dX12_gone_8 rfl rfl rfl ?_
    refine g_iconst (n := 10) X dX12_gone_9 rfl ?_
    refine g_bipush (n := 12) X dX12_gone_10 (by decide +kernel) rfl ?_
    refine g_callSi (n := 15) (As := [gJ b, gJ 0, gJ 6]) (rest := []) (cs1 := 0) (ss1 := 0) X (s_X12_in b (by omega) 0 (by omega) 6 (by omega) hsz I C ) okX12_in kw_6_106 kw_6_107 ⟨rfl, rfl⟩ ⟨Nat.le_of_ble_eq_true rfl, Nat.le_of_ble_eq_true rfl⟩ rfl rfl (Nat.le_of_ble_eq_true rfl) ⟨Nat.le_of_ble_eq_true rfl, Nat.le_of_ble_eq_true rfl⟩ rfl rfl dX12_gone_12 rfl (fun v5 M6 P7 => ?_)
    obtain ⟨rfl, rv5, xv5⟩ := P7
    refine g_if_ne (n := 18) (tgt := 20) X dX12_gone_15 (by decide) (by omega) rfl (fun c8 => ?_) (fun c8 => ?_)
    · refine g_iload_n (n := 21) X 2 dX12_gone_20 rfl rfl rfl ?_
      refine g_bipush (n := 23) X dX12_gone_21 (by decide +kernel) rfl ?_
      refine g_icmp_ne (n := 26) (tgt := 34) X dX12_gone_23 (by decide) (by omega) (by omega) rfl (fun c9 => ?_) (fun c9 => ?_)
      · refine g_aload_n (n := 35) X 0 dX12_gone_34 rfl rfl rfl ?_
        refine gg_12_1 (n := 38) (z := 191) X (by decide) (gsz hsz (by decide)) lay_190 kw_6_27 dX12_gone_35 rfl (rf_190_1 I (gsz hsz (by decide))) (by decide) ?_
        refine g_sipush (n := 41) X dX12_gone_38 (by decide +kernel) rfl ?_
        refine g_sipush (n := 44) X dX12_gone_41 (by decide +kernel) rfl ?_
        refine g_iload_n (n := 45) X 2 dX12_gone_44 rfl rfl rfl ?_
        refine g_imul (n := 46) (z := 301 * b) X dX12_gone_45 rfl rfl ?_
        refine g_iadd (n := 47) (z := 3200 + (301 * b)) X dX12_gone_46 rfl rfl ?_
        refine g_iload_n (n := 48) X 1 dX12_gone_47 rfl rfl rfl ?_
        refine g_iadd (n := 49) (z := (3200 + (301 * b)) + a) X dX12_gone_48 rfl rfl ?_
        obtain ⟨v10, hv10, rv10⟩ := gRd I (by decide) (gsz hsz (by decide)) (rs_G (k := (3200 + (301 * b)) + a) (by omega)).1
        refine g_iald2 (n := 50) (v := v10) X (by decide) (gsz hsz (by decide)) lay_191 (by omega) (by omega) (by decide) dX12_gone_49 rfl hv10 ?_
        exact hq _ _ _ _ dX12_gone_50 ⟨rfl, by omega⟩
      · refine g_aload_n (n := 27) X 0 dX12_gone_26 rfl rfl rfl ?_
        refine g_iload_n (n := 28) X 1 dX12_gone_27 rfl rfl rfl ?_
        refine g_callVi (n := 31) (As := [gJ a]) (rest := []) (cs1 := 0) (ss1 := 0) X (s_X12_costOf a (by omega) hsz I C ) okX12_costOf kw_7_174 ⟨kw_7_176, kw_0_83⟩ ⟨rfl, rfl⟩ ⟨Nat.le_of_ble_eq_true rfl, Nat.le_of_ble_eq_true rfl⟩ rfl (by decide) (gsz hsz (by decide)) lay_190 rfl rfl (Nat.le_of_ble_eq_true rfl) ⟨Nat.le_of_ble_eq_true rfl, Nat.le_of_ble_eq_true rfl⟩ rfl rfl dX12_gone_28 rfl (fun v11 M12 P13 => ?_)
        obtain ⟨rfl, rv11⟩ := P13
        refine g_goto (tgt := 50) X dX12_gone_31 (by decide) ?_
        exact hq _ _ _ _ dX12_gone_50 ⟨rfl, by omega⟩
    · refine g_iconst (n := 19) X dX12_gone_18 rfl ?_
      exact hq _ _ _ _ dX12_gone_19 ⟨rfl, by omega⟩
theorem dX12_was_0 : decode cX12_was 0 = .ok (.aload_n 0, 1) := dc_42 (by decide +kernel)
theorem dX12_was_1 : decode cX12_was 1 = .ok (.iload_n 2, 1) := dc_28 (by decide +kernel)
theorem dX12_was_2 : decode cX12_was 2 = .ok (.invokevirtual 275, 3) := dc_182 1 19 (by decide +kernel)
theorem dX12_was_5 : decode cX12_was 5 = .ok (.ifCond .eq 32, 3) := dc_153 0 32 32 (by decide +kernel)
theorem dX12_was_37 : decode cX12_was 37 = .ok (.iconst (-1), 1) := dc_2 (by decide +kernel)
theorem dX12_was_38 : decode cX12_was 38 = .ok (.ireturn, 1) := dc_172 (by decide +kernel)
theorem dX12_was_8 : decode cX12_was 8 = .ok (.iload_n 1, 1) := dc_27 (by decide +kernel)
theorem dX12_was_9 : decode cX12_was 9 = .ok (.iconst 0, 1) := dc_3 (by decide +kernel)
theorem dX12_was_10 : decode cX12_was 10 = .ok (.aload_n 0, 1) := dc_42 (by decide +kernel)
theorem dX12_was_11 : decode cX12_was 11 = .ok (.getfield 7, 3) := dc_180 0 7 (by decide +kernel)
theorem dX12_was_14 : decode cX12_was 14 = .ok (.sipush 25000, 3) := dc_17 97 168 25000 (by decide +kernel)
theorem dX12_was_17 : decode cX12_was 17 = .ok (.iload_n 2, 1) := dc_28 (by decide +kernel)
theorem dX12_was_18 : decode cX12_was 18 = .ok (.iadd, 1) := dc_96 (by decide +kernel)
theorem dX12_was_19 : decode cX12_was 19 = .ok (.iaload, 1) := dc_46 (by decide +kernel)
theorem dX12_was_20 : decode cX12_was 20 = .ok (.iconst 1, 1) := dc_4 (by decide +kernel)
theorem dX12_was_21 : decode cX12_was 21 = .ok (.isub, 1) := dc_100 (by decide +kernel)
theorem dX12_was_22 : decode cX12_was 22 = .ok (.invokestatic 64, 3) := dc_184 0 64 (by decide +kernel)
theorem dX12_was_25 : decode cX12_was 25 = .ok (.ifCond .eq 12, 3) := dc_153 0 12 12 (by decide +kernel)
theorem dX12_was_28 : decode cX12_was 28 = .ok (.iload_n 3, 1) := dc_29 (by decide +kernel)
theorem dX12_was_29 : decode cX12_was 29 = .ok (.iconst 0, 1) := dc_3 (by decide +kernel)
theorem dX12_was_30 : decode cX12_was 30 = .ok (.iconst 3, 1) := dc_6 (by decide +kernel)
theorem dX12_was_31 : decode cX12_was 31 = .ok (.invokestatic 64, 3) := dc_184 0 64 (by decide +kernel)
theorem dX12_was_34 : decode cX12_was 34 = .ok (.ifCond .ne 5, 3) := dc_154 0 5 5 (by decide +kernel)
theorem dX12_was_39 : decode cX12_was 39 = .ok (.aload_n 0, 1) := dc_42 (by decide +kernel)
theorem dX12_was_40 : decode cX12_was 40 = .ok (.getfield 7, 3) := dc_180 0 7 (by decide +kernel)
theorem dX12_was_43 : decode cX12_was 43 = .ok (.sipush 5400, 3) := dc_17 21 24 5400 (by decide +kernel)
theorem dX12_was_46 : decode cX12_was 46 = .ok (.sipush 4816, 3) := dc_17 18 208 4816 (by decide +kernel)
theorem dX12_was_49 : decode cX12_was 49 = .ok (.iload_n 3, 1) := dc_29 (by decide +kernel)
theorem dX12_was_50 : decode cX12_was 50 = .ok (.imul, 1) := dc_104 (by decide +kernel)
theorem dX12_was_51 : decode cX12_was 51 = .ok (.iadd, 1) := dc_96 (by decide +kernel)
theorem dX12_was_52 : decode cX12_was 52 = .ok (.sipush 301, 3) := dc_17 1 45 301 (by decide +kernel)
theorem dX12_was_55 : decode cX12_was 55 = .ok (.iload_n 1, 1) := dc_27 (by decide +kernel)
theorem dX12_was_56 : decode cX12_was 56 = .ok (.imul, 1) := dc_104 (by decide +kernel)
theorem dX12_was_57 : decode cX12_was 57 = .ok (.iadd, 1) := dc_96 (by decide +kernel)
theorem dX12_was_58 : decode cX12_was 58 = .ok (.iload_n 2, 1) := dc_28 (by decide +kernel)
theorem dX12_was_59 : decode cX12_was 59 = .ok (.iadd, 1) := dc_96 (by decide +kernel)
theorem dX12_was_60 : decode cX12_was 60 = .ok (.iaload, 1) := dc_46 (by decide +kernel)
theorem dX12_was_61 : decode cX12_was 61 = .ok (.ireturn, 1) := dc_172 (by decide +kernel)
abbrev R_X12_was : Room := { frames := 2, cells := 0, slots := 0, locals := 43 }
set_option maxRecDepth 100000 in
set_option maxHeartbeats 4000000 in
theorem s_X12_was {l : Launch} {n0 : Nat} {D : va_G} {cA : Nat → ClassId} {M : gM} (a : Int) (r_a : -2147483648 ≤ a ∧ a ≤ 2147483647) (b : Int) (r_b : -2147483648 ≤ b ∧ b ≤ 2147483647) (c : Int) (r_c : -2147483648 ≤ c ∧ c ≤ 2147483647) {sz : Nat} (hsz : 206 ≤ sz) (I : gI sz M) (C : gC sz M)   : Met l yX12_was (gWsOf yX12_was cX12_was 4 (Option.some Jvm.ClassFile.FieldType.int)) R_X12_was (gPc n0 D cA [gA n0 190, gJ a, gJ b, gJ c] M sz) (gQi n0 D cA sz (fun z M1 => M = M1 ∧ (-2147483648 ≤ z ∧ z ≤ 2147483647))) 0 0 (fun q => n0 ≤ q) := by
  refine gMetI [gA n0 190, gJ a, gJ b, gJ c] (by decide) (Nat.le_of_ble_eq_true rfl) ⟨rfl, rfl⟩ ?_
  intro p e s m args below meth cd Q X hq
  have X : gCx p s m args meth cd n0 D cA "ParishUnionModel" cX12_was 4 := X
  show G p l e R_X12_was s m args below meth cd n0 D cA 4 Q 0 0 M sz 0 [(0, gA n0 190), (1, gJ a), (2, gJ b), (3, gJ c)] []
  refine g_aload_n (n := 1) X 0 dX12_was_0 rfl rfl rfl ?_
  refine g_iload_n (n := 2) X 2 dX12_was_1 rfl rfl rfl ?_
  refine g_callVi (n := 5) (As := [gJ b]) (rest := []) (cs1 := 0) (ss1 := 0) X (s_X12_isGone b (by omega) hsz I C ) okX12_isGone kw_7_170 ⟨kw_7_172, kw_0_82⟩ ⟨rfl, rfl⟩ ⟨Nat.le_of_ble_eq_true rfl, Nat.le_of_ble_eq_true rfl⟩ rfl (by decide) (gsz hsz (by decide)) lay_190 rfl rfl (Nat.le_of_ble_eq_true rfl) ⟨Nat.le_of_ble_eq_true rfl, Nat.le_of_ble_eq_true rfl⟩ rfl rfl dX12_was_2 rfl (fun v1 M2 P3 => ?_)
  obtain ⟨rfl, rv1, xv1⟩ := P3
  refine g_if_eq (n := 8) (tgt := 37) X dX12_was_5 (by decide) (by omega) rfl (fun c4 => ?_) (fun c4 => ?_)
  · refine g_iconst (n := 38) X dX12_was_37 rfl ?_
    exact hq _ _ _ _ dX12_was_38 ⟨rfl, by omega⟩
  · refine g_iload_n (n := 9) X 1 dX12_was_8 rfl rfl rfl ?_
    refine g_iconst (n := 10) X dX12_was_9 rfl ?_
    refine g_aload_n (n := 11) X 0 dX12_was_10 rfl rfl rfl ?_
    refine gg_12_1 (n := 14) (z := 191) X (by decide) (gsz hsz (by decide)) lay_190 kw_6_27 dX12_was_11 rfl (rf_190_1 I (gsz hsz (by decide))) (by decide) ?_
    refine g_sipush (n := 17) X dX12_was_14 (by decide +kernel) rfl ?_
    refine g_iload_n (n := 18) X 2 dX12_was_17 rfl rfl rfl ?_
    refine g_iadd (n := 19) (z := b + 25000) X dX12_was_18 (by omega) rfl ?_
    obtain ⟨v5, hv5, rv5⟩ := gRd I (by decide) (gsz hsz (by decide)) (rs_GPERS (k := b + 25000) (by omega)).1
    refine g_iald2 (n := 20) (v := v5) X (by decide) (gsz hsz (by decide)) lay_191 (by omega) (by omega) (by decide) dX12_was_19 rfl hv5 ?_
    refine g_iconst (n := 21) X dX12_was_20 rfl ?_
    refine g_isub (n := 22) (z := v5 - 1) X dX12_was_21 (by omega) rfl ?_
    refine g_callSi (n := 25) (As := [gJ a, gJ 0, gJ (v5 - 1)]) (rest := []) (cs1 := 0) (ss1 := 0) X (s_X12_in a (by omega) 0 (by omega) (v5 - 1) (by omega) hsz I C ) okX12_in kw_6_106 kw_6_107 ⟨rfl, rfl⟩ ⟨Nat.le_of_ble_eq_true rfl, Nat.le_of_ble_eq_true rfl⟩ rfl rfl (Nat.le_of_ble_eq_true rfl) ⟨Nat.le_of_ble_eq_true rfl, Nat.le_of_ble_eq_true rfl⟩ rfl rfl dX12_was_22 rfl (fun v6 M7 P8 => ?_)
    obtain ⟨rfl, rv6, xv6⟩ := P8
    refine g_if_eq (n := 28) (tgt := 37) X dX12_was_25 (by decide) (by omega) rfl (fun c9 => ?_) (fun c9 => ?_)
    · refine g_iconst (n := 38) X dX12_was_37 rfl ?_
      exact hq _ _ _ _ dX12_was_38 ⟨rfl, by omega⟩
    · refine g_iload_n (n := 29) X 3 dX12_was_28 rfl rfl rfl ?_
      refine g_iconst (n := 30) X dX12_was_29 rfl ?_
      refine g_iconst (n := 31) X dX12_was_30 rfl ?_
      refine g_callSi (n := 34) (As := [gJ c, gJ 0, gJ 3]) (rest := []) (cs1 := 0) (ss1 := 0) X (s_X12_in c (by omega) 0 (by omega) 3 (by omega) hsz I C ) okX12_in kw_6_106 kw_6_107 ⟨rfl, rfl⟩ ⟨Nat.le_of_ble_eq_true rfl, Nat.le_of_ble_eq_true rfl⟩ rfl rfl (Nat.le_of_ble_eq_true rfl) ⟨Nat.le_of_ble_eq_true rfl, Nat.le_of_ble_eq_true rfl⟩ rfl rfl dX12_was_31 rfl (fun v10 M11 P12 => ?_)
      obtain ⟨rfl, rv10, xv10⟩ := P12
      refine g_if_ne (n := 37) (tgt := 39) X dX12_was_34 (by decide) (by omega) rfl (fun c13 => ?_) (fun c13 => ?_)
      · refine g_aload_n (n := 40) X 0 dX12_was_39 rfl rfl rfl ?_
        refine gg_12_1 (n := 43) (z := 191) X (by decide) (gsz hsz (by decide)) lay_190 kw_6_27 dX12_was_40 rfl (rf_190_1 I (gsz hsz (by decide))) (by decide) ?_
        refine g_sipush (n := 46) X dX12_was_43 (by decide +kernel) rfl ?_
        refine g_sipush (n := 49) X dX12_was_46 (by decide +kernel) rfl ?_
        refine g_iload_n (n := 50) X 3 dX12_was_49 rfl rfl rfl ?_
        refine g_imul (n := 51) (z := 4816 * c) X dX12_was_50 rfl rfl ?_
        refine g_iadd (n := 52) (z := 5400 + (4816 * c)) X dX12_was_51 rfl rfl ?_
        refine g_sipush (n := 55) X dX12_was_52 (by decide +kernel) rfl ?_
        refine g_iload_n (n := 56) X 1 dX12_was_55 rfl rfl rfl ?_
        refine g_imul (n := 57) (z := 301 * a) X dX12_was_56 rfl rfl ?_
        refine g_iadd (n := 58) (z := (5400 + (4816 * c)) + (301 * a)) X dX12_was_57 rfl rfl ?_
        refine g_iload_n (n := 59) X 2 dX12_was_58 rfl rfl rfl ?_
        refine g_iadd (n := 60) (z := ((5400 + (4816 * c)) + (301 * a)) + b) X dX12_was_59 rfl rfl ?_
        obtain ⟨v14, hv14, rv14⟩ := gRd I (by decide) (gsz hsz (by decide)) (rs_W (k := ((5400 + (4816 * c)) + (301 * a)) + b) (by omega)).1
        refine g_iald2 (n := 61) (v := v14) X (by decide) (gsz hsz (by decide)) lay_191 (by omega) (by omega) (by decide) dX12_was_60 rfl hv14 ?_
        exact hq _ _ _ _ dX12_was_61 ⟨rfl, by omega⟩
      · refine g_iconst (n := 38) X dX12_was_37 rfl ?_
        exact hq _ _ _ _ dX12_was_38 ⟨rfl, by omega⟩
theorem dX12_house_0 : decode cX12_house 0 = .ok (.iload_n 1, 1) := dc_27 (by decide +kernel)
theorem dX12_house_1 : decode cX12_house 1 = .ok (.iconst 0, 1) := dc_3 (by decide +kernel)
theorem dX12_house_2 : decode cX12_house 2 = .ok (.iconst 4, 1) := dc_7 (by decide +kernel)
theorem dX12_house_3 : decode cX12_house 3 = .ok (.invokestatic 64, 3) := dc_184 0 64 (by decide +kernel)
theorem dX12_house_6 : decode cX12_house 6 = .ok (.ifCond .ne 5, 3) := dc_154 0 5 5 (by decide +kernel)
theorem dX12_house_11 : decode cX12_house 11 = .ok (.iload_n 2, 1) := dc_28 (by decide +kernel)
theorem dX12_house_12 : decode cX12_house 12 = .ok (.iconst 0, 1) := dc_3 (by decide +kernel)
theorem dX12_house_13 : decode cX12_house 13 = .ok (.iload_n 1, 1) := dc_27 (by decide +kernel)
theorem dX12_house_14 : decode cX12_house 14 = .ok (.iconst 4, 1) := dc_7 (by decide +kernel)
theorem dX12_house_15 : decode cX12_house 15 = .ok (.if_icmp .ne 9, 3) := dc_160 0 9 9 (by decide +kernel)
theorem dX12_house_24 : decode cX12_house 24 = .ok (.bipush 20, 2) := dc_16 20 20 (by decide +kernel)
theorem dX12_house_26 : decode cX12_house 26 = .ok (.invokestatic 64, 3) := dc_184 0 64 (by decide +kernel)
theorem dX12_house_29 : decode cX12_house 29 = .ok (.ifCond .ne 6, 3) := dc_154 0 6 6 (by decide +kernel)
theorem dX12_house_35 : decode cX12_house 35 = .ok (.iload_n 1, 1) := dc_27 (by decide +kernel)
theorem dX12_house_36 : decode cX12_house 36 = .ok (.iconst 4, 1) := dc_7 (by decide +kernel)
theorem dX12_house_37 : decode cX12_house 37 = .ok (.if_icmp .ne 8, 3) := dc_160 0 8 8 (by decide +kernel)
theorem dX12_house_45 : decode cX12_house 45 = .ok (.bipush 60, 2) := dc_16 60 60 (by decide +kernel)
theorem dX12_house_47 : decode cX12_house 47 = .ok (.iload_n 1, 1) := dc_27 (by decide +kernel)
theorem dX12_house_48 : decode cX12_house 48 = .ok (.iadd, 1) := dc_96 (by decide +kernel)
theorem dX12_house_49 : decode cX12_house 49 = .ok (.istore_n 3, 1) := dc_62 (by decide +kernel)
theorem dX12_house_50 : decode cX12_house 50 = .ok (.aload_n 0, 1) := dc_42 (by decide +kernel)
theorem dX12_house_51 : decode cX12_house 51 = .ok (.getfield 7, 3) := dc_180 0 7 (by decide +kernel)
theorem dX12_house_54 : decode cX12_house 54 = .ok (.iload_n 3, 1) := dc_29 (by decide +kernel)
theorem dX12_house_55 : decode cX12_house 55 = .ok (.iaload, 1) := dc_46 (by decide +kernel)
theorem dX12_house_56 : decode cX12_house 56 = .ok (.istore 4, 2) := dc_54 4 (by decide +kernel)
theorem dX12_house_58 : decode cX12_house 58 = .ok (.aload_n 0, 1) := dc_42 (by decide +kernel)
theorem dX12_house_59 : decode cX12_house 59 = .ok (.getfield 7, 3) := dc_180 0 7 (by decide +kernel)
theorem dX12_house_62 : decode cX12_house 62 = .ok (.iload_n 3, 1) := dc_29 (by decide +kernel)
theorem dX12_house_63 : decode cX12_house 63 = .ok (.iload_n 2, 1) := dc_28 (by decide +kernel)
theorem dX12_house_64 : decode cX12_house 64 = .ok (.iastore, 1) := dc_79 (by decide +kernel)
theorem dX12_house_65 : decode cX12_house 65 = .ok (.iload 4, 2) := dc_21 4 (by decide +kernel)
theorem dX12_house_67 : decode cX12_house 67 = .ok (.ireturn, 1) := dc_172 (by decide +kernel)
theorem dX12_house_32 : decode cX12_house 32 = .ok (.bipush (-2), 2) := dc_16 254 (-2) (by decide +kernel)
theorem dX12_house_34 : decode cX12_house 34 = .ok (.ireturn, 1) := dc_172 (by decide +kernel)
theorem dX12_house_18 : decode cX12_house 18 = .ok (.sipush 9999, 3) := dc_17 39 15 9999 (by decide +kernel)
theorem dX12_house_21 : decode cX12_house 21 = .ok (.goto 5, 3) := dc_167 0 5 5 (by decide +kernel)
theorem dX12_house_40 : decode cX12_house 40 = .ok (.bipush 8, 2) := dc_16 8 8 (by decide +kernel)
theorem dX12_house_42 : decode cX12_house 42 = .ok (.goto 7, 3) := dc_167 0 7 7 (by decide +kernel)
theorem dX12_house_9 : decode cX12_house 9 = .ok (.iconst (-1), 1) := dc_2 (by decide +kernel)
theorem dX12_house_10 : decode cX12_house 10 = .ok (.ireturn, 1) := dc_172 (by decide +kernel)
abbrev R_X12_house : Room := { frames := 1, cells := 0, slots := 0, locals := 22 }
set_option maxRecDepth 100000 in
set_option maxHeartbeats 4000000 in
theorem s_X12_house {l : Launch} {n0 : Nat} {D : va_G} {cA : Nat → ClassId} {M : gM} (a : Int) (r_a : -2147483648 ≤ a ∧ a ≤ 2147483647) (b : Int) (r_b : -2147483648 ≤ b ∧ b ≤ 2147483647) {sz : Nat} (hsz : 206 ≤ sz) (I : gI sz M) (C : gC sz M)   : Met l yX12_house (gWsOf yX12_house cX12_house 5 (Option.some Jvm.ClassFile.FieldType.int)) R_X12_house (gPc n0 D cA [gA n0 190, gJ a, gJ b] M sz) (gQi n0 D cA sz (fun z M1 => (-2147483648 ≤ z ∧ z ≤ 2147483647) ∧ gI sz M1 ∧ gC sz M1 ∧ gFr 145135534866432 M M1)) 0 0 (fun q => n0 ≤ q) := by
  refine gMetI [gA n0 190, gJ a, gJ b] (by decide) (Nat.le_of_ble_eq_true rfl) ⟨rfl, rfl⟩ ?_
  intro p e s m args below meth cd Q X hq
  have X : gCx p s m args meth cd n0 D cA "ParishUnionModel" cX12_house 5 := X
  show G p l e R_X12_house s m args below meth cd n0 D cA 5 Q 0 0 M sz 0 [(0, gA n0 190), (1, gJ a), (2, gJ b)] []
  refine g_iload_n (n := 1) X 1 dX12_house_0 rfl rfl rfl ?_
  refine g_iconst (n := 2) X dX12_house_1 rfl ?_
  refine g_iconst (n := 3) X dX12_house_2 rfl ?_
  refine g_callSi (n := 6) (As := [gJ a, gJ 0, gJ 4]) (rest := []) (cs1 := 0) (ss1 := 0) X (s_X12_in a (by omega) 0 (by omega) 4 (by omega) hsz I C ) okX12_in kw_6_106 kw_6_107 ⟨rfl, rfl⟩ ⟨Nat.le_of_ble_eq_true rfl, Nat.le_of_ble_eq_true rfl⟩ rfl rfl (Nat.le_of_ble_eq_true rfl) ⟨Nat.le_of_ble_eq_true rfl, Nat.le_of_ble_eq_true rfl⟩ rfl rfl dX12_house_3 rfl (fun v1 M2 P3 => ?_)
  obtain ⟨rfl, rv1, xv1⟩ := P3
  refine g_if_ne (n := 9) (tgt := 11) X dX12_house_6 (by decide) (by omega) rfl (fun c4 => ?_) (fun c4 => ?_)
  · refine g_iload_n (n := 12) X 2 dX12_house_11 rfl rfl rfl ?_
    refine g_iconst (n := 13) X dX12_house_12 rfl ?_
    refine g_iload_n (n := 14) X 1 dX12_house_13 rfl rfl rfl ?_
    refine g_iconst (n := 15) X dX12_house_14 rfl ?_
    refine g_icmp_ne (n := 18) (tgt := 24) X dX12_house_15 (by decide) (by omega) (by omega) rfl (fun c5 => ?_) (fun c5 => ?_)
    · refine g_bipush (n := 26) X dX12_house_24 (by decide +kernel) rfl ?_
      refine g_callSi (n := 29) (As := [gJ b, gJ 0, gJ 20]) (rest := []) (cs1 := 0) (ss1 := 0) X (s_X12_in b (by omega) 0 (by omega) 20 (by omega) hsz I C ) okX12_in kw_6_106 kw_6_107 ⟨rfl, rfl⟩ ⟨Nat.le_of_ble_eq_true rfl, Nat.le_of_ble_eq_true rfl⟩ rfl rfl (Nat.le_of_ble_eq_true rfl) ⟨Nat.le_of_ble_eq_true rfl, Nat.le_of_ble_eq_true rfl⟩ rfl rfl dX12_house_26 rfl (fun v6 M7 P8 => ?_)
      obtain ⟨rfl, rv6, xv6⟩ := P8
      refine g_if_ne (n := 32) (tgt := 35) X dX12_house_29 (by decide) (by omega) rfl (fun c9 => ?_) (fun c9 => ?_)
      · refine g_iload_n (n := 36) X 1 dX12_house_35 rfl rfl rfl ?_
        refine g_iconst (n := 37) X dX12_house_36 rfl ?_
        refine g_icmp_ne (n := 40) (tgt := 45) X dX12_house_37 (by decide) (by omega) (by omega) rfl (fun c10 => ?_) (fun c10 => by exfalso; omega)
        refine g_bipush (n := 47) X dX12_house_45 (by decide +kernel) rfl ?_
        refine g_iload_n (n := 48) X 1 dX12_house_47 rfl rfl rfl ?_
        refine g_iadd (n := 49) (z := a + 60) X dX12_house_48 (by omega) rfl ?_
        refine g_istore_n (n := 50) (L' := [(3, gJ (a + 60)), (0, gA n0 190), (1, gJ a), (2, gJ b)]) X dX12_house_49 rfl (by decide) rfl rfl ?_
        refine g_aload_n (n := 51) X 1 dX12_house_50 rfl rfl rfl ?_
        refine gg_12_1 (n := 54) (z := 191) X (by decide) (gsz hsz (by decide)) lay_190 kw_6_27 dX12_house_51 rfl (rf_190_1 I (gsz hsz (by decide))) (by decide) ?_
        refine g_iload_n (n := 55) X 0 dX12_house_54 rfl rfl rfl ?_
        obtain ⟨v11, hv11, rv11⟩ := gRd I (by decide) (gsz hsz (by decide)) (rs_BED (k := a + 60) (by omega)).1
        refine g_iald2 (n := 56) (v := v11) X (by decide) (gsz hsz (by decide)) lay_191 (by omega) (by omega) (by decide) dX12_house_55 rfl hv11 ?_
        refine g_istore (n := 58) (L' := [(4, gJ v11), (3, gJ (a + 60)), (0, gA n0 190), (1, gJ a), (2, gJ b)]) X dX12_house_56 (by decide) rfl rfl ?_
        refine g_aload_n (n := 59) X 2 dX12_house_58 rfl rfl rfl ?_
        refine gg_12_1 (n := 62) (z := 191) X (by decide) (gsz hsz (by decide)) lay_190 kw_6_27 dX12_house_59 rfl (rf_190_1 I (gsz hsz (by decide))) (by decide) ?_
        refine g_iload_n (n := 63) X 1 dX12_house_62 rfl rfl rfl ?_
        refine g_iload_n (n := 64) X 4 dX12_house_63 rfl rfl rfl ?_
        refine g_iast (n := 65) X (by decide) (gsz hsz (by decide)) lay_191 (by omega) (by omega) (by decide) dX12_house_64 rfl ?_
        refine G.nm (fun M12 e13 => ?_)
        have IM12 : gI sz M12 := gI.set I (rs_BED (k := a + 60) (by omega)).1 (by omega) e13
        have CM12 : gC sz M12 := gC.set C (rs_BED (k := a + 60) (by omega)).2.1 e13
        refine g_iload (n := 67) X 0 dX12_house_65 rfl rfl ?_
        exact hq _ _ _ _ dX12_house_67 ⟨by omega, IM12, CM12, (gFr.s gFr.rf e13 (rs_BED (k := a + 60) (by omega)).2.2 rfl)⟩
      · refine g_bipush (n := 34) X dX12_house_32 (by decide +kernel) rfl ?_
        exact hq _ _ _ _ dX12_house_34 ⟨by omega, I, C, gFr.rf⟩
    · refine g_sipush (n := 21) X dX12_house_18 (by decide +kernel) rfl ?_
      refine g_goto (tgt := 26) X dX12_house_21 (by decide) ?_
      refine g_callSi (n := 29) (As := [gJ b, gJ 0, gJ 9999]) (rest := []) (cs1 := 0) (ss1 := 0) X (s_X12_in b (by omega) 0 (by omega) 9999 (by omega) hsz I C ) okX12_in kw_6_106 kw_6_107 ⟨rfl, rfl⟩ ⟨Nat.le_of_ble_eq_true rfl, Nat.le_of_ble_eq_true rfl⟩ rfl rfl (Nat.le_of_ble_eq_true rfl) ⟨Nat.le_of_ble_eq_true rfl, Nat.le_of_ble_eq_true rfl⟩ rfl rfl dX12_house_26 rfl (fun v14 M15 P16 => ?_)
      obtain ⟨rfl, rv14, xv14⟩ := P16
      refine g_if_ne (n := 32) (tgt := 35) X dX12_house_29 (by decide) (by omega) rfl (fun c17 => ?_) (fun c17 => ?_)
      · refine g_iload_n (n := 36) X 1 dX12_house_35 rfl rfl rfl ?_
        refine g_iconst (n := 37) X dX12_house_36 rfl ?_
        refine g_icmp_ne (n := 40) (tgt := 45) X dX12_house_37 (by decide) (by omega) (by omega) rfl (fun c18 => by exfalso; omega) (fun c18 => ?_)
        refine g_bipush (n := 42) X dX12_house_40 (by decide +kernel) rfl ?_
        refine g_goto (tgt := 49) X dX12_house_42 (by decide) ?_
        refine g_istore_n (n := 50) (L' := [(3, gJ 8), (0, gA n0 190), (1, gJ a), (2, gJ b)]) X dX12_house_49 rfl (by decide) rfl rfl ?_
        refine g_aload_n (n := 51) X 1 dX12_house_50 rfl rfl rfl ?_
        refine gg_12_1 (n := 54) (z := 191) X (by decide) (gsz hsz (by decide)) lay_190 kw_6_27 dX12_house_51 rfl (rf_190_1 I (gsz hsz (by decide))) (by decide) ?_
        refine g_iload_n (n := 55) X 0 dX12_house_54 rfl rfl rfl ?_
        obtain ⟨v19, hv19, rv19⟩ := gRd I (by decide) (gsz hsz (by decide)) (rs_STORE (k := 8) (by omega)).1
        refine g_iald2 (n := 56) (v := v19) X (by decide) (gsz hsz (by decide)) lay_191 (by omega) (by omega) (by decide) dX12_house_55 rfl hv19 ?_
        refine g_istore (n := 58) (L' := [(4, gJ v19), (3, gJ 8), (0, gA n0 190), (1, gJ a), (2, gJ b)]) X dX12_house_56 (by decide) rfl rfl ?_
        refine g_aload_n (n := 59) X 2 dX12_house_58 rfl rfl rfl ?_
        refine gg_12_1 (n := 62) (z := 191) X (by decide) (gsz hsz (by decide)) lay_190 kw_6_27 dX12_house_59 rfl (rf_190_1 I (gsz hsz (by decide))) (by decide) ?_
        refine g_iload_n (n := 63) X 1 dX12_house_62 rfl rfl rfl ?_
        refine g_iload_n (n := 64) X 4 dX12_house_63 rfl rfl rfl ?_
        refine g_iast (n := 65) X (by decide) (gsz hsz (by decide)) lay_191 (by omega) (by omega) (by decide) dX12_house_64 rfl ?_
        refine G.nm (fun M20 e21 => ?_)
        have IM20 : gI sz M20 := gI.set I (rs_STORE (k := 8) (by omega)).1 (by omega) e21
        have CM20 : gC sz M20 := gC.set C (rs_STORE (k := 8) (by omega)).2.1 e21
        refine g_iload (n := 67) X 0 dX12_house_65 rfl rfl ?_
        exact hq _ _ _ _ dX12_house_67 ⟨by omega, IM20, CM20, (gFr.s gFr.rf e21 (rs_STORE (k := 8) (by omega)).2.2 rfl)⟩
      · refine g_bipush (n := 34) X dX12_house_32 (by decide +kernel) rfl ?_
        exact hq _ _ _ _ dX12_house_34 ⟨by omega, I, C, gFr.rf⟩
  · refine g_iconst (n := 10) X dX12_house_9 rfl ?_
    exact hq _ _ _ _ dX12_house_10 ⟨by omega, I, C, gFr.rf⟩
theorem dX12_price_0 : decode cX12_price 0 = .ok (.iload_n 1, 1) := dc_27 (by decide +kernel)
theorem dX12_price_1 : decode cX12_price 1 = .ok (.iconst 0, 1) := dc_3 (by decide +kernel)
theorem dX12_price_2 : decode cX12_price 2 = .ok (.bipush 99, 2) := dc_16 99 99 (by decide +kernel)
theorem dX12_price_4 : decode cX12_price 4 = .ok (.invokestatic 64, 3) := dc_184 0 64 (by decide +kernel)
theorem dX12_price_7 : decode cX12_price 7 = .ok (.ifCond .ne 6, 3) := dc_154 0 6 6 (by decide +kernel)
theorem dX12_price_13 : decode cX12_price 13 = .ok (.aload_n 0, 1) := dc_42 (by decide +kernel)
theorem dX12_price_14 : decode cX12_price 14 = .ok (.getfield 7, 3) := dc_180 0 7 (by decide +kernel)
theorem dX12_price_17 : decode cX12_price 17 = .ok (.bipush 9, 2) := dc_16 9 9 (by decide +kernel)
theorem dX12_price_19 : decode cX12_price 19 = .ok (.iaload, 1) := dc_46 (by decide +kernel)
theorem dX12_price_20 : decode cX12_price 20 = .ok (.istore_n 2, 1) := dc_61 (by decide +kernel)
theorem dX12_price_21 : decode cX12_price 21 = .ok (.aload_n 0, 1) := dc_42 (by decide +kernel)
theorem dX12_price_22 : decode cX12_price 22 = .ok (.getfield 7, 3) := dc_180 0 7 (by decide +kernel)
theorem dX12_price_25 : decode cX12_price 25 = .ok (.bipush 9, 2) := dc_16 9 9 (by decide +kernel)
theorem dX12_price_27 : decode cX12_price 27 = .ok (.iload_n 1, 1) := dc_27 (by decide +kernel)
theorem dX12_price_28 : decode cX12_price 28 = .ok (.iastore, 1) := dc_79 (by decide +kernel)
theorem dX12_price_29 : decode cX12_price 29 = .ok (.iload_n 2, 1) := dc_28 (by decide +kernel)
theorem dX12_price_30 : decode cX12_price 30 = .ok (.ireturn, 1) := dc_172 (by decide +kernel)
theorem dX12_price_10 : decode cX12_price 10 = .ok (.bipush (-2), 2) := dc_16 254 (-2) (by decide +kernel)
theorem dX12_price_12 : decode cX12_price 12 = .ok (.ireturn, 1) := dc_172 (by decide +kernel)
abbrev R_X12_price : Room := { frames := 1, cells := 0, slots := 0, locals := 22 }
set_option maxRecDepth 100000 in
set_option maxHeartbeats 4000000 in
theorem s_X12_price {l : Launch} {n0 : Nat} {D : va_G} {cA : Nat → ClassId} {M : gM} (a : Int) (r_a : -2147483648 ≤ a ∧ a ≤ 2147483647) {sz : Nat} (hsz : 206 ≤ sz) (I : gI sz M) (C : gC sz M)   : Met l yX12_price (gWsOf yX12_price cX12_price 3 (Option.some Jvm.ClassFile.FieldType.int)) R_X12_price (gPc n0 D cA [gA n0 190, gJ a] M sz) (gQi n0 D cA sz (fun z M1 => (-2147483648 ≤ z ∧ z ≤ 2147483647) ∧ gI sz M1 ∧ gC sz M1 ∧ gFr 8796093022208 M M1 ∧ ((¬ (0 ≤ a ∧ a ≤ 99) ∧ z = -2 ∧ M1 191 9 = M 191 9) ∨ ((0 ≤ a ∧ a ≤ 99) ∧ z = M 191 9 ∧ M1 191 9 = a)))) 0 0 (fun q => n0 ≤ q) := by
  refine gMetI [gA n0 190, gJ a] (by decide) (Nat.le_of_ble_eq_true rfl) ⟨rfl, rfl⟩ ?_
  intro p e s m args below meth cd Q X hq
  have X : gCx p s m args meth cd n0 D cA "ParishUnionModel" cX12_price 3 := X
  show G p l e R_X12_price s m args below meth cd n0 D cA 3 Q 0 0 M sz 0 [(0, gA n0 190), (1, gJ a)] []
  obtain ⟨v1, hv1, rv1⟩ := gRd I (by decide) (gsz hsz (by decide)) (rs_PRICE (k := 9) (by omega)).1
  refine g_iload_n (n := 1) X 1 dX12_price_0 rfl rfl rfl ?_
  refine g_iconst (n := 2) X dX12_price_1 rfl ?_
  refine g_bipush (n := 4) X dX12_price_2 (by decide +kernel) rfl ?_
  refine g_callSi (n := 7) (As := [gJ a, gJ 0, gJ 99]) (rest := []) (cs1 := 0) (ss1 := 0) X (s_X12_in a (by omega) 0 (by omega) 99 (by omega) hsz I C ) okX12_in kw_6_106 kw_6_107 ⟨rfl, rfl⟩ ⟨Nat.le_of_ble_eq_true rfl, Nat.le_of_ble_eq_true rfl⟩ rfl rfl (Nat.le_of_ble_eq_true rfl) ⟨Nat.le_of_ble_eq_true rfl, Nat.le_of_ble_eq_true rfl⟩ rfl rfl dX12_price_4 rfl (fun v2 M3 P4 => ?_)
  obtain ⟨rfl, rv2, xv2⟩ := P4
  refine g_if_ne (n := 10) (tgt := 13) X dX12_price_7 (by decide) (by omega) rfl (fun c5 => ?_) (fun c5 => ?_)
  · refine g_aload_n (n := 14) X 0 dX12_price_13 rfl rfl rfl ?_
    refine gg_12_1 (n := 17) (z := 191) X (by decide) (gsz hsz (by decide)) lay_190 kw_6_27 dX12_price_14 rfl (rf_190_1 I (gsz hsz (by decide))) (by decide) ?_
    refine g_bipush (n := 19) X dX12_price_17 (by decide +kernel) rfl ?_
    refine g_iald2 (n := 20) (v := v1) X (by decide) (gsz hsz (by decide)) lay_191 (by omega) (by omega) (by decide) dX12_price_19 rfl hv1 ?_
    refine g_istore_n (n := 21) (L' := [(2, gJ v1), (0, gA n0 190), (1, gJ a)]) X dX12_price_20 rfl (by decide) rfl rfl ?_
    refine g_aload_n (n := 22) X 1 dX12_price_21 rfl rfl rfl ?_
    refine gg_12_1 (n := 25) (z := 191) X (by decide) (gsz hsz (by decide)) lay_190 kw_6_27 dX12_price_22 rfl (rf_190_1 I (gsz hsz (by decide))) (by decide) ?_
    refine g_bipush (n := 27) X dX12_price_25 (by decide +kernel) rfl ?_
    refine g_iload_n (n := 28) X 2 dX12_price_27 rfl rfl rfl ?_
    refine g_iast (n := 29) X (by decide) (gsz hsz (by decide)) lay_191 (by omega) (by omega) (by decide) dX12_price_28 rfl ?_
    refine G.nm (fun M6 e7 => ?_)
    have IM6 : gI sz M6 := gI.set I (rs_PRICE (k := 9) (by omega)).1 (by omega) e7
    have CM6 : gC sz M6 := gC.set C (rs_PRICE (k := 9) (by omega)).2.1 e7
    refine g_iload_n (n := 30) X 0 dX12_price_29 rfl rfl rfl ?_
    exact hq _ _ _ _ dX12_price_30 ⟨by omega, IM6, CM6, (gFr.s gFr.rf e7 (rs_PRICE (k := 9) (by omega)).2.2 rfl), by have q0 := ((congrFun (congrFun e7 _) _).trans (gset_eq _ _ _ _)); omega⟩
  · refine g_bipush (n := 12) X dX12_price_10 (by decide +kernel) rfl ?_
    exact hq _ _ _ _ dX12_price_12 ⟨by omega, I, C, gFr.rf, by have q0 := hv1; omega⟩
theorem dX12_frost_0 : decode cX12_frost 0 = .ok (.iload_n 1, 1) := dc_27 (by decide +kernel)
theorem dX12_frost_1 : decode cX12_frost 1 = .ok (.invokestatic 220, 3) := dc_184 0 220 (by decide +kernel)
theorem dX12_frost_4 : decode cX12_frost 4 = .ok (.ifCond .eq 13, 3) := dc_153 0 13 13 (by decide +kernel)
theorem dX12_frost_17 : decode cX12_frost 17 = .ok (.bipush (-2), 2) := dc_16 254 (-2) (by decide +kernel)
theorem dX12_frost_19 : decode cX12_frost 19 = .ok (.ireturn, 1) := dc_172 (by decide +kernel)
theorem dX12_frost_7 : decode cX12_frost 7 = .ok (.iload_n 2, 1) := dc_28 (by decide +kernel)
theorem dX12_frost_8 : decode cX12_frost 8 = .ok (.iconst 0, 1) := dc_3 (by decide +kernel)
theorem dX12_frost_9 : decode cX12_frost 9 = .ok (.bipush 9, 2) := dc_16 9 9 (by decide +kernel)
theorem dX12_frost_11 : decode cX12_frost 11 = .ok (.invokestatic 64, 3) := dc_184 0 64 (by decide +kernel)
theorem dX12_frost_14 : decode cX12_frost 14 = .ok (.ifCond .ne 6, 3) := dc_154 0 6 6 (by decide +kernel)
theorem dX12_frost_20 : decode cX12_frost 20 = .ok (.iload_n 1, 1) := dc_27 (by decide +kernel)
theorem dX12_frost_21 : decode cX12_frost 21 = .ok (.aload_n 0, 1) := dc_42 (by decide +kernel)
theorem dX12_frost_22 : decode cX12_frost 22 = .ok (.getfield 7, 3) := dc_180 0 7 (by decide +kernel)
theorem dX12_frost_25 : decode cX12_frost 25 = .ok (.iconst 0, 1) := dc_3 (by decide +kernel)
theorem dX12_frost_26 : decode cX12_frost 26 = .ok (.iaload, 1) := dc_46 (by decide +kernel)
theorem dX12_frost_27 : decode cX12_frost 27 = .ok (.if_icmp .ge 6, 3) := dc_162 0 6 6 (by decide +kernel)
theorem dX12_frost_33 : decode cX12_frost 33 = .ok (.aload_n 0, 1) := dc_42 (by decide +kernel)
theorem dX12_frost_34 : decode cX12_frost 34 = .ok (.getfield 7, 3) := dc_180 0 7 (by decide +kernel)
theorem dX12_frost_37 : decode cX12_frost 37 = .ok (.sipush 2800, 3) := dc_17 10 240 2800 (by decide +kernel)
theorem dX12_frost_40 : decode cX12_frost 40 = .ok (.iload_n 1, 1) := dc_27 (by decide +kernel)
theorem dX12_frost_41 : decode cX12_frost 41 = .ok (.iadd, 1) := dc_96 (by decide +kernel)
theorem dX12_frost_42 : decode cX12_frost 42 = .ok (.iaload, 1) := dc_46 (by decide +kernel)
theorem dX12_frost_43 : decode cX12_frost 43 = .ok (.istore_n 3, 1) := dc_62 (by decide +kernel)
theorem dX12_frost_44 : decode cX12_frost 44 = .ok (.aload_n 0, 1) := dc_42 (by decide +kernel)
theorem dX12_frost_45 : decode cX12_frost 45 = .ok (.getfield 7, 3) := dc_180 0 7 (by decide +kernel)
theorem dX12_frost_48 : decode cX12_frost 48 = .ok (.sipush 2800, 3) := dc_17 10 240 2800 (by decide +kernel)
theorem dX12_frost_51 : decode cX12_frost 51 = .ok (.iload_n 1, 1) := dc_27 (by decide +kernel)
theorem dX12_frost_52 : decode cX12_frost 52 = .ok (.iadd, 1) := dc_96 (by decide +kernel)
theorem dX12_frost_53 : decode cX12_frost 53 = .ok (.iload_n 2, 1) := dc_28 (by decide +kernel)
theorem dX12_frost_54 : decode cX12_frost 54 = .ok (.iastore, 1) := dc_79 (by decide +kernel)
theorem dX12_frost_55 : decode cX12_frost 55 = .ok (.iload_n 3, 1) := dc_29 (by decide +kernel)
theorem dX12_frost_56 : decode cX12_frost 56 = .ok (.ireturn, 1) := dc_172 (by decide +kernel)
theorem dX12_frost_30 : decode cX12_frost 30 = .ok (.bipush (-3), 2) := dc_16 253 (-3) (by decide +kernel)
theorem dX12_frost_32 : decode cX12_frost 32 = .ok (.ireturn, 1) := dc_172 (by decide +kernel)
abbrev R_X12_frost : Room := { frames := 2, cells := 0, slots := 0, locals := 42 }
set_option maxRecDepth 100000 in
set_option maxHeartbeats 4000000 in
theorem s_X12_frost {l : Launch} {n0 : Nat} {D : va_G} {cA : Nat → ClassId} {M : gM} (a : Int) (r_a : -2147483648 ≤ a ∧ a ≤ 2147483647) (b : Int) (r_b : -2147483648 ≤ b ∧ b ≤ 2147483647) {sz : Nat} (hsz : 206 ≤ sz) (I : gI sz M) (C : gC sz M)   : Met l yX12_frost (gWsOf yX12_frost cX12_frost 4 (Option.some Jvm.ClassFile.FieldType.int)) R_X12_frost (gPc n0 D cA [gA n0 190, gJ a, gJ b] M sz) (gQi n0 D cA sz (fun z M1 => (-2147483648 ≤ z ∧ z ≤ 2147483647) ∧ gI sz M1 ∧ gC sz M1 ∧ gFr 576460752303423488 M M1 ∧ ((((¬ ((0 ≤ a ∧ a ≤ 300) ∧ (0 ≤ b ∧ b ≤ 9)) ∧ z = -2) ∨ (((0 ≤ a ∧ a ≤ 300) ∧ (0 ≤ b ∧ b ≤ 9)) ∧ a < M 191 0 ∧ z = -3)) ∧ (∀ k : Int, 0 ≤ k → k < 301 → M1 191 (k + 2800) = M 191 (k + 2800))) ∨ (((0 ≤ a ∧ a ≤ 300) ∧ (0 ≤ b ∧ b ≤ 9)) ∧ ¬ a < M 191 0 ∧ z = M 191 (a + 2800) ∧ (∀ k : Int, 0 ≤ k → k < 301 → ¬ k = a → M1 191 (k + 2800) = M 191 (k + 2800)) ∧ M1 191 (a + 2800) = b)))) 0 0 (fun q => n0 ≤ q) := by
  refine gMetI [gA n0 190, gJ a, gJ b] (by decide) (Nat.le_of_ble_eq_true rfl) ⟨rfl, rfl⟩ ?_
  intro p e s m args below meth cd Q X hq
  have X : gCx p s m args meth cd n0 D cA "ParishUnionModel" cX12_frost 4 := X
  show G p l e R_X12_frost s m args below meth cd n0 D cA 4 Q 0 0 M sz 0 [(0, gA n0 190), (1, gJ a), (2, gJ b)] []
  obtain ⟨v1, hv1, rv1⟩ := gRd I (by decide) (gsz hsz (by decide)) (rs_NOW (k := 0) (by omega)).1
  refine g_iload_n (n := 1) X 1 dX12_frost_0 rfl rfl rfl ?_
  refine g_callSi (n := 4) (As := [gJ a]) (rest := []) (cs1 := 0) (ss1 := 0) X (s_X12_isWeek a (by omega) hsz I C ) okX12_isWeek kw_6_236 kw_6_237 ⟨rfl, rfl⟩ ⟨Nat.le_of_ble_eq_true rfl, Nat.le_of_ble_eq_true rfl⟩ rfl rfl (Nat.le_of_ble_eq_true rfl) ⟨Nat.le_of_ble_eq_true rfl, Nat.le_of_ble_eq_true rfl⟩ rfl rfl dX12_frost_1 rfl (fun v2 M3 P4 => ?_)
  obtain ⟨rfl, rv2, xv2⟩ := P4
  refine g_if_eq (n := 7) (tgt := 17) X dX12_frost_4 (by decide) (by omega) rfl (fun c5 => ?_) (fun c5 => ?_)
  · refine g_bipush (n := 19) X dX12_frost_17 (by decide +kernel) rfl ?_
    exact hq _ _ _ _ dX12_frost_19 ⟨by omega, I, C, gFr.rf, Or.inl ⟨by omega, fun k h0 h1 => rfl⟩⟩
  · refine g_iload_n (n := 8) X 2 dX12_frost_7 rfl rfl rfl ?_
    refine g_iconst (n := 9) X dX12_frost_8 rfl ?_
    refine g_bipush (n := 11) X dX12_frost_9 (by decide +kernel) rfl ?_
    refine g_callSi (n := 14) (As := [gJ b, gJ 0, gJ 9]) (rest := []) (cs1 := 0) (ss1 := 0) X (s_X12_in b (by omega) 0 (by omega) 9 (by omega) hsz I C ) okX12_in kw_6_106 kw_6_107 ⟨rfl, rfl⟩ ⟨Nat.le_of_ble_eq_true rfl, Nat.le_of_ble_eq_true rfl⟩ rfl rfl (Nat.le_of_ble_eq_true rfl) ⟨Nat.le_of_ble_eq_true rfl, Nat.le_of_ble_eq_true rfl⟩ rfl rfl dX12_frost_11 rfl (fun v6 M7 P8 => ?_)
    obtain ⟨rfl, rv6, xv6⟩ := P8
    refine g_if_ne (n := 17) (tgt := 20) X dX12_frost_14 (by decide) (by omega) rfl (fun c9 => ?_) (fun c9 => ?_)
    · refine g_iload_n (n := 21) X 1 dX12_frost_20 rfl rfl rfl ?_
      refine g_aload_n (n := 22) X 0 dX12_frost_21 rfl rfl rfl ?_
      refine gg_12_1 (n := 25) (z := 191) X (by decide) (gsz hsz (by decide)) lay_190 kw_6_27 dX12_frost_22 rfl (rf_190_1 I (gsz hsz (by decide))) (by decide) ?_
      refine g_iconst (n := 26) X dX12_frost_25 rfl ?_
      refine g_iald2 (n := 27) (v := v1) X (by decide) (gsz hsz (by decide)) lay_191 (by omega) (by omega) (by decide) dX12_frost_26 rfl hv1 ?_
      refine g_icmp_ge (n := 30) (tgt := 33) X dX12_frost_27 (by decide) (by omega) (by omega) rfl (fun c10 => ?_) (fun c10 => ?_)
      · refine g_aload_n (n := 34) X 0 dX12_frost_33 rfl rfl rfl ?_
        refine gg_12_1 (n := 37) (z := 191) X (by decide) (gsz hsz (by decide)) lay_190 kw_6_27 dX12_frost_34 rfl (rf_190_1 I (gsz hsz (by decide))) (by decide) ?_
        refine g_sipush (n := 40) X dX12_frost_37 (by decide +kernel) rfl ?_
        refine g_iload_n (n := 41) X 1 dX12_frost_40 rfl rfl rfl ?_
        refine g_iadd (n := 42) (z := a + 2800) X dX12_frost_41 (by omega) rfl ?_
        obtain ⟨v11, hv11, rv11⟩ := gRd I (by decide) (gsz hsz (by decide)) (rs_FROST (k := a + 2800) (by omega)).1
        refine g_iald2 (n := 43) (v := v11) X (by decide) (gsz hsz (by decide)) lay_191 (by omega) (by omega) (by decide) dX12_frost_42 rfl hv11 ?_
        refine g_istore_n (n := 44) (L' := [(3, gJ v11), (0, gA n0 190), (1, gJ a), (2, gJ b)]) X dX12_frost_43 rfl (by decide) rfl rfl ?_
        refine g_aload_n (n := 45) X 1 dX12_frost_44 rfl rfl rfl ?_
        refine gg_12_1 (n := 48) (z := 191) X (by decide) (gsz hsz (by decide)) lay_190 kw_6_27 dX12_frost_45 rfl (rf_190_1 I (gsz hsz (by decide))) (by decide) ?_
        refine g_sipush (n := 51) X dX12_frost_48 (by decide +kernel) rfl ?_
        refine g_iload_n (n := 52) X 2 dX12_frost_51 rfl rfl rfl ?_
        refine g_iadd (n := 53) (z := a + 2800) X dX12_frost_52 (by omega) rfl ?_
        refine g_iload_n (n := 54) X 3 dX12_frost_53 rfl rfl rfl ?_
        refine g_iast (n := 55) X (by decide) (gsz hsz (by decide)) lay_191 (by omega) (by omega) (by decide) dX12_frost_54 rfl ?_
        refine G.nm (fun M12 e13 => ?_)
        have IM12 : gI sz M12 := gI.set I (rs_FROST (k := a + 2800) (by omega)).1 (by omega) e13
        have CM12 : gC sz M12 := gC.set C (rs_FROST (k := a + 2800) (by omega)).2.1 e13
        refine g_iload_n (n := 56) X 0 dX12_frost_55 rfl rfl rfl ?_
        exact hq _ _ _ _ dX12_frost_56 ⟨by omega, IM12, CM12, (gFr.s gFr.rf e13 (rs_FROST (k := a + 2800) (by omega)).2.2 rfl), Or.inr ⟨by omega, by omega, (hv11).symm, (fun k h0 h1 hk => by rw [e13, gset_ne (by omega)]), (by rw [e13, gset_eq])⟩⟩
      · refine g_bipush (n := 32) X dX12_frost_30 (by decide +kernel) rfl ?_
        exact hq _ _ _ _ dX12_frost_32 ⟨by omega, I, C, gFr.rf, Or.inl ⟨by omega, fun k h0 h1 => rfl⟩⟩
    · refine g_bipush (n := 19) X dX12_frost_17 (by decide +kernel) rfl ?_
      exact hq _ _ _ _ dX12_frost_19 ⟨by omega, I, C, gFr.rf, Or.inl ⟨by omega, fun k h0 h1 => rfl⟩⟩
theorem dX12_order_0 : decode cX12_order 0 = .ok (.aload_n 0, 1) := dc_42 (by decide +kernel)
theorem dX12_order_1 : decode cX12_order 1 = .ok (.iload_n 1, 1) := dc_27 (by decide +kernel)
theorem dX12_order_2 : decode cX12_order 2 = .ok (.invokevirtual 76, 3) := dc_182 0 76 (by decide +kernel)
theorem dX12_order_5 : decode cX12_order 5 = .ok (.ifCond .eq 10, 3) := dc_153 0 10 10 (by decide +kernel)
theorem dX12_order_15 : decode cX12_order 15 = .ok (.iconst (-1), 1) := dc_2 (by decide +kernel)
theorem dX12_order_16 : decode cX12_order 16 = .ok (.ireturn, 1) := dc_172 (by decide +kernel)
theorem dX12_order_8 : decode cX12_order 8 = .ok (.iload_n 2, 1) := dc_28 (by decide +kernel)
theorem dX12_order_9 : decode cX12_order 9 = .ok (.invokestatic 68, 3) := dc_184 0 68 (by decide +kernel)
theorem dX12_order_12 : decode cX12_order 12 = .ok (.ifCond .ne 5, 3) := dc_154 0 5 5 (by decide +kernel)
theorem dX12_order_17 : decode cX12_order 17 = .ok (.aload_n 0, 1) := dc_42 (by decide +kernel)
theorem dX12_order_18 : decode cX12_order 18 = .ok (.getfield 7, 3) := dc_180 0 7 (by decide +kernel)
theorem dX12_order_21 : decode cX12_order 21 = .ok (.sipush 160, 3) := dc_17 0 160 160 (by decide +kernel)
theorem dX12_order_24 : decode cX12_order 24 = .ok (.iload_n 1, 1) := dc_27 (by decide +kernel)
theorem dX12_order_25 : decode cX12_order 25 = .ok (.iadd, 1) := dc_96 (by decide +kernel)
theorem dX12_order_26 : decode cX12_order 26 = .ok (.iaload, 1) := dc_46 (by decide +kernel)
theorem dX12_order_27 : decode cX12_order 27 = .ok (.istore_n 3, 1) := dc_62 (by decide +kernel)
theorem dX12_order_28 : decode cX12_order 28 = .ok (.iload_n 3, 1) := dc_29 (by decide +kernel)
theorem dX12_order_29 : decode cX12_order 29 = .ok (.iload_n 2, 1) := dc_28 (by decide +kernel)
theorem dX12_order_30 : decode cX12_order 30 = .ok (.if_icmp .ne 6, 3) := dc_160 0 6 6 (by decide +kernel)
theorem dX12_order_36 : decode cX12_order 36 = .ok (.iload_n 3, 1) := dc_29 (by decide +kernel)
theorem dX12_order_37 : decode cX12_order 37 = .ok (.iconst 5, 1) := dc_8 (by decide +kernel)
theorem dX12_order_38 : decode cX12_order 38 = .ok (.if_icmp .le 6, 3) := dc_164 0 6 6 (by decide +kernel)
theorem dX12_order_44 : decode cX12_order 44 = .ok (.aload_n 0, 1) := dc_42 (by decide +kernel)
theorem dX12_order_45 : decode cX12_order 45 = .ok (.getfield 7, 3) := dc_180 0 7 (by decide +kernel)
theorem dX12_order_48 : decode cX12_order 48 = .ok (.iconst 5, 1) := dc_8 (by decide +kernel)
theorem dX12_order_49 : decode cX12_order 49 = .ok (.iaload, 1) := dc_46 (by decide +kernel)
theorem dX12_order_50 : decode cX12_order 50 = .ok (.bipush 20, 2) := dc_16 20 20 (by decide +kernel)
theorem dX12_order_52 : decode cX12_order 52 = .ok (.if_icmp .ne 6, 3) := dc_160 0 6 6 (by decide +kernel)
theorem dX12_order_58 : decode cX12_order 58 = .ok (.aload_n 0, 1) := dc_42 (by decide +kernel)
theorem dX12_order_59 : decode cX12_order 59 = .ok (.getfield 7, 3) := dc_180 0 7 (by decide +kernel)
theorem dX12_order_62 : decode cX12_order 62 = .ok (.iconst 5, 1) := dc_8 (by decide +kernel)
theorem dX12_order_63 : decode cX12_order 63 = .ok (.iaload, 1) := dc_46 (by decide +kernel)
theorem dX12_order_64 : decode cX12_order 64 = .ok (.istore 4, 2) := dc_54 4 (by decide +kernel)
theorem dX12_order_66 : decode cX12_order 66 = .ok (.aload_n 0, 1) := dc_42 (by decide +kernel)
theorem dX12_order_67 : decode cX12_order 67 = .ok (.getfield 7, 3) := dc_180 0 7 (by decide +kernel)
theorem dX12_order_70 : decode cX12_order 70 = .ok (.sipush 2340, 3) := dc_17 9 36 2340 (by decide +kernel)
theorem dX12_order_73 : decode cX12_order 73 = .ok (.iload 4, 2) := dc_21 4 (by decide +kernel)
theorem dX12_order_75 : decode cX12_order 75 = .ok (.iadd, 1) := dc_96 (by decide +kernel)
theorem dX12_order_76 : decode cX12_order 76 = .ok (.iload_n 1, 1) := dc_27 (by decide +kernel)
theorem dX12_order_77 : decode cX12_order 77 = .ok (.iastore, 1) := dc_79 (by decide +kernel)
theorem dX12_order_78 : decode cX12_order 78 = .ok (.aload_n 0, 1) := dc_42 (by decide +kernel)
theorem dX12_order_79 : decode cX12_order 79 = .ok (.getfield 7, 3) := dc_180 0 7 (by decide +kernel)
theorem dX12_order_82 : decode cX12_order 82 = .ok (.sipush 2360, 3) := dc_17 9 56 2360 (by decide +kernel)
theorem dX12_order_85 : decode cX12_order 85 = .ok (.iload 4, 2) := dc_21 4 (by decide +kernel)
theorem dX12_order_87 : decode cX12_order 87 = .ok (.iadd, 1) := dc_96 (by decide +kernel)
theorem dX12_order_88 : decode cX12_order 88 = .ok (.iload_n 3, 1) := dc_29 (by decide +kernel)
theorem dX12_order_89 : decode cX12_order 89 = .ok (.iastore, 1) := dc_79 (by decide +kernel)
theorem dX12_order_90 : decode cX12_order 90 = .ok (.aload_n 0, 1) := dc_42 (by decide +kernel)
theorem dX12_order_91 : decode cX12_order 91 = .ok (.getfield 7, 3) := dc_180 0 7 (by decide +kernel)
theorem dX12_order_94 : decode cX12_order 94 = .ok (.sipush 2380, 3) := dc_17 9 76 2380 (by decide +kernel)
theorem dX12_order_97 : decode cX12_order 97 = .ok (.iload 4, 2) := dc_21 4 (by decide +kernel)
theorem dX12_order_99 : decode cX12_order 99 = .ok (.iadd, 1) := dc_96 (by decide +kernel)
theorem dX12_order_100 : decode cX12_order 100 = .ok (.iload_n 2, 1) := dc_28 (by decide +kernel)
theorem dX12_order_101 : decode cX12_order 101 = .ok (.iastore, 1) := dc_79 (by decide +kernel)
theorem dX12_order_102 : decode cX12_order 102 = .ok (.aload_n 0, 1) := dc_42 (by decide +kernel)
theorem dX12_order_103 : decode cX12_order 103 = .ok (.getfield 7, 3) := dc_180 0 7 (by decide +kernel)
theorem dX12_order_106 : decode cX12_order 106 = .ok (.sipush 2400, 3) := dc_17 9 96 2400 (by decide +kernel)
theorem dX12_order_109 : decode cX12_order 109 = .ok (.iload 4, 2) := dc_21 4 (by decide +kernel)
theorem dX12_order_111 : decode cX12_order 111 = .ok (.iadd, 1) := dc_96 (by decide +kernel)
theorem dX12_order_112 : decode cX12_order 112 = .ok (.aload_n 0, 1) := dc_42 (by decide +kernel)
theorem dX12_order_113 : decode cX12_order 113 = .ok (.getfield 7, 3) := dc_180 0 7 (by decide +kernel)
theorem dX12_order_116 : decode cX12_order 116 = .ok (.iconst 0, 1) := dc_3 (by decide +kernel)
theorem dX12_order_117 : decode cX12_order 117 = .ok (.iaload, 1) := dc_46 (by decide +kernel)
theorem dX12_order_118 : decode cX12_order 118 = .ok (.iastore, 1) := dc_79 (by decide +kernel)
theorem dX12_order_119 : decode cX12_order 119 = .ok (.aload_n 0, 1) := dc_42 (by decide +kernel)
theorem dX12_order_120 : decode cX12_order 120 = .ok (.getfield 7, 3) := dc_180 0 7 (by decide +kernel)
theorem dX12_order_123 : decode cX12_order 123 = .ok (.sipush 2420, 3) := dc_17 9 116 2420 (by decide +kernel)
theorem dX12_order_126 : decode cX12_order 126 = .ok (.iload 4, 2) := dc_21 4 (by decide +kernel)
theorem dX12_order_128 : decode cX12_order 128 = .ok (.iadd, 1) := dc_96 (by decide +kernel)
theorem dX12_order_129 : decode cX12_order 129 = .ok (.iconst 0, 1) := dc_3 (by decide +kernel)
theorem dX12_order_130 : decode cX12_order 130 = .ok (.iastore, 1) := dc_79 (by decide +kernel)
theorem dX12_order_131 : decode cX12_order 131 = .ok (.aload_n 0, 1) := dc_42 (by decide +kernel)
theorem dX12_order_132 : decode cX12_order 132 = .ok (.getfield 7, 3) := dc_180 0 7 (by decide +kernel)
theorem dX12_order_135 : decode cX12_order 135 = .ok (.iconst 5, 1) := dc_8 (by decide +kernel)
theorem dX12_order_136 : decode cX12_order 136 = .ok (.dup2, 1) := dc_92 (by decide +kernel)
theorem dX12_order_137 : decode cX12_order 137 = .ok (.iaload, 1) := dc_46 (by decide +kernel)
theorem dX12_order_138 : decode cX12_order 138 = .ok (.iconst 1, 1) := dc_4 (by decide +kernel)
theorem dX12_order_139 : decode cX12_order 139 = .ok (.iadd, 1) := dc_96 (by decide +kernel)
theorem dX12_order_140 : decode cX12_order 140 = .ok (.iastore, 1) := dc_79 (by decide +kernel)
theorem dX12_order_141 : decode cX12_order 141 = .ok (.iload 4, 2) := dc_21 4 (by decide +kernel)
theorem dX12_order_143 : decode cX12_order 143 = .ok (.ireturn, 1) := dc_172 (by decide +kernel)
theorem dX12_order_55 : decode cX12_order 55 = .ok (.bipush (-4), 2) := dc_16 252 (-4) (by decide +kernel)
theorem dX12_order_57 : decode cX12_order 57 = .ok (.ireturn, 1) := dc_172 (by decide +kernel)
theorem dX12_order_41 : decode cX12_order 41 = .ok (.bipush (-3), 2) := dc_16 253 (-3) (by decide +kernel)
theorem dX12_order_43 : decode cX12_order 43 = .ok (.ireturn, 1) := dc_172 (by decide +kernel)
theorem dX12_order_33 : decode cX12_order 33 = .ok (.bipush (-2), 2) := dc_16 254 (-2) (by decide +kernel)
theorem dX12_order_35 : decode cX12_order 35 = .ok (.ireturn, 1) := dc_172 (by decide +kernel)
abbrev R_X12_order : Room := { frames := 2, cells := 0, slots := 0, locals := 43 }
set_option maxRecDepth 100000 in
set_option maxHeartbeats 4000000 in
theorem s_X12_order {l : Launch} {n0 : Nat} {D : va_G} {cA : Nat → ClassId} {M : gM} (a : Int) (r_a : -2147483648 ≤ a ∧ a ≤ 2147483647) (b : Int) (r_b : -2147483648 ≤ b ∧ b ≤ 2147483647) {sz : Nat} (hsz : 206 ≤ sz) (I : gI sz M) (C : gC sz M) (W : gW 191 M)  : Met l yX12_order (gWsOf yX12_order cX12_order 5 (Option.some Jvm.ClassFile.FieldType.int)) R_X12_order (gPc n0 D cA [gA n0 190, gJ a, gJ b] M sz) (gQi n0 D cA sz (fun z M1 => (-4 ≤ z ∧ z ≤ 19) ∧ gI sz M1 ∧ gC sz M1 ∧ gFr 618970019651697886460116992 M M1 ∧ (gW 191 M1))) 0 0 (fun q => n0 ≤ q) := by
  refine gMetI [gA n0 190, gJ a, gJ b] (by decide) (Nat.le_of_ble_eq_true rfl) ⟨rfl, rfl⟩ ?_
  intro p e s m args below meth cd Q X hq
  have X : gCx p s m args meth cd n0 D cA "ParishUnionModel" cX12_order 5 := X
  show G p l e R_X12_order s m args below meth cd n0 D cA 5 Q 0 0 M sz 0 [(0, gA n0 190), (1, gJ a), (2, gJ b)] []
  obtain ⟨v1, hv1, rv1⟩ := gRd I (by decide) (gsz hsz (by decide)) (rs_PERS (k := 1) (by omega)).1
  refine g_aload_n (n := 1) X 0 dX12_order_0 rfl rfl rfl ?_
  refine g_iload_n (n := 2) X 1 dX12_order_1 rfl rfl rfl ?_
  refine g_callVi (n := 5) (As := [gJ a]) (rest := []) (cs1 := 0) (ss1 := 0) X (s_X12_isPerson a (by omega) hsz I C ) okX12_isPerson kw_6_125 ⟨kw_6_127, kw_0_40⟩ ⟨rfl, rfl⟩ ⟨Nat.le_of_ble_eq_true rfl, Nat.le_of_ble_eq_true rfl⟩ rfl (by decide) (gsz hsz (by decide)) lay_190 rfl rfl (Nat.le_of_ble_eq_true rfl) ⟨Nat.le_of_ble_eq_true rfl, Nat.le_of_ble_eq_true rfl⟩ rfl rfl dX12_order_2 rfl (fun v2 M3 P4 => ?_)
  obtain ⟨rfl, rv2, xv2⟩ := P4
  refine g_if_eq (n := 8) (tgt := 15) X dX12_order_5 (by decide) (by omega) rfl (fun c5 => ?_) (fun c5 => ?_)
  · refine g_iconst (n := 16) X dX12_order_15 rfl ?_
    exact hq _ _ _ _ dX12_order_16 ⟨by omega, I, C, gFr.rf, W⟩
  · refine g_iload_n (n := 9) X 2 dX12_order_8 rfl rfl rfl ?_
    refine g_callSi (n := 12) (As := [gJ b]) (rest := []) (cs1 := 0) (ss1 := 0) X (s_X12_isParish b (by omega) hsz I C ) okX12_isParish kw_6_103 kw_6_104 ⟨rfl, rfl⟩ ⟨Nat.le_of_ble_eq_true rfl, Nat.le_of_ble_eq_true rfl⟩ rfl rfl (Nat.le_of_ble_eq_true rfl) ⟨Nat.le_of_ble_eq_true rfl, Nat.le_of_ble_eq_true rfl⟩ rfl rfl dX12_order_9 rfl (fun v6 M7 P8 => ?_)
    obtain ⟨rfl, rv6, xv6⟩ := P8
    refine g_if_ne (n := 15) (tgt := 17) X dX12_order_12 (by decide) (by omega) rfl (fun c9 => ?_) (fun c9 => ?_)
    · refine g_aload_n (n := 18) X 0 dX12_order_17 rfl rfl rfl ?_
      refine gg_12_1 (n := 21) (z := 191) X (by decide) (gsz hsz (by decide)) lay_190 kw_6_27 dX12_order_18 rfl (rf_190_1 I (gsz hsz (by decide))) (by decide) ?_
      refine g_sipush (n := 24) X dX12_order_21 (by decide +kernel) rfl ?_
      refine g_iload_n (n := 25) X 1 dX12_order_24 rfl rfl rfl ?_
      refine g_iadd (n := 26) (z := a + 160) X dX12_order_25 (by omega) rfl ?_
      obtain ⟨v10, hv10, rv10⟩ := gRd I (by decide) (gsz hsz (by decide)) (rs_AT (k := a + 160) (by omega)).1
      refine g_iald2 (n := 27) (v := v10) X (by decide) (gsz hsz (by decide)) lay_191 (by omega) (by omega) (by decide) dX12_order_26 rfl hv10 ?_
      refine g_istore_n (n := 28) (L' := [(3, gJ v10), (0, gA n0 190), (1, gJ a), (2, gJ b)]) X dX12_order_27 rfl (by decide) rfl rfl ?_
      refine g_iload_n (n := 29) X 0 dX12_order_28 rfl rfl rfl ?_
      refine g_iload_n (n := 30) X 3 dX12_order_29 rfl rfl rfl ?_
      refine g_icmp_ne (n := 33) (tgt := 36) X dX12_order_30 (by decide) (by omega) (by omega) rfl (fun c11 => ?_) (fun c11 => ?_)
      · refine g_iload_n (n := 37) X 0 dX12_order_36 rfl rfl rfl ?_
        refine g_iconst (n := 38) X dX12_order_37 rfl ?_
        refine g_icmp_le (n := 41) (tgt := 44) X dX12_order_38 (by decide) (by omega) (by omega) rfl (fun c12 => ?_) (fun c12 => ?_)
        · refine g_aload_n (n := 45) X 1 dX12_order_44 rfl rfl rfl ?_
          refine gg_12_1 (n := 48) (z := 191) X (by decide) (gsz hsz (by decide)) lay_190 kw_6_27 dX12_order_45 rfl (rf_190_1 I (gsz hsz (by decide))) (by decide) ?_
          refine g_iconst (n := 49) X dX12_order_48 rfl ?_
          obtain ⟨v13, hv13, rv13⟩ := gRd I (by decide) (gsz hsz (by decide)) (rs_NO (k := 5) (by omega)).1
          refine g_iald2 (n := 50) (v := v13) X (by decide) (gsz hsz (by decide)) lay_191 (by omega) (by omega) (by decide) dX12_order_49 rfl hv13 ?_
          refine g_bipush (n := 52) X dX12_order_50 (by decide +kernel) rfl ?_
          refine g_icmp_ne (n := 55) (tgt := 58) X dX12_order_52 (by decide) (by omega) (by omega) rfl (fun c14 => ?_) (fun c14 => ?_)
          · refine g_aload_n (n := 59) X 1 dX12_order_58 rfl rfl rfl ?_
            refine gg_12_1 (n := 62) (z := 191) X (by decide) (gsz hsz (by decide)) lay_190 kw_6_27 dX12_order_59 rfl (rf_190_1 I (gsz hsz (by decide))) (by decide) ?_
            refine g_iconst (n := 63) X dX12_order_62 rfl ?_
            refine g_iald2 (n := 64) (v := v13) X (by decide) (gsz hsz (by decide)) lay_191 (by omega) (by omega) (by decide) dX12_order_63 rfl hv13 ?_
            refine g_istore (n := 66) (L' := [(4, gJ v13), (3, gJ v10), (0, gA n0 190), (1, gJ a), (2, gJ b)]) X dX12_order_64 (by decide) rfl rfl ?_
            refine g_aload_n (n := 67) X 2 dX12_order_66 rfl rfl rfl ?_
            refine gg_12_1 (n := 70) (z := 191) X (by decide) (gsz hsz (by decide)) lay_190 kw_6_27 dX12_order_67 rfl (rf_190_1 I (gsz hsz (by decide))) (by decide) ?_
            refine g_sipush (n := 73) X dX12_order_70 (by decide +kernel) rfl ?_
            refine g_iload (n := 75) X 0 dX12_order_73 rfl rfl ?_
            refine g_iadd (n := 76) (z := v13 + 2340) X dX12_order_75 (by omega) rfl ?_
            refine g_iload_n (n := 77) X 3 dX12_order_76 rfl rfl rfl ?_
            refine g_iast (n := 78) X (by decide) (gsz hsz (by decide)) lay_191 (by omega) (by omega) (by decide) dX12_order_77 rfl ?_
            refine G.nm (fun M15 e16 => ?_)
            have IM15 : gI sz M15 := gI.set I (rs_OWHO (k := v13 + 2340) (by omega)).1 (by omega) e16
            have CM15 : gC sz M15 := gC.set C (rs_OWHO (k := v13 + 2340) (by omega)).2.1 e16
            refine g_aload_n (n := 79) X 2 dX12_order_78 rfl rfl rfl ?_
            refine gg_12_1 (n := 82) (z := 191) X (by decide) (gsz hsz (by decide)) lay_190 kw_6_27 dX12_order_79 rfl (rf_190_1 IM15 (gsz hsz (by decide))) (by decide) ?_
            refine g_sipush (n := 85) X dX12_order_82 (by decide +kernel) rfl ?_
            refine g_iload (n := 87) X 0 dX12_order_85 rfl rfl ?_
            refine g_iadd (n := 88) (z := v13 + 2360) X dX12_order_87 (by omega) rfl ?_
            refine g_iload_n (n := 89) X 1 dX12_order_88 rfl rfl rfl ?_
            refine g_iast (n := 90) X (by decide) (gsz hsz (by decide)) lay_191 (by omega) (by omega) (by decide) dX12_order_89 rfl ?_
            refine G.nm (fun M17 e18 => ?_)
            have IM17 : gI sz M17 := gI.set IM15 (rs_OFROM (k := v13 + 2360) (by omega)).1 (by omega) e18
            have CM17 : gC sz M17 := gC.set CM15 (rs_OFROM (k := v13 + 2360) (by omega)).2.1 e18
            refine g_aload_n (n := 91) X 2 dX12_order_90 rfl rfl rfl ?_
            refine gg_12_1 (n := 94) (z := 191) X (by decide) (gsz hsz (by decide)) lay_190 kw_6_27 dX12_order_91 rfl (rf_190_1 IM17 (gsz hsz (by decide))) (by decide) ?_
            refine g_sipush (n := 97) X dX12_order_94 (by decide +kernel) rfl ?_
            refine g_iload (n := 99) X 0 dX12_order_97 rfl rfl ?_
            refine g_iadd (n := 100) (z := v13 + 2380) X dX12_order_99 (by omega) rfl ?_
            refine g_iload_n (n := 101) X 4 dX12_order_100 rfl rfl rfl ?_
            refine g_iast (n := 102) X (by decide) (gsz hsz (by decide)) lay_191 (by omega) (by omega) (by decide) dX12_order_101 rfl ?_
            refine G.nm (fun M19 e20 => ?_)
            have IM19 : gI sz M19 := gI.set IM17 (rs_OTO (k := v13 + 2380) (by omega)).1 (by omega) e20
            have CM19 : gC sz M19 := gC.set CM17 (rs_OTO (k := v13 + 2380) (by omega)).2.1 e20
            refine g_aload_n (n := 103) X 2 dX12_order_102 rfl rfl rfl ?_
            refine gg_12_1 (n := 106) (z := 191) X (by decide) (gsz hsz (by decide)) lay_190 kw_6_27 dX12_order_103 rfl (rf_190_1 IM19 (gsz hsz (by decide))) (by decide) ?_
            refine g_sipush (n := 109) X dX12_order_106 (by decide +kernel) rfl ?_
            refine g_iload (n := 111) X 0 dX12_order_109 rfl rfl ?_
            refine g_iadd (n := 112) (z := v13 + 2400) X dX12_order_111 (by omega) rfl ?_
            refine g_aload_n (n := 113) X 2 dX12_order_112 rfl rfl rfl ?_
            refine gg_12_1 (n := 116) (z := 191) X (by decide) (gsz hsz (by decide)) lay_190 kw_6_27 dX12_order_113 rfl (rf_190_1 IM19 (gsz hsz (by decide))) (by decide) ?_
            refine g_iconst (n := 117) X dX12_order_116 rfl ?_
            obtain ⟨v21, hv21, rv21⟩ := gRd IM19 (by decide) (gsz hsz (by decide)) (rs_NOW (k := 0) (by omega)).1
            refine g_iald2 (n := 118) (v := v21) X (by decide) (gsz hsz (by decide)) lay_191 (by omega) (by omega) (by decide) dX12_order_117 rfl hv21 ?_
            refine g_iast (n := 119) X (by decide) (gsz hsz (by decide)) lay_191 (by omega) (by omega) (by decide) dX12_order_118 rfl ?_
            refine G.nm (fun M22 e23 => ?_)
            have IM22 : gI sz M22 := gI.set IM19 (rs_OWEEK (k := v13 + 2400) (by omega)).1 (by omega) e23
            have CM22 : gC sz M22 := gC.set CM19 (rs_OWEEK (k := v13 + 2400) (by omega)).2.1 e23
            refine g_aload_n (n := 120) X 2 dX12_order_119 rfl rfl rfl ?_
            refine gg_12_1 (n := 123) (z := 191) X (by decide) (gsz hsz (by decide)) lay_190 kw_6_27 dX12_order_120 rfl (rf_190_1 IM22 (gsz hsz (by decide))) (by decide) ?_
            refine g_sipush (n := 126) X dX12_order_123 (by decide +kernel) rfl ?_
            refine g_iload (n := 128) X 0 dX12_order_126 rfl rfl ?_
            refine g_iadd (n := 129) (z := v13 + 2420) X dX12_order_128 (by omega) rfl ?_
            refine g_iconst (n := 130) X dX12_order_129 rfl ?_
            refine g_iast (n := 131) X (by decide) (gsz hsz (by decide)) lay_191 (by omega) (by omega) (by decide) dX12_order_130 rfl ?_
            refine G.nm (fun M24 e25 => ?_)
            have IM24 : gI sz M24 := gI.set IM22 (rs_ODONE (k := v13 + 2420) (by omega)).1 (by omega) e25
            have CM24 : gC sz M24 := gC.set CM22 (rs_ODONE (k := v13 + 2420) (by omega)).2.1 e25
            refine g_aload_n (n := 132) X 2 dX12_order_131 rfl rfl rfl ?_
            refine gg_12_1 (n := 135) (z := 191) X (by decide) (gsz hsz (by decide)) lay_190 kw_6_27 dX12_order_132 rfl (rf_190_1 IM24 (gsz hsz (by decide))) (by decide) ?_
            refine g_iconst (n := 136) X dX12_order_135 rfl ?_
            refine g_dup2 (n := 137) X dX12_order_136 rfl rfl rfl ?_
            refine g_iald2 (n := 138) (v := v13) X (by decide) (gsz hsz (by decide)) lay_191 (by omega) (by omega) (by decide) dX12_order_137 rfl ((congrFun (congrFun e25 _) _).trans ((gset_ne (by omega)).trans ((congrFun (congrFun e23 _) _).trans ((gset_ne (by omega)).trans ((congrFun (congrFun e20 _) _).trans ((gset_ne (by omega)).trans ((congrFun (congrFun e18 _) _).trans ((gset_ne (by omega)).trans ((congrFun (congrFun e16 _) _).trans ((gset_ne (by omega)).trans hv13)))))))))) ?_
            refine g_iconst (n := 139) X dX12_order_138 rfl ?_
            refine g_iadd (n := 140) (z := v13 + 1) X dX12_order_139 (by omega) rfl ?_
            refine g_iast (n := 141) X (by decide) (gsz hsz (by decide)) lay_191 (by omega) (by omega) (by decide) dX12_order_140 rfl ?_
            refine G.nm (fun M26 e27 => ?_)
            have IM26 : gI sz M26 := gI.set IM24 (rs_NO (k := 5) (by omega)).1 (by omega) e27
            have CM26 : gC sz M26 := gC.set CM24 (rs_NO (k := 5) (by omega)).2.1 e27
            refine g_iload (n := 143) X 0 dX12_order_141 rfl rfl ?_
            exact hq _ _ _ _ dX12_order_143 ⟨by omega, IM26, CM26, (gFr.s (gFr.s (gFr.s (gFr.s (gFr.s (gFr.s gFr.rf e16 (rs_OWHO (k := v13 + 2340) (by omega)).2.2 rfl) e18 (rs_OFROM (k := v13 + 2360) (by omega)).2.2 rfl) e20 (rs_OTO (k := v13 + 2380) (by omega)).2.2 rfl) e23 (rs_OWEEK (k := v13 + 2400) (by omega)).2.2 rfl) e25 (rs_ODONE (k := v13 + 2420) (by omega)).2.2 rfl) e27 (rs_NO (k := 5) (by omega)).2.2 rfl), gW.order (o := v13) (p := a) W I hsz hv13 (by omega) (by have q2 := hv1; omega) (((congrFun (congrFun e27 _) _).trans ((gset_ne (by omega)).trans ((congrFun (congrFun e25 _) _).trans ((gset_ne (by omega)).trans ((congrFun (congrFun e23 _) _).trans ((gset_ne (by omega)).trans ((congrFun (congrFun e20 _) _).trans ((gset_ne (by omega)).trans ((congrFun (congrFun e18 _) _).trans ((gset_ne (by omega)).trans ((congrFun (congrFun e16 _) _).trans ((gset_ne (by omega)).trans hv1)))))))))))).trans hv1.symm) ((congrFun (congrFun e27 _) _).trans (gset_eq _ _ _ _)) ((congrFun (congrFun e27 _) _).trans ((gset_ne (by omega)).trans ((congrFun (congrFun e25 _) _).trans ((gset_ne (by omega)).trans ((congrFun (congrFun e23 _) _).trans ((gset_ne (by omega)).trans ((congrFun (congrFun e20 _) _).trans ((gset_ne (by omega)).trans ((congrFun (congrFun e18 _) _).trans ((gset_ne (by omega)).trans ((congrFun (congrFun e16 _) _).trans (gset_eq _ _ _ _)))))))))))) (fun k hk g0 g1 => ((congrFun (congrFun e27 _) _).trans ((gset_ne (by unfold gWu at hk; omega)).trans ((congrFun (congrFun e25 _) _).trans ((gset_ne (by unfold gWu at hk; omega)).trans ((congrFun (congrFun e23 _) _).trans ((gset_ne (by unfold gWu at hk; omega)).trans ((congrFun (congrFun e20 _) _).trans ((gset_ne (by unfold gWu at hk; omega)).trans ((congrFun (congrFun e18 _) _).trans ((gset_ne (by unfold gWu at hk; omega)).trans ((congrFun (congrFun e16 _) _).trans ((gset_ne (by unfold gWu at hk; omega)).trans rfl)))))))))))))⟩
          · refine g_bipush (n := 57) X dX12_order_55 (by decide +kernel) rfl ?_
            exact hq _ _ _ _ dX12_order_57 ⟨by omega, I, C, gFr.rf, W⟩
        · refine g_bipush (n := 43) X dX12_order_41 (by decide +kernel) rfl ?_
          exact hq _ _ _ _ dX12_order_43 ⟨by omega, I, C, gFr.rf, W⟩
      · refine g_bipush (n := 35) X dX12_order_33 (by decide +kernel) rfl ?_
        exact hq _ _ _ _ dX12_order_35 ⟨by omega, I, C, gFr.rf, W⟩
    · refine g_iconst (n := 16) X dX12_order_15 rfl ?_
      exact hq _ _ _ _ dX12_order_16 ⟨by omega, I, C, gFr.rf, W⟩
theorem dX12_carry_0 : decode cX12_carry 0 = .ok (.aload_n 0, 1) := dc_42 (by decide +kernel)
theorem dX12_carry_1 : decode cX12_carry 1 = .ok (.iload_n 1, 1) := dc_27 (by decide +kernel)
theorem dX12_carry_2 : decode cX12_carry 2 = .ok (.invokevirtual 248, 3) := dc_182 0 248 (by decide +kernel)
theorem kw_7_102 : (Jvm.Cond.methodLink "ParishUnionModel" (248 : Nat) ({ cls := "ParishUnionModel", name := "isOrder", desc := "(I)Z" } : Jvm.MethodName)) ∈ gT := gT_of (tb_7 _ (List.mem_of_getElem? (i := 102) rfl)) rfl
theorem kw_7_105 : (Jvm.Cond.code ({ cls := "ParishUnionModel", name := "isOrder", desc := "(I)Z" } : Jvm.MethodName) prog_14_method_62_code (2 : Nat) (Option.some Jvm.ClassFile.FieldType.boolean)) ∈ gT := gT_of (tb_7 _ (List.mem_of_getElem? (i := 105) rfl)) rfl
theorem okX12_isOrder : gQok yX12_isOrder cX12_isOrder 2 (Option.some Jvm.ClassFile.FieldType.boolean) 1 := ⟨kw_7_105, kw_1_13, by decide +kernel, by decide +kernel, by decide +kernel⟩
theorem kw_7_104 : (Jvm.Cond.instanceMethod ({ cls := "ParishUnionModel", name := "isOrder", desc := "(I)Z" } : Jvm.MethodName)) ∈ gT := gT_of (tb_7 _ (List.mem_of_getElem? (i := 104) rfl)) rfl
theorem kw_0_73 : (Jvm.Cond.selects "ParishUnionModel" ({ cls := "ParishUnionModel", name := "isOrder", desc := "(I)Z" } : Jvm.MethodName) ({ cls := "ParishUnionModel", name := "isOrder", desc := "(I)Z" } : Jvm.MethodName)) ∈ gT := gT_of (tb_0 _ (List.mem_of_getElem? (i := 73) rfl)) rfl
theorem dX12_carry_5 : decode cX12_carry 5 = .ok (.ifCond .ne 5, 3) := dc_154 0 5 5 (by decide +kernel)
theorem dX12_carry_10 : decode cX12_carry 10 = .ok (.aload_n 0, 1) := dc_42 (by decide +kernel)
theorem dX12_carry_11 : decode cX12_carry 11 = .ok (.getfield 7, 3) := dc_180 0 7 (by decide +kernel)
theorem dX12_carry_14 : decode cX12_carry 14 = .ok (.sipush 2340, 3) := dc_17 9 36 2340 (by decide +kernel)
theorem dX12_carry_17 : decode cX12_carry 17 = .ok (.iload_n 1, 1) := dc_27 (by decide +kernel)
theorem dX12_carry_18 : decode cX12_carry 18 = .ok (.iadd, 1) := dc_96 (by decide +kernel)
theorem dX12_carry_19 : decode cX12_carry 19 = .ok (.iaload, 1) := dc_46 (by decide +kernel)
theorem dX12_carry_20 : decode cX12_carry 20 = .ok (.istore_n 2, 1) := dc_61 (by decide +kernel)
theorem dX12_carry_21 : decode cX12_carry 21 = .ok (.aload_n 0, 1) := dc_42 (by decide +kernel)
theorem dX12_carry_22 : decode cX12_carry 22 = .ok (.getfield 7, 3) := dc_180 0 7 (by decide +kernel)
theorem dX12_carry_25 : decode cX12_carry 25 = .ok (.sipush 2420, 3) := dc_17 9 116 2420 (by decide +kernel)
theorem dX12_carry_28 : decode cX12_carry 28 = .ok (.iload_n 1, 1) := dc_27 (by decide +kernel)
theorem dX12_carry_29 : decode cX12_carry 29 = .ok (.iadd, 1) := dc_96 (by decide +kernel)
theorem dX12_carry_30 : decode cX12_carry 30 = .ok (.iaload, 1) := dc_46 (by decide +kernel)
theorem dX12_carry_31 : decode cX12_carry 31 = .ok (.iconst 1, 1) := dc_4 (by decide +kernel)
theorem dX12_carry_32 : decode cX12_carry 32 = .ok (.if_icmp .eq 26, 3) := dc_159 0 26 26 (by decide +kernel)
theorem dX12_carry_58 : decode cX12_carry 58 = .ok (.bipush (-3), 2) := dc_16 253 (-3) (by decide +kernel)
theorem dX12_carry_60 : decode cX12_carry 60 = .ok (.ireturn, 1) := dc_172 (by decide +kernel)
theorem dX12_carry_35 : decode cX12_carry 35 = .ok (.aload_n 0, 1) := dc_42 (by decide +kernel)
theorem dX12_carry_36 : decode cX12_carry 36 = .ok (.getfield 7, 3) := dc_180 0 7 (by decide +kernel)
theorem dX12_carry_39 : decode cX12_carry 39 = .ok (.sipush 160, 3) := dc_17 0 160 160 (by decide +kernel)
theorem dX12_carry_42 : decode cX12_carry 42 = .ok (.iload_n 2, 1) := dc_28 (by decide +kernel)
theorem dX12_carry_43 : decode cX12_carry 43 = .ok (.iadd, 1) := dc_96 (by decide +kernel)
theorem dX12_carry_44 : decode cX12_carry 44 = .ok (.iaload, 1) := dc_46 (by decide +kernel)
theorem dX12_carry_45 : decode cX12_carry 45 = .ok (.aload_n 0, 1) := dc_42 (by decide +kernel)
theorem dX12_carry_46 : decode cX12_carry 46 = .ok (.getfield 7, 3) := dc_180 0 7 (by decide +kernel)
theorem dX12_carry_49 : decode cX12_carry 49 = .ok (.sipush 2360, 3) := dc_17 9 56 2360 (by decide +kernel)
theorem dX12_carry_52 : decode cX12_carry 52 = .ok (.iload_n 1, 1) := dc_27 (by decide +kernel)
theorem dX12_carry_53 : decode cX12_carry 53 = .ok (.iadd, 1) := dc_96 (by decide +kernel)
theorem dX12_carry_54 : decode cX12_carry 54 = .ok (.iaload, 1) := dc_46 (by decide +kernel)
theorem dX12_carry_55 : decode cX12_carry 55 = .ok (.if_icmp .eq 6, 3) := dc_159 0 6 6 (by decide +kernel)
theorem dX12_carry_61 : decode cX12_carry 61 = .ok (.aload_n 0, 1) := dc_42 (by decide +kernel)
theorem dX12_carry_62 : decode cX12_carry 62 = .ok (.getfield 7, 3) := dc_180 0 7 (by decide +kernel)
theorem dX12_carry_65 : decode cX12_carry 65 = .ok (.sipush 2420, 3) := dc_17 9 116 2420 (by decide +kernel)
theorem dX12_carry_68 : decode cX12_carry 68 = .ok (.iload_n 1, 1) := dc_27 (by decide +kernel)
theorem dX12_carry_69 : decode cX12_carry 69 = .ok (.iadd, 1) := dc_96 (by decide +kernel)
theorem dX12_carry_70 : decode cX12_carry 70 = .ok (.iconst 1, 1) := dc_4 (by decide +kernel)
theorem dX12_carry_71 : decode cX12_carry 71 = .ok (.iastore, 1) := dc_79 (by decide +kernel)
theorem dX12_carry_72 : decode cX12_carry 72 = .ok (.aload_n 0, 1) := dc_42 (by decide +kernel)
theorem dX12_carry_73 : decode cX12_carry 73 = .ok (.getfield 7, 3) := dc_180 0 7 (by decide +kernel)
theorem dX12_carry_76 : decode cX12_carry 76 = .ok (.sipush 160, 3) := dc_17 0 160 160 (by decide +kernel)
theorem dX12_carry_79 : decode cX12_carry 79 = .ok (.iload_n 2, 1) := dc_28 (by decide +kernel)
theorem dX12_carry_80 : decode cX12_carry 80 = .ok (.iadd, 1) := dc_96 (by decide +kernel)
theorem dX12_carry_81 : decode cX12_carry 81 = .ok (.aload_n 0, 1) := dc_42 (by decide +kernel)
theorem dX12_carry_82 : decode cX12_carry 82 = .ok (.getfield 7, 3) := dc_180 0 7 (by decide +kernel)
theorem dX12_carry_85 : decode cX12_carry 85 = .ok (.sipush 2380, 3) := dc_17 9 76 2380 (by decide +kernel)
theorem dX12_carry_88 : decode cX12_carry 88 = .ok (.iload_n 1, 1) := dc_27 (by decide +kernel)
theorem dX12_carry_89 : decode cX12_carry 89 = .ok (.iadd, 1) := dc_96 (by decide +kernel)
theorem dX12_carry_90 : decode cX12_carry 90 = .ok (.iaload, 1) := dc_46 (by decide +kernel)
theorem dX12_carry_91 : decode cX12_carry 91 = .ok (.iastore, 1) := dc_79 (by decide +kernel)
theorem dX12_carry_92 : decode cX12_carry 92 = .ok (.aload_n 0, 1) := dc_42 (by decide +kernel)
theorem dX12_carry_93 : decode cX12_carry 93 = .ok (.getfield 7, 3) := dc_180 0 7 (by decide +kernel)
theorem dX12_carry_96 : decode cX12_carry 96 = .ok (.sipush 2380, 3) := dc_17 9 76 2380 (by decide +kernel)
theorem dX12_carry_99 : decode cX12_carry 99 = .ok (.iload_n 1, 1) := dc_27 (by decide +kernel)
theorem dX12_carry_100 : decode cX12_carry 100 = .ok (.iadd, 1) := dc_96 (by decide +kernel)
theorem dX12_carry_101 : decode cX12_carry 101 = .ok (.iaload, 1) := dc_46 (by decide +kernel)
theorem dX12_carry_102 : decode cX12_carry 102 = .ok (.ireturn, 1) := dc_172 (by decide +kernel)
theorem dX12_carry_8 : decode cX12_carry 8 = .ok (.iconst (-1), 1) := dc_2 (by decide +kernel)
theorem dX12_carry_9 : decode cX12_carry 9 = .ok (.ireturn, 1) := dc_172 (by decide +kernel)
abbrev R_X12_carry : Room := { frames := 2, cells := 0, slots := 0, locals := 43 }
set_option maxRecDepth 100000 in
set_option maxHeartbeats 4000000 in
theorem s_X12_carry {l : Launch} {n0 : Nat} {D : va_G} {cA : Nat → ClassId} {M : gM} (a : Int) (r_a : -2147483648 ≤ a ∧ a ≤ 2147483647) {sz : Nat} (hsz : 206 ≤ sz) (I : gI sz M) (C : gC sz M)   : Met l yX12_carry (gWsOf yX12_carry cX12_carry 3 (Option.some Jvm.ClassFile.FieldType.int)) R_X12_carry (gPc n0 D cA [gA n0 190, gJ a] M sz) (gQi n0 D cA sz (fun z M1 => (-3 ≤ z ∧ z ≤ 5) ∧ gI sz M1 ∧ gC sz M1 ∧ gFr 618970019643816037356404736 M M1)) 0 0 (fun q => n0 ≤ q) := by
  refine gMetI [gA n0 190, gJ a] (by decide) (Nat.le_of_ble_eq_true rfl) ⟨rfl, rfl⟩ ?_
  intro p e s m args below meth cd Q X hq
  have X : gCx p s m args meth cd n0 D cA "ParishUnionModel" cX12_carry 3 := X
  show G p l e R_X12_carry s m args below meth cd n0 D cA 3 Q 0 0 M sz 0 [(0, gA n0 190), (1, gJ a)] []
  refine g_aload_n (n := 1) X 0 dX12_carry_0 rfl rfl rfl ?_
  refine g_iload_n (n := 2) X 1 dX12_carry_1 rfl rfl rfl ?_
  refine g_callVi (n := 5) (As := [gJ a]) (rest := []) (cs1 := 0) (ss1 := 0) X (s_X12_isOrder a (by omega) hsz I C ) okX12_isOrder kw_7_102 ⟨kw_7_104, kw_0_73⟩ ⟨rfl, rfl⟩ ⟨Nat.le_of_ble_eq_true rfl, Nat.le_of_ble_eq_true rfl⟩ rfl (by decide) (gsz hsz (by decide)) lay_190 rfl rfl (Nat.le_of_ble_eq_true rfl) ⟨Nat.le_of_ble_eq_true rfl, Nat.le_of_ble_eq_true rfl⟩ rfl rfl dX12_carry_2 rfl (fun v1 M2 P3 => ?_)
  obtain ⟨rfl, rv1, xv1⟩ := P3
  refine g_if_ne (n := 8) (tgt := 10) X dX12_carry_5 (by decide) (by omega) rfl (fun c4 => ?_) (fun c4 => ?_)
  · refine g_aload_n (n := 11) X 0 dX12_carry_10 rfl rfl rfl ?_
    refine gg_12_1 (n := 14) (z := 191) X (by decide) (gsz hsz (by decide)) lay_190 kw_6_27 dX12_carry_11 rfl (rf_190_1 I (gsz hsz (by decide))) (by decide) ?_
    refine g_sipush (n := 17) X dX12_carry_14 (by decide +kernel) rfl ?_
    refine g_iload_n (n := 18) X 1 dX12_carry_17 rfl rfl rfl ?_
    refine g_iadd (n := 19) (z := a + 2340) X dX12_carry_18 (by omega) rfl ?_
    obtain ⟨v5, hv5, rv5⟩ := gRd I (by decide) (gsz hsz (by decide)) (rs_OWHO (k := a + 2340) (by omega)).1
    refine g_iald2 (n := 20) (v := v5) X (by decide) (gsz hsz (by decide)) lay_191 (by omega) (by omega) (by decide) dX12_carry_19 rfl hv5 ?_
    refine g_istore_n (n := 21) (L' := [(2, gJ v5), (0, gA n0 190), (1, gJ a)]) X dX12_carry_20 rfl (by decide) rfl rfl ?_
    refine g_aload_n (n := 22) X 1 dX12_carry_21 rfl rfl rfl ?_
    refine gg_12_1 (n := 25) (z := 191) X (by decide) (gsz hsz (by decide)) lay_190 kw_6_27 dX12_carry_22 rfl (rf_190_1 I (gsz hsz (by decide))) (by decide) ?_
    refine g_sipush (n := 28) X dX12_carry_25 (by decide +kernel) rfl ?_
    refine g_iload_n (n := 29) X 2 dX12_carry_28 rfl rfl rfl ?_
    refine g_iadd (n := 30) (z := a + 2420) X dX12_carry_29 (by omega) rfl ?_
    obtain ⟨v6, hv6, rv6⟩ := gRd I (by decide) (gsz hsz (by decide)) (rs_ODONE (k := a + 2420) (by omega)).1
    refine g_iald2 (n := 31) (v := v6) X (by decide) (gsz hsz (by decide)) lay_191 (by omega) (by omega) (by decide) dX12_carry_30 rfl hv6 ?_
    refine g_iconst (n := 32) X dX12_carry_31 rfl ?_
    refine g_icmp_eq (n := 35) (tgt := 58) X dX12_carry_32 (by decide) (by omega) (by omega) rfl (fun c7 => ?_) (fun c7 => ?_)
    · refine g_bipush (n := 60) X dX12_carry_58 (by decide +kernel) rfl ?_
      exact hq _ _ _ _ dX12_carry_60 ⟨by omega, I, C, gFr.rf⟩
    · refine g_aload_n (n := 36) X 1 dX12_carry_35 rfl rfl rfl ?_
      refine gg_12_1 (n := 39) (z := 191) X (by decide) (gsz hsz (by decide)) lay_190 kw_6_27 dX12_carry_36 rfl (rf_190_1 I (gsz hsz (by decide))) (by decide) ?_
      refine g_sipush (n := 42) X dX12_carry_39 (by decide +kernel) rfl ?_
      refine g_iload_n (n := 43) X 0 dX12_carry_42 rfl rfl rfl ?_
      refine g_iadd (n := 44) (z := v5 + 160) X dX12_carry_43 (by omega) rfl ?_
      obtain ⟨v8, hv8, rv8⟩ := gRd I (by decide) (gsz hsz (by decide)) (rs_AT (k := v5 + 160) (by omega)).1
      refine g_iald2 (n := 45) (v := v8) X (by decide) (gsz hsz (by decide)) lay_191 (by omega) (by omega) (by decide) dX12_carry_44 rfl hv8 ?_
      refine g_aload_n (n := 46) X 1 dX12_carry_45 rfl rfl rfl ?_
      refine gg_12_1 (n := 49) (z := 191) X (by decide) (gsz hsz (by decide)) lay_190 kw_6_27 dX12_carry_46 rfl (rf_190_1 I (gsz hsz (by decide))) (by decide) ?_
      refine g_sipush (n := 52) X dX12_carry_49 (by decide +kernel) rfl ?_
      refine g_iload_n (n := 53) X 2 dX12_carry_52 rfl rfl rfl ?_
      refine g_iadd (n := 54) (z := a + 2360) X dX12_carry_53 (by omega) rfl ?_
      obtain ⟨v9, hv9, rv9⟩ := gRd I (by decide) (gsz hsz (by decide)) (rs_OFROM (k := a + 2360) (by omega)).1
      refine g_iald2 (n := 55) (v := v9) X (by decide) (gsz hsz (by decide)) lay_191 (by omega) (by omega) (by decide) dX12_carry_54 rfl hv9 ?_
      refine g_icmp_eq (n := 58) (tgt := 61) X dX12_carry_55 (by decide) (by omega) (by omega) rfl (fun c10 => ?_) (fun c10 => ?_)
      · refine g_aload_n (n := 62) X 1 dX12_carry_61 rfl rfl rfl ?_
        refine gg_12_1 (n := 65) (z := 191) X (by decide) (gsz hsz (by decide)) lay_190 kw_6_27 dX12_carry_62 rfl (rf_190_1 I (gsz hsz (by decide))) (by decide) ?_
        refine g_sipush (n := 68) X dX12_carry_65 (by decide +kernel) rfl ?_
        refine g_iload_n (n := 69) X 2 dX12_carry_68 rfl rfl rfl ?_
        refine g_iadd (n := 70) (z := a + 2420) X dX12_carry_69 (by omega) rfl ?_
        refine g_iconst (n := 71) X dX12_carry_70 rfl ?_
        refine g_iast (n := 72) X (by decide) (gsz hsz (by decide)) lay_191 (by omega) (by omega) (by decide) dX12_carry_71 rfl ?_
        refine G.nm (fun M11 e12 => ?_)
        have IM11 : gI sz M11 := gI.set I (rs_ODONE (k := a + 2420) (by omega)).1 (by omega) e12
        have CM11 : gC sz M11 := gC.set C (rs_ODONE (k := a + 2420) (by omega)).2.1 e12
        refine g_aload_n (n := 73) X 1 dX12_carry_72 rfl rfl rfl ?_
        refine gg_12_1 (n := 76) (z := 191) X (by decide) (gsz hsz (by decide)) lay_190 kw_6_27 dX12_carry_73 rfl (rf_190_1 IM11 (gsz hsz (by decide))) (by decide) ?_
        refine g_sipush (n := 79) X dX12_carry_76 (by decide +kernel) rfl ?_
        refine g_iload_n (n := 80) X 0 dX12_carry_79 rfl rfl rfl ?_
        refine g_iadd (n := 81) (z := v5 + 160) X dX12_carry_80 (by omega) rfl ?_
        refine g_aload_n (n := 82) X 1 dX12_carry_81 rfl rfl rfl ?_
        refine gg_12_1 (n := 85) (z := 191) X (by decide) (gsz hsz (by decide)) lay_190 kw_6_27 dX12_carry_82 rfl (rf_190_1 IM11 (gsz hsz (by decide))) (by decide) ?_
        refine g_sipush (n := 88) X dX12_carry_85 (by decide +kernel) rfl ?_
        refine g_iload_n (n := 89) X 2 dX12_carry_88 rfl rfl rfl ?_
        refine g_iadd (n := 90) (z := a + 2380) X dX12_carry_89 (by omega) rfl ?_
        obtain ⟨v13, hv13, rv13⟩ := gRd IM11 (by decide) (gsz hsz (by decide)) (rs_OTO (k := a + 2380) (by omega)).1
        refine g_iald2 (n := 91) (v := v13) X (by decide) (gsz hsz (by decide)) lay_191 (by omega) (by omega) (by decide) dX12_carry_90 rfl hv13 ?_
        refine g_iast (n := 92) X (by decide) (gsz hsz (by decide)) lay_191 (by omega) (by omega) (by decide) dX12_carry_91 rfl ?_
        refine G.nm (fun M14 e15 => ?_)
        have IM14 : gI sz M14 := gI.set IM11 (rs_AT (k := v5 + 160) (by omega)).1 (by omega) e15
        have CM14 : gC sz M14 := gC.set CM11 (rs_AT (k := v5 + 160) (by omega)).2.1 e15
        refine g_aload_n (n := 93) X 1 dX12_carry_92 rfl rfl rfl ?_
        refine gg_12_1 (n := 96) (z := 191) X (by decide) (gsz hsz (by decide)) lay_190 kw_6_27 dX12_carry_93 rfl (rf_190_1 IM14 (gsz hsz (by decide))) (by decide) ?_
        refine g_sipush (n := 99) X dX12_carry_96 (by decide +kernel) rfl ?_
        refine g_iload_n (n := 100) X 2 dX12_carry_99 rfl rfl rfl ?_
        refine g_iadd (n := 101) (z := a + 2380) X dX12_carry_100 (by omega) rfl ?_
        refine g_iald2 (n := 102) (v := v13) X (by decide) (gsz hsz (by decide)) lay_191 (by omega) (by omega) (by decide) dX12_carry_101 rfl ((congrFun (congrFun e15 _) _).trans ((gset_ne (by omega)).trans hv13)) ?_
        exact hq _ _ _ _ dX12_carry_102 ⟨by omega, IM14, CM14, (gFr.s (gFr.s gFr.rf e12 (rs_ODONE (k := a + 2420) (by omega)).2.2 rfl) e15 (rs_AT (k := v5 + 160) (by omega)).2.2 rfl)⟩
      · refine g_bipush (n := 60) X dX12_carry_58 (by decide +kernel) rfl ?_
        exact hq _ _ _ _ dX12_carry_60 ⟨by omega, I, C, gFr.rf⟩
  · refine g_iconst (n := 9) X dX12_carry_8 rfl ?_
    exact hq _ _ _ _ dX12_carry_9 ⟨by omega, I, C, gFr.rf⟩
theorem dX12_bind_0 : decode cX12_bind 0 = .ok (.aload_n 0, 1) := dc_42 (by decide +kernel)
theorem dX12_bind_1 : decode cX12_bind 1 = .ok (.iload_n 1, 1) := dc_27 (by decide +kernel)
theorem dX12_bind_2 : decode cX12_bind 2 = .ok (.invokevirtual 76, 3) := dc_182 0 76 (by decide +kernel)
theorem dX12_bind_5 : decode cX12_bind 5 = .ok (.ifCond .eq 12, 3) := dc_153 0 12 12 (by decide +kernel)
theorem dX12_bind_17 : decode cX12_bind 17 = .ok (.iconst (-1), 1) := dc_2 (by decide +kernel)
theorem dX12_bind_18 : decode cX12_bind 18 = .ok (.ireturn, 1) := dc_172 (by decide +kernel)
theorem dX12_bind_8 : decode cX12_bind 8 = .ok (.iload_n 2, 1) := dc_28 (by decide +kernel)
theorem dX12_bind_9 : decode cX12_bind 9 = .ok (.iconst 0, 1) := dc_3 (by decide +kernel)
theorem dX12_bind_10 : decode cX12_bind 10 = .ok (.iconst 3, 1) := dc_6 (by decide +kernel)
theorem dX12_bind_11 : decode cX12_bind 11 = .ok (.invokestatic 64, 3) := dc_184 0 64 (by decide +kernel)
theorem dX12_bind_14 : decode cX12_bind 14 = .ok (.ifCond .ne 5, 3) := dc_154 0 5 5 (by decide +kernel)
theorem dX12_bind_19 : decode cX12_bind 19 = .ok (.aload_n 0, 1) := dc_42 (by decide +kernel)
theorem dX12_bind_20 : decode cX12_bind 20 = .ok (.iload_n 1, 1) := dc_27 (by decide +kernel)
theorem dX12_bind_21 : decode cX12_bind 21 = .ok (.aload_n 0, 1) := dc_42 (by decide +kernel)
theorem dX12_bind_22 : decode cX12_bind 22 = .ok (.getfield 7, 3) := dc_180 0 7 (by decide +kernel)
theorem dX12_bind_25 : decode cX12_bind 25 = .ok (.iconst 0, 1) := dc_3 (by decide +kernel)
theorem dX12_bind_26 : decode cX12_bind 26 = .ok (.iaload, 1) := dc_46 (by decide +kernel)
theorem dX12_bind_27 : decode cX12_bind 27 = .ok (.invokevirtual 183, 3) := dc_182 0 183 (by decide +kernel)
theorem kw_7_66 : (Jvm.Cond.methodLink "ParishUnionModel" (183 : Nat) ({ cls := "ParishUnionModel", name := "ageOf", desc := "(II)I" } : Jvm.MethodName)) ∈ gT := gT_of (tb_7 _ (List.mem_of_getElem? (i := 66) rfl)) rfl
theorem kw_7_69 : (Jvm.Cond.code ({ cls := "ParishUnionModel", name := "ageOf", desc := "(II)I" } : Jvm.MethodName) prog_14_method_59_code (3 : Nat) (Option.some Jvm.ClassFile.FieldType.int)) ∈ gT := gT_of (tb_7 _ (List.mem_of_getElem? (i := 69) rfl)) rfl
theorem okX12_ageOf : gQok yX12_ageOf cX12_ageOf 3 (Option.some Jvm.ClassFile.FieldType.int) 2 := ⟨kw_7_69, kw_1_13, by decide +kernel, by decide +kernel, by decide +kernel⟩
theorem kw_7_68 : (Jvm.Cond.instanceMethod ({ cls := "ParishUnionModel", name := "ageOf", desc := "(II)I" } : Jvm.MethodName)) ∈ gT := gT_of (tb_7 _ (List.mem_of_getElem? (i := 68) rfl)) rfl
theorem kw_0_68 : (Jvm.Cond.selects "ParishUnionModel" ({ cls := "ParishUnionModel", name := "ageOf", desc := "(II)I" } : Jvm.MethodName) ({ cls := "ParishUnionModel", name := "ageOf", desc := "(II)I" } : Jvm.MethodName)) ∈ gT := gT_of (tb_0 _ (List.mem_of_getElem? (i := 68) rfl)) rfl
theorem dX12_bind_30 : decode cX12_bind 30 = .ok (.aload_n 0, 1) := dc_42 (by decide +kernel)
theorem dX12_bind_31 : decode cX12_bind 31 = .ok (.iconst 4, 1) := dc_7 (by decide +kernel)
theorem dX12_bind_32 : decode cX12_bind 32 = .ok (.aload_n 0, 1) := dc_42 (by decide +kernel)
theorem dX12_bind_33 : decode cX12_bind 33 = .ok (.getfield 7, 3) := dc_180 0 7 (by decide +kernel)
theorem dX12_bind_36 : decode cX12_bind 36 = .ok (.iconst 0, 1) := dc_3 (by decide +kernel)
theorem dX12_bind_37 : decode cX12_bind 37 = .ok (.iaload, 1) := dc_46 (by decide +kernel)
theorem dX12_bind_38 : decode cX12_bind 38 = .ok (.invokevirtual 101, 3) := dc_182 0 101 (by decide +kernel)
theorem dX12_bind_41 : decode cX12_bind 41 = .ok (.if_icmp .ge 39, 3) := dc_162 0 39 39 (by decide +kernel)
theorem dX12_bind_80 : decode cX12_bind 80 = .ok (.bipush (-3), 2) := dc_16 253 (-3) (by decide +kernel)
theorem dX12_bind_82 : decode cX12_bind 82 = .ok (.ireturn, 1) := dc_172 (by decide +kernel)
theorem dX12_bind_44 : decode cX12_bind 44 = .ok (.aload_n 0, 1) := dc_42 (by decide +kernel)
theorem dX12_bind_45 : decode cX12_bind 45 = .ok (.getfield 7, 3) := dc_180 0 7 (by decide +kernel)
theorem dX12_bind_48 : decode cX12_bind 48 = .ok (.sipush 160, 3) := dc_17 0 160 160 (by decide +kernel)
theorem dX12_bind_51 : decode cX12_bind 51 = .ok (.iload_n 1, 1) := dc_27 (by decide +kernel)
theorem dX12_bind_52 : decode cX12_bind 52 = .ok (.iadd, 1) := dc_96 (by decide +kernel)
theorem dX12_bind_53 : decode cX12_bind 53 = .ok (.iaload, 1) := dc_46 (by decide +kernel)
theorem dX12_bind_54 : decode cX12_bind 54 = .ok (.bipush 6, 2) := dc_16 6 6 (by decide +kernel)
theorem dX12_bind_56 : decode cX12_bind 56 = .ok (.if_icmp .gt 24, 3) := dc_163 0 24 24 (by decide +kernel)
theorem dX12_bind_59 : decode cX12_bind 59 = .ok (.aload_n 0, 1) := dc_42 (by decide +kernel)
theorem dX12_bind_60 : decode cX12_bind 60 = .ok (.getfield 7, 3) := dc_180 0 7 (by decide +kernel)
theorem dX12_bind_63 : decode cX12_bind 63 = .ok (.bipush 68, 2) := dc_16 68 68 (by decide +kernel)
theorem dX12_bind_65 : decode cX12_bind 65 = .ok (.iload_n 2, 1) := dc_28 (by decide +kernel)
theorem dX12_bind_66 : decode cX12_bind 66 = .ok (.iadd, 1) := dc_96 (by decide +kernel)
theorem dX12_bind_67 : decode cX12_bind 67 = .ok (.iaload, 1) := dc_46 (by decide +kernel)
theorem dX12_bind_68 : decode cX12_bind 68 = .ok (.aload_n 0, 1) := dc_42 (by decide +kernel)
theorem dX12_bind_69 : decode cX12_bind 69 = .ok (.getfield 7, 3) := dc_180 0 7 (by decide +kernel)
theorem dX12_bind_72 : decode cX12_bind 72 = .ok (.bipush 64, 2) := dc_16 64 64 (by decide +kernel)
theorem dX12_bind_74 : decode cX12_bind 74 = .ok (.iload_n 2, 1) := dc_28 (by decide +kernel)
theorem dX12_bind_75 : decode cX12_bind 75 = .ok (.iadd, 1) := dc_96 (by decide +kernel)
theorem dX12_bind_76 : decode cX12_bind 76 = .ok (.iaload, 1) := dc_46 (by decide +kernel)
theorem dX12_bind_77 : decode cX12_bind 77 = .ok (.if_icmp .ne 6, 3) := dc_160 0 6 6 (by decide +kernel)
theorem dX12_bind_83 : decode cX12_bind 83 = .ok (.aload_n 0, 1) := dc_42 (by decide +kernel)
theorem dX12_bind_84 : decode cX12_bind 84 = .ok (.iload_n 1, 1) := dc_27 (by decide +kernel)
theorem dX12_bind_85 : decode cX12_bind 85 = .ok (.bipush 7, 2) := dc_16 7 7 (by decide +kernel)
theorem dX12_bind_87 : decode cX12_bind 87 = .ok (.invokevirtual 263, 3) := dc_182 1 7 (by decide +kernel)
theorem kw_7_162 : (Jvm.Cond.methodLink "ParishUnionModel" (263 : Nat) ({ cls := "ParishUnionModel", name := "leaves", desc := "(II)V" } : Jvm.MethodName)) ∈ gT := gT_of (tb_7 _ (List.mem_of_getElem? (i := 162) rfl)) rfl
theorem kw_7_165 : (Jvm.Cond.code ({ cls := "ParishUnionModel", name := "leaves", desc := "(II)V" } : Jvm.MethodName) prog_14_method_73_code (3 : Nat) (Option.none : Option Jvm.ClassFile.FieldType)) ∈ gT := gT_of (tb_7 _ (List.mem_of_getElem? (i := 165) rfl)) rfl
theorem okX12_leaves : gQok yX12_leaves cX12_leaves 3 (Option.none : Option Jvm.ClassFile.FieldType) 2 := ⟨kw_7_165, kw_1_13, by decide +kernel, by decide +kernel, by decide +kernel⟩
theorem kw_7_164 : (Jvm.Cond.instanceMethod ({ cls := "ParishUnionModel", name := "leaves", desc := "(II)V" } : Jvm.MethodName)) ∈ gT := gT_of (tb_7 _ (List.mem_of_getElem? (i := 164) rfl)) rfl
theorem kw_0_81 : (Jvm.Cond.selects "ParishUnionModel" ({ cls := "ParishUnionModel", name := "leaves", desc := "(II)V" } : Jvm.MethodName) ({ cls := "ParishUnionModel", name := "leaves", desc := "(II)V" } : Jvm.MethodName)) ∈ gT := gT_of (tb_0 _ (List.mem_of_getElem? (i := 81) rfl)) rfl
theorem dX12_bind_90 : decode cX12_bind 90 = .ok (.aload_n 0, 1) := dc_42 (by decide +kernel)
theorem dX12_bind_91 : decode cX12_bind 91 = .ok (.getfield 7, 3) := dc_180 0 7 (by decide +kernel)
theorem dX12_bind_94 : decode cX12_bind 94 = .ok (.sipush 224, 3) := dc_17 0 224 224 (by decide +kernel)
theorem dX12_bind_97 : decode cX12_bind 97 = .ok (.iload_n 1, 1) := dc_27 (by decide +kernel)
theorem dX12_bind_98 : decode cX12_bind 98 = .ok (.iadd, 1) := dc_96 (by decide +kernel)
theorem dX12_bind_99 : decode cX12_bind 99 = .ok (.iload_n 2, 1) := dc_28 (by decide +kernel)
theorem dX12_bind_100 : decode cX12_bind 100 = .ok (.iastore, 1) := dc_79 (by decide +kernel)
theorem dX12_bind_101 : decode cX12_bind 101 = .ok (.aload_n 0, 1) := dc_42 (by decide +kernel)
theorem dX12_bind_102 : decode cX12_bind 102 = .ok (.getfield 7, 3) := dc_180 0 7 (by decide +kernel)
theorem dX12_bind_105 : decode cX12_bind 105 = .ok (.bipush 68, 2) := dc_16 68 68 (by decide +kernel)
theorem dX12_bind_107 : decode cX12_bind 107 = .ok (.iload_n 2, 1) := dc_28 (by decide +kernel)
theorem dX12_bind_108 : decode cX12_bind 108 = .ok (.iadd, 1) := dc_96 (by decide +kernel)
theorem dX12_bind_109 : decode cX12_bind 109 = .ok (.dup2, 1) := dc_92 (by decide +kernel)
theorem dX12_bind_110 : decode cX12_bind 110 = .ok (.iaload, 1) := dc_46 (by decide +kernel)
theorem dX12_bind_111 : decode cX12_bind 111 = .ok (.iconst 1, 1) := dc_4 (by decide +kernel)
theorem dX12_bind_112 : decode cX12_bind 112 = .ok (.iadd, 1) := dc_96 (by decide +kernel)
theorem dX12_bind_113 : decode cX12_bind 113 = .ok (.iastore, 1) := dc_79 (by decide +kernel)
theorem dX12_bind_114 : decode cX12_bind 114 = .ok (.aload_n 0, 1) := dc_42 (by decide +kernel)
theorem dX12_bind_115 : decode cX12_bind 115 = .ok (.getfield 7, 3) := dc_180 0 7 (by decide +kernel)
theorem dX12_bind_118 : decode cX12_bind 118 = .ok (.bipush 68, 2) := dc_16 68 68 (by decide +kernel)
theorem dX12_bind_120 : decode cX12_bind 120 = .ok (.iload_n 2, 1) := dc_28 (by decide +kernel)
theorem dX12_bind_121 : decode cX12_bind 121 = .ok (.iadd, 1) := dc_96 (by decide +kernel)
theorem dX12_bind_122 : decode cX12_bind 122 = .ok (.iaload, 1) := dc_46 (by decide +kernel)
theorem dX12_bind_123 : decode cX12_bind 123 = .ok (.ireturn, 1) := dc_172 (by decide +kernel)
abbrev R_X12_bind : Room := { frames := 3, cells := 0, slots := 0, locals := 72 }
set_option maxRecDepth 100000 in
set_option maxHeartbeats 4000000 in
theorem s_X12_bind {l : Launch} {n0 : Nat} {D : va_G} {cA : Nat → ClassId} {M : gM} (a : Int) (r_a : -2147483648 ≤ a ∧ a ≤ 2147483647) (b : Int) (r_b : -2147483648 ≤ b ∧ b ≤ 2147483647) {sz : Nat} (hsz : 206 ≤ sz) (I : gI sz M) (C : gC sz M)   : Met l yX12_bind (gWsOf yX12_bind cX12_bind 3 (Option.some Jvm.ClassFile.FieldType.int)) R_X12_bind (gPc n0 D cA [gA n0 190, gJ a, gJ b] M sz) (gQi n0 D cA sz (fun z M1 => (-2147483648 ≤ z ∧ z ≤ 2147483647) ∧ gI sz M1 ∧ gC sz M1 ∧ gFr 1407374883553280 M M1)) 0 0 (fun q => n0 ≤ q) := by
  refine gMetI [gA n0 190, gJ a, gJ b] (by decide) (Nat.le_of_ble_eq_true rfl) ⟨rfl, rfl⟩ ?_
  intro p e s m args below meth cd Q X hq
  have X : gCx p s m args meth cd n0 D cA "ParishUnionModel" cX12_bind 3 := X
  show G p l e R_X12_bind s m args below meth cd n0 D cA 3 Q 0 0 M sz 0 [(0, gA n0 190), (1, gJ a), (2, gJ b)] []
  refine g_aload_n (n := 1) X 0 dX12_bind_0 rfl rfl rfl ?_
  refine g_iload_n (n := 2) X 1 dX12_bind_1 rfl rfl rfl ?_
  refine g_callVi (n := 5) (As := [gJ a]) (rest := []) (cs1 := 0) (ss1 := 0) X (s_X12_isPerson a (by omega) hsz I C ) okX12_isPerson kw_6_125 ⟨kw_6_127, kw_0_40⟩ ⟨rfl, rfl⟩ ⟨Nat.le_of_ble_eq_true rfl, Nat.le_of_ble_eq_true rfl⟩ rfl (by decide) (gsz hsz (by decide)) lay_190 rfl rfl (Nat.le_of_ble_eq_true rfl) ⟨Nat.le_of_ble_eq_true rfl, Nat.le_of_ble_eq_true rfl⟩ rfl rfl dX12_bind_2 rfl (fun v1 M2 P3 => ?_)
  obtain ⟨rfl, rv1, xv1⟩ := P3
  refine g_if_eq (n := 8) (tgt := 17) X dX12_bind_5 (by decide) (by omega) rfl (fun c4 => ?_) (fun c4 => ?_)
  · refine g_iconst (n := 18) X dX12_bind_17 rfl ?_
    exact hq _ _ _ _ dX12_bind_18 ⟨by omega, I, C, gFr.rf⟩
  · refine g_iload_n (n := 9) X 2 dX12_bind_8 rfl rfl rfl ?_
    refine g_iconst (n := 10) X dX12_bind_9 rfl ?_
    refine g_iconst (n := 11) X dX12_bind_10 rfl ?_
    refine g_callSi (n := 14) (As := [gJ b, gJ 0, gJ 3]) (rest := []) (cs1 := 0) (ss1 := 0) X (s_X12_in b (by omega) 0 (by omega) 3 (by omega) hsz I C ) okX12_in kw_6_106 kw_6_107 ⟨rfl, rfl⟩ ⟨Nat.le_of_ble_eq_true rfl, Nat.le_of_ble_eq_true rfl⟩ rfl rfl (Nat.le_of_ble_eq_true rfl) ⟨Nat.le_of_ble_eq_true rfl, Nat.le_of_ble_eq_true rfl⟩ rfl rfl dX12_bind_11 rfl (fun v5 M6 P7 => ?_)
    obtain ⟨rfl, rv5, xv5⟩ := P7
    refine g_if_ne (n := 17) (tgt := 19) X dX12_bind_14 (by decide) (by omega) rfl (fun c8 => ?_) (fun c8 => ?_)
    · refine g_aload_n (n := 20) X 0 dX12_bind_19 rfl rfl rfl ?_
      refine g_iload_n (n := 21) X 1 dX12_bind_20 rfl rfl rfl ?_
      refine g_aload_n (n := 22) X 0 dX12_bind_21 rfl rfl rfl ?_
      refine gg_12_1 (n := 25) (z := 191) X (by decide) (gsz hsz (by decide)) lay_190 kw_6_27 dX12_bind_22 rfl (rf_190_1 I (gsz hsz (by decide))) (by decide) ?_
      refine g_iconst (n := 26) X dX12_bind_25 rfl ?_
      obtain ⟨v9, hv9, rv9⟩ := gRd I (by decide) (gsz hsz (by decide)) (rs_NOW (k := 0) (by omega)).1
      refine g_iald2 (n := 27) (v := v9) X (by decide) (gsz hsz (by decide)) lay_191 (by omega) (by omega) (by decide) dX12_bind_26 rfl hv9 ?_
      refine g_callVi (n := 30) (As := [gJ a, gJ v9]) (rest := []) (cs1 := 0) (ss1 := 0) X (s_X12_ageOf a (by omega) v9 (by omega) hsz I C ) okX12_ageOf kw_7_66 ⟨kw_7_68, kw_0_68⟩ ⟨rfl, rfl⟩ ⟨Nat.le_of_ble_eq_true rfl, Nat.le_of_ble_eq_true rfl⟩ rfl (by decide) (gsz hsz (by decide)) lay_190 rfl rfl (Nat.le_of_ble_eq_true rfl) ⟨Nat.le_of_ble_eq_true rfl, Nat.le_of_ble_eq_true rfl⟩ rfl rfl dX12_bind_27 rfl (fun v10 M11 P12 => ?_)
      obtain ⟨rfl, rv10⟩ := P12
      refine g_aload_n (n := 31) X 0 dX12_bind_30 rfl rfl rfl ?_
      refine g_iconst (n := 32) X dX12_bind_31 rfl ?_
      refine g_aload_n (n := 33) X 0 dX12_bind_32 rfl rfl rfl ?_
      refine gg_12_1 (n := 36) (z := 191) X (by decide) (gsz hsz (by decide)) lay_190 kw_6_27 dX12_bind_33 rfl (rf_190_1 I (gsz hsz (by decide))) (by decide) ?_
      refine g_iconst (n := 37) X dX12_bind_36 rfl ?_
      refine g_iald2 (n := 38) (v := v9) X (by decide) (gsz hsz (by decide)) lay_191 (by omega) (by omega) (by decide) dX12_bind_37 rfl hv9 ?_
      refine g_callVi (n := 41) (As := [gJ 4, gJ v9]) (rest := [gJ v10]) (cs1 := 0) (ss1 := 0) X (s_X12_law 4 (by omega) v9 (by omega) hsz I C ) okX12_law kw_6_193 ⟨kw_6_195, kw_0_49⟩ ⟨rfl, rfl⟩ ⟨Nat.le_of_ble_eq_true rfl, Nat.le_of_ble_eq_true rfl⟩ rfl (by decide) (gsz hsz (by decide)) lay_190 rfl rfl (Nat.le_of_ble_eq_true rfl) ⟨Nat.le_of_ble_eq_true rfl, Nat.le_of_ble_eq_true rfl⟩ rfl rfl dX12_bind_38 rfl (fun v13 M14 P15 => ?_)
      obtain ⟨rfl, rv13⟩ := P15
      refine g_icmp_ge (n := 44) (tgt := 80) X dX12_bind_41 (by decide) (by omega) (by omega) rfl (fun c16 => ?_) (fun c16 => ?_)
      · refine g_bipush (n := 82) X dX12_bind_80 (by decide +kernel) rfl ?_
        exact hq _ _ _ _ dX12_bind_82 ⟨by omega, I, C, gFr.rf⟩
      · refine g_aload_n (n := 45) X 0 dX12_bind_44 rfl rfl rfl ?_
        refine gg_12_1 (n := 48) (z := 191) X (by decide) (gsz hsz (by decide)) lay_190 kw_6_27 dX12_bind_45 rfl (rf_190_1 I (gsz hsz (by decide))) (by decide) ?_
        refine g_sipush (n := 51) X dX12_bind_48 (by decide +kernel) rfl ?_
        refine g_iload_n (n := 52) X 1 dX12_bind_51 rfl rfl rfl ?_
        refine g_iadd (n := 53) (z := a + 160) X dX12_bind_52 (by omega) rfl ?_
        obtain ⟨v17, hv17, rv17⟩ := gRd I (by decide) (gsz hsz (by decide)) (rs_AT (k := a + 160) (by omega)).1
        refine g_iald2 (n := 54) (v := v17) X (by decide) (gsz hsz (by decide)) lay_191 (by omega) (by omega) (by decide) dX12_bind_53 rfl hv17 ?_
        refine g_bipush (n := 56) X dX12_bind_54 (by decide +kernel) rfl ?_
        refine g_icmp_gt (n := 59) (tgt := 80) X dX12_bind_56 (by decide) (by omega) (by omega) rfl (fun c18 => ?_) (fun c18 => ?_)
        · refine g_bipush (n := 82) X dX12_bind_80 (by decide +kernel) rfl ?_
          exact hq _ _ _ _ dX12_bind_82 ⟨by omega, I, C, gFr.rf⟩
        · refine g_aload_n (n := 60) X 0 dX12_bind_59 rfl rfl rfl ?_
          refine gg_12_1 (n := 63) (z := 191) X (by decide) (gsz hsz (by decide)) lay_190 kw_6_27 dX12_bind_60 rfl (rf_190_1 I (gsz hsz (by decide))) (by decide) ?_
          refine g_bipush (n := 65) X dX12_bind_63 (by decide +kernel) rfl ?_
          refine g_iload_n (n := 66) X 2 dX12_bind_65 rfl rfl rfl ?_
          refine g_iadd (n := 67) (z := b + 68) X dX12_bind_66 (by omega) rfl ?_
          obtain ⟨v19, hv19, rv19⟩ := gRd I (by decide) (gsz hsz (by decide)) (rs_ROOM (k := b + 68) (by omega)).1
          refine g_iald2 (n := 68) (v := v19) X (by decide) (gsz hsz (by decide)) lay_191 (by omega) (by omega) (by decide) dX12_bind_67 rfl hv19 ?_
          refine g_aload_n (n := 69) X 0 dX12_bind_68 rfl rfl rfl ?_
          refine gg_12_1 (n := 72) (z := 191) X (by decide) (gsz hsz (by decide)) lay_190 kw_6_27 dX12_bind_69 rfl (rf_190_1 I (gsz hsz (by decide))) (by decide) ?_
          refine g_bipush (n := 74) X dX12_bind_72 (by decide +kernel) rfl ?_
          refine g_iload_n (n := 75) X 2 dX12_bind_74 rfl rfl rfl ?_
          refine g_iadd (n := 76) (z := b + 64) X dX12_bind_75 (by omega) rfl ?_
          obtain ⟨v20, hv20, rv20⟩ := gRd I (by decide) (gsz hsz (by decide)) (rs_ROOM (k := b + 64) (by omega)).1
          refine g_iald2 (n := 77) (v := v20) X (by decide) (gsz hsz (by decide)) lay_191 (by omega) (by omega) (by decide) dX12_bind_76 rfl hv20 ?_
          refine g_icmp_ne (n := 80) (tgt := 83) X dX12_bind_77 (by decide) (by omega) (by omega) rfl (fun c21 => ?_) (fun c21 => ?_)
          · refine g_aload_n (n := 84) X 0 dX12_bind_83 rfl rfl rfl ?_
            refine g_iload_n (n := 85) X 1 dX12_bind_84 rfl rfl rfl ?_
            refine g_bipush (n := 87) X dX12_bind_85 (by decide +kernel) rfl ?_
            refine g_callVv (n := 90) (As := [gJ a, gJ 7]) (rest := []) (cs1 := 0) (ss1 := 0) X (s_X12_leaves a (by omega) 7 (by omega) hsz I C ) okX12_leaves kw_7_162 ⟨kw_7_164, kw_0_81⟩ ⟨rfl, rfl⟩ ⟨Nat.le_of_ble_eq_true rfl, Nat.le_of_ble_eq_true rfl⟩ rfl (by decide) (gsz hsz (by decide)) lay_190 rfl rfl (Nat.le_of_ble_eq_true rfl) ⟨Nat.le_of_ble_eq_true rfl, Nat.le_of_ble_eq_true rfl⟩ rfl rfl dX12_bind_87 rfl (fun M23 P24 => ?_)
            obtain ⟨IM23, CM23, FM23⟩ := P24
            refine g_aload_n (n := 91) X 0 dX12_bind_90 rfl rfl rfl ?_
            refine gg_12_1 (n := 94) (z := 191) X (by decide) (gsz hsz (by decide)) lay_190 kw_6_27 dX12_bind_91 rfl (rf_190_1 IM23 (gsz hsz (by decide))) (by decide) ?_
            refine g_sipush (n := 97) X dX12_bind_94 (by decide +kernel) rfl ?_
            refine g_iload_n (n := 98) X 1 dX12_bind_97 rfl rfl rfl ?_
            refine g_iadd (n := 99) (z := a + 224) X dX12_bind_98 (by omega) rfl ?_
            refine g_iload_n (n := 100) X 2 dX12_bind_99 rfl rfl rfl ?_
            refine g_iast (n := 101) X (by decide) (gsz hsz (by decide)) lay_191 (by omega) (by omega) (by decide) dX12_bind_100 rfl ?_
            refine G.nm (fun M25 e26 => ?_)
            have IM25 : gI sz M25 := gI.set IM23 (rs_MASTER (k := a + 224) (by omega)).1 (by omega) e26
            have CM25 : gC sz M25 := gC.set CM23 (rs_MASTER (k := a + 224) (by omega)).2.1 e26
            refine g_aload_n (n := 102) X 0 dX12_bind_101 rfl rfl rfl ?_
            refine gg_12_1 (n := 105) (z := 191) X (by decide) (gsz hsz (by decide)) lay_190 kw_6_27 dX12_bind_102 rfl (rf_190_1 IM25 (gsz hsz (by decide))) (by decide) ?_
            refine g_bipush (n := 107) X dX12_bind_105 (by decide +kernel) rfl ?_
            refine g_iload_n (n := 108) X 2 dX12_bind_107 rfl rfl rfl ?_
            refine g_iadd (n := 109) (z := b + 68) X dX12_bind_108 (by omega) rfl ?_
            refine g_dup2 (n := 110) X dX12_bind_109 rfl rfl rfl ?_
            refine g_iald2 (n := 111) (v := v19) X (by decide) (gsz hsz (by decide)) lay_191 (by omega) (by omega) (by decide) dX12_bind_110 rfl ((congrFun (congrFun e26 _) _).trans ((gset_ne (by omega)).trans ((gFr.at FM23 (rs_ROOM (k := b + 68) (by omega)).2.2 rfl).trans hv19))) ?_
            refine g_iconst (n := 112) X dX12_bind_111 rfl ?_
            refine g_iaddA (n := 113) X dX12_bind_112 rfl (fun v27 rv27 xv27 => ?_)
            clear xv27
            refine g_iast (n := 114) X (by decide) (gsz hsz (by decide)) lay_191 (by omega) (by omega) (by decide) dX12_bind_113 rfl ?_
            refine G.nm (fun M28 e29 => ?_)
            have IM28 : gI sz M28 := gI.set IM25 (rs_ROOM (k := b + 68) (by omega)).1 (by omega) e29
            have CM28 : gC sz M28 := gC.set CM25 (rs_ROOM (k := b + 68) (by omega)).2.1 e29
            refine g_aload_n (n := 115) X 0 dX12_bind_114 rfl rfl rfl ?_
            refine gg_12_1 (n := 118) (z := 191) X (by decide) (gsz hsz (by decide)) lay_190 kw_6_27 dX12_bind_115 rfl (rf_190_1 IM28 (gsz hsz (by decide))) (by decide) ?_
            refine g_bipush (n := 120) X dX12_bind_118 (by decide +kernel) rfl ?_
            refine g_iload_n (n := 121) X 2 dX12_bind_120 rfl rfl rfl ?_
            refine g_iadd (n := 122) (z := b + 68) X dX12_bind_121 (by omega) rfl ?_
            refine g_iald2 (n := 123) (v := v27) X (by decide) (gsz hsz (by decide)) lay_191 (by omega) (by omega) (by decide) dX12_bind_122 rfl ((congrFun (congrFun e29 _) _).trans (gset_eq _ _ _ _)) ?_
            exact hq _ _ _ _ dX12_bind_123 ⟨by omega, IM28, CM28, (gFr.s (gFr.s (gFr.c gFr.rf FM23 rfl) e26 (rs_MASTER (k := a + 224) (by omega)).2.2 rfl) e29 (rs_ROOM (k := b + 68) (by omega)).2.2 rfl)⟩
          · refine g_bipush (n := 82) X dX12_bind_80 (by decide +kernel) rfl ?_
            exact hq _ _ _ _ dX12_bind_82 ⟨by omega, I, C, gFr.rf⟩
    · refine g_iconst (n := 18) X dX12_bind_17 rfl ?_
      exact hq _ _ _ _ dX12_bind_18 ⟨by omega, I, C, gFr.rf⟩
theorem dX12_run_0 : decode cX12_run 0 = .ok (.aload_n 0, 1) := dc_42 (by decide +kernel)
theorem dX12_run_1 : decode cX12_run 1 = .ok (.iload_n 1, 1) := dc_27 (by decide +kernel)
theorem dX12_run_2 : decode cX12_run 2 = .ok (.invokevirtual 76, 3) := dc_182 0 76 (by decide +kernel)
theorem dX12_run_5 : decode cX12_run 5 = .ok (.ifCond .ne 5, 3) := dc_154 0 5 5 (by decide +kernel)
theorem dX12_run_10 : decode cX12_run 10 = .ok (.aload_n 0, 1) := dc_42 (by decide +kernel)
theorem dX12_run_11 : decode cX12_run 11 = .ok (.getfield 7, 3) := dc_180 0 7 (by decide +kernel)
theorem dX12_run_14 : decode cX12_run 14 = .ok (.sipush 160, 3) := dc_17 0 160 160 (by decide +kernel)
theorem dX12_run_17 : decode cX12_run 17 = .ok (.iload_n 1, 1) := dc_27 (by decide +kernel)
theorem dX12_run_18 : decode cX12_run 18 = .ok (.iadd, 1) := dc_96 (by decide +kernel)
theorem dX12_run_19 : decode cX12_run 19 = .ok (.iaload, 1) := dc_46 (by decide +kernel)
theorem dX12_run_20 : decode cX12_run 20 = .ok (.bipush 7, 2) := dc_16 7 7 (by decide +kernel)
theorem dX12_run_22 : decode cX12_run 22 = .ok (.if_icmp .eq 6, 3) := dc_159 0 6 6 (by decide +kernel)
theorem dX12_run_28 : decode cX12_run 28 = .ok (.aload_n 0, 1) := dc_42 (by decide +kernel)
theorem dX12_run_29 : decode cX12_run 29 = .ok (.getfield 7, 3) := dc_180 0 7 (by decide +kernel)
theorem dX12_run_32 : decode cX12_run 32 = .ok (.bipush 68, 2) := dc_16 68 68 (by decide +kernel)
theorem dX12_run_34 : decode cX12_run 34 = .ok (.aload_n 0, 1) := dc_42 (by decide +kernel)
theorem dX12_run_35 : decode cX12_run 35 = .ok (.getfield 7, 3) := dc_180 0 7 (by decide +kernel)
theorem dX12_run_38 : decode cX12_run 38 = .ok (.sipush 224, 3) := dc_17 0 224 224 (by decide +kernel)
theorem dX12_run_41 : decode cX12_run 41 = .ok (.iload_n 1, 1) := dc_27 (by decide +kernel)
theorem dX12_run_42 : decode cX12_run 42 = .ok (.iadd, 1) := dc_96 (by decide +kernel)
theorem dX12_run_43 : decode cX12_run 43 = .ok (.iaload, 1) := dc_46 (by decide +kernel)
theorem dX12_run_44 : decode cX12_run 44 = .ok (.iadd, 1) := dc_96 (by decide +kernel)
theorem dX12_run_45 : decode cX12_run 45 = .ok (.dup2, 1) := dc_92 (by decide +kernel)
theorem dX12_run_46 : decode cX12_run 46 = .ok (.iaload, 1) := dc_46 (by decide +kernel)
theorem dX12_run_47 : decode cX12_run 47 = .ok (.iconst 1, 1) := dc_4 (by decide +kernel)
theorem dX12_run_48 : decode cX12_run 48 = .ok (.isub, 1) := dc_100 (by decide +kernel)
theorem dX12_run_49 : decode cX12_run 49 = .ok (.iastore, 1) := dc_79 (by decide +kernel)
theorem dX12_run_50 : decode cX12_run 50 = .ok (.aload_n 0, 1) := dc_42 (by decide +kernel)
theorem dX12_run_51 : decode cX12_run 51 = .ok (.getfield 7, 3) := dc_180 0 7 (by decide +kernel)
theorem dX12_run_54 : decode cX12_run 54 = .ok (.sipush 224, 3) := dc_17 0 224 224 (by decide +kernel)
theorem dX12_run_57 : decode cX12_run 57 = .ok (.iload_n 1, 1) := dc_27 (by decide +kernel)
theorem dX12_run_58 : decode cX12_run 58 = .ok (.iadd, 1) := dc_96 (by decide +kernel)
theorem dX12_run_59 : decode cX12_run 59 = .ok (.iconst (-1), 1) := dc_2 (by decide +kernel)
theorem dX12_run_60 : decode cX12_run 60 = .ok (.iastore, 1) := dc_79 (by decide +kernel)
theorem dX12_run_61 : decode cX12_run 61 = .ok (.aload_n 0, 1) := dc_42 (by decide +kernel)
theorem dX12_run_62 : decode cX12_run 62 = .ok (.getfield 7, 3) := dc_180 0 7 (by decide +kernel)
theorem dX12_run_65 : decode cX12_run 65 = .ok (.sipush 160, 3) := dc_17 0 160 160 (by decide +kernel)
theorem dX12_run_68 : decode cX12_run 68 = .ok (.iload_n 1, 1) := dc_27 (by decide +kernel)
theorem dX12_run_69 : decode cX12_run 69 = .ok (.iadd, 1) := dc_96 (by decide +kernel)
theorem dX12_run_70 : decode cX12_run 70 = .ok (.aload_n 0, 1) := dc_42 (by decide +kernel)
theorem dX12_run_71 : decode cX12_run 71 = .ok (.getfield 7, 3) := dc_180 0 7 (by decide +kernel)
theorem dX12_run_74 : decode cX12_run 74 = .ok (.bipush 112, 2) := dc_16 112 112 (by decide +kernel)
theorem dX12_run_76 : decode cX12_run 76 = .ok (.iload_n 1, 1) := dc_27 (by decide +kernel)
theorem dX12_run_77 : decode cX12_run 77 = .ok (.iadd, 1) := dc_96 (by decide +kernel)
theorem dX12_run_78 : decode cX12_run 78 = .ok (.iaload, 1) := dc_46 (by decide +kernel)
theorem dX12_run_79 : decode cX12_run 79 = .ok (.iastore, 1) := dc_79 (by decide +kernel)
theorem dX12_run_80 : decode cX12_run 80 = .ok (.aload_n 0, 1) := dc_42 (by decide +kernel)
theorem dX12_run_81 : decode cX12_run 81 = .ok (.getfield 7, 3) := dc_180 0 7 (by decide +kernel)
theorem dX12_run_84 : decode cX12_run 84 = .ok (.bipush 112, 2) := dc_16 112 112 (by decide +kernel)
theorem dX12_run_86 : decode cX12_run 86 = .ok (.iload_n 1, 1) := dc_27 (by decide +kernel)
theorem dX12_run_87 : decode cX12_run 87 = .ok (.iadd, 1) := dc_96 (by decide +kernel)
theorem dX12_run_88 : decode cX12_run 88 = .ok (.iaload, 1) := dc_46 (by decide +kernel)
theorem dX12_run_89 : decode cX12_run 89 = .ok (.ireturn, 1) := dc_172 (by decide +kernel)
theorem dX12_run_25 : decode cX12_run 25 = .ok (.bipush (-3), 2) := dc_16 253 (-3) (by decide +kernel)
theorem dX12_run_27 : decode cX12_run 27 = .ok (.ireturn, 1) := dc_172 (by decide +kernel)
theorem dX12_run_8 : decode cX12_run 8 = .ok (.iconst (-1), 1) := dc_2 (by decide +kernel)
theorem dX12_run_9 : decode cX12_run 9 = .ok (.ireturn, 1) := dc_172 (by decide +kernel)
abbrev R_X12_run : Room := { frames := 2, cells := 0, slots := 0, locals := 43 }
set_option maxRecDepth 100000 in
set_option maxHeartbeats 4000000 in
theorem s_X12_run {l : Launch} {n0 : Nat} {D : va_G} {cA : Nat → ClassId} {M : gM} (a : Int) (r_a : -2147483648 ≤ a ∧ a ≤ 2147483647) {sz : Nat} (hsz : 206 ≤ sz) (I : gI sz M) (C : gC sz M)   : Met l yX12_run (gWsOf yX12_run cX12_run 2 (Option.some Jvm.ClassFile.FieldType.int)) R_X12_run (gPc n0 D cA [gA n0 190, gJ a] M sz) (gQi n0 D cA sz (fun z M1 => (-3 ≤ z ∧ z ≤ 5) ∧ gI sz M1 ∧ gC sz M1 ∧ gFr 1407374883553280 M M1)) 0 0 (fun q => n0 ≤ q) := by
  refine gMetI [gA n0 190, gJ a] (by decide) (Nat.le_of_ble_eq_true rfl) ⟨rfl, rfl⟩ ?_
  intro p e s m args below meth cd Q X hq
  have X : gCx p s m args meth cd n0 D cA "ParishUnionModel" cX12_run 2 := X
  show G p l e R_X12_run s m args below meth cd n0 D cA 2 Q 0 0 M sz 0 [(0, gA n0 190), (1, gJ a)] []
  refine g_aload_n (n := 1) X 0 dX12_run_0 rfl rfl rfl ?_
  refine g_iload_n (n := 2) X 1 dX12_run_1 rfl rfl rfl ?_
  refine g_callVi (n := 5) (As := [gJ a]) (rest := []) (cs1 := 0) (ss1 := 0) X (s_X12_isPerson a (by omega) hsz I C ) okX12_isPerson kw_6_125 ⟨kw_6_127, kw_0_40⟩ ⟨rfl, rfl⟩ ⟨Nat.le_of_ble_eq_true rfl, Nat.le_of_ble_eq_true rfl⟩ rfl (by decide) (gsz hsz (by decide)) lay_190 rfl rfl (Nat.le_of_ble_eq_true rfl) ⟨Nat.le_of_ble_eq_true rfl, Nat.le_of_ble_eq_true rfl⟩ rfl rfl dX12_run_2 rfl (fun v1 M2 P3 => ?_)
  obtain ⟨rfl, rv1, xv1⟩ := P3
  refine g_if_ne (n := 8) (tgt := 10) X dX12_run_5 (by decide) (by omega) rfl (fun c4 => ?_) (fun c4 => ?_)
  · refine g_aload_n (n := 11) X 0 dX12_run_10 rfl rfl rfl ?_
    refine gg_12_1 (n := 14) (z := 191) X (by decide) (gsz hsz (by decide)) lay_190 kw_6_27 dX12_run_11 rfl (rf_190_1 I (gsz hsz (by decide))) (by decide) ?_
    refine g_sipush (n := 17) X dX12_run_14 (by decide +kernel) rfl ?_
    refine g_iload_n (n := 18) X 1 dX12_run_17 rfl rfl rfl ?_
    refine g_iadd (n := 19) (z := a + 160) X dX12_run_18 (by omega) rfl ?_
    obtain ⟨v5, hv5, rv5⟩ := gRd I (by decide) (gsz hsz (by decide)) (rs_AT (k := a + 160) (by omega)).1
    refine g_iald2 (n := 20) (v := v5) X (by decide) (gsz hsz (by decide)) lay_191 (by omega) (by omega) (by decide) dX12_run_19 rfl hv5 ?_
    refine g_bipush (n := 22) X dX12_run_20 (by decide +kernel) rfl ?_
    refine g_icmp_eq (n := 25) (tgt := 28) X dX12_run_22 (by decide) (by omega) (by omega) rfl (fun c6 => ?_) (fun c6 => ?_)
    · refine g_aload_n (n := 29) X 0 dX12_run_28 rfl rfl rfl ?_
      refine gg_12_1 (n := 32) (z := 191) X (by decide) (gsz hsz (by decide)) lay_190 kw_6_27 dX12_run_29 rfl (rf_190_1 I (gsz hsz (by decide))) (by decide) ?_
      refine g_bipush (n := 34) X dX12_run_32 (by decide +kernel) rfl ?_
      refine g_aload_n (n := 35) X 0 dX12_run_34 rfl rfl rfl ?_
      refine gg_12_1 (n := 38) (z := 191) X (by decide) (gsz hsz (by decide)) lay_190 kw_6_27 dX12_run_35 rfl (rf_190_1 I (gsz hsz (by decide))) (by decide) ?_
      refine g_sipush (n := 41) X dX12_run_38 (by decide +kernel) rfl ?_
      refine g_iload_n (n := 42) X 1 dX12_run_41 rfl rfl rfl ?_
      refine g_iadd (n := 43) (z := a + 224) X dX12_run_42 (by omega) rfl ?_
      obtain ⟨v7, hv7, rv7⟩ := gRd I (by decide) (gsz hsz (by decide)) (rs_MASTER (k := a + 224) (by omega)).1
      refine g_iald2 (n := 44) (v := v7) X (by decide) (gsz hsz (by decide)) lay_191 (by omega) (by omega) (by decide) dX12_run_43 rfl hv7 ?_
      refine g_iadd (n := 45) (z := v7 + 68) X dX12_run_44 (by omega) rfl ?_
      refine g_dup2 (n := 46) X dX12_run_45 rfl rfl rfl ?_
      obtain ⟨v8, hv8, rv8⟩ := gRd I (by decide) (gsz hsz (by decide)) (rs_ROOM (k := v7 + 68) (by omega)).1
      refine g_iald2 (n := 47) (v := v8) X (by decide) (gsz hsz (by decide)) lay_191 (by omega) (by omega) (by decide) dX12_run_46 rfl hv8 ?_
      refine g_iconst (n := 48) X dX12_run_47 rfl ?_
      refine g_isubA (n := 49) X dX12_run_48 rfl (fun v9 rv9 xv9 => ?_)
      clear xv9
      refine g_iast (n := 50) X (by decide) (gsz hsz (by decide)) lay_191 (by omega) (by omega) (by decide) dX12_run_49 rfl ?_
      refine G.nm (fun M10 e11 => ?_)
      have IM10 : gI sz M10 := gI.set I (rs_ROOM (k := v7 + 68) (by omega)).1 (by omega) e11
      have CM10 : gC sz M10 := gC.set C (rs_ROOM (k := v7 + 68) (by omega)).2.1 e11
      refine g_aload_n (n := 51) X 0 dX12_run_50 rfl rfl rfl ?_
      refine gg_12_1 (n := 54) (z := 191) X (by decide) (gsz hsz (by decide)) lay_190 kw_6_27 dX12_run_51 rfl (rf_190_1 IM10 (gsz hsz (by decide))) (by decide) ?_
      refine g_sipush (n := 57) X dX12_run_54 (by decide +kernel) rfl ?_
      refine g_iload_n (n := 58) X 1 dX12_run_57 rfl rfl rfl ?_
      refine g_iadd (n := 59) (z := a + 224) X dX12_run_58 (by omega) rfl ?_
      refine g_iconst (n := 60) X dX12_run_59 rfl ?_
      refine g_iast (n := 61) X (by decide) (gsz hsz (by decide)) lay_191 (by omega) (by omega) (by decide) dX12_run_60 rfl ?_
      refine G.nm (fun M12 e13 => ?_)
      have IM12 : gI sz M12 := gI.set IM10 (rs_MASTER (k := a + 224) (by omega)).1 (by omega) e13
      have CM12 : gC sz M12 := gC.set CM10 (rs_MASTER (k := a + 224) (by omega)).2.1 e13
      refine g_aload_n (n := 62) X 0 dX12_run_61 rfl rfl rfl ?_
      refine gg_12_1 (n := 65) (z := 191) X (by decide) (gsz hsz (by decide)) lay_190 kw_6_27 dX12_run_62 rfl (rf_190_1 IM12 (gsz hsz (by decide))) (by decide) ?_
      refine g_sipush (n := 68) X dX12_run_65 (by decide +kernel) rfl ?_
      refine g_iload_n (n := 69) X 1 dX12_run_68 rfl rfl rfl ?_
      refine g_iadd (n := 70) (z := a + 160) X dX12_run_69 (by omega) rfl ?_
      refine g_aload_n (n := 71) X 0 dX12_run_70 rfl rfl rfl ?_
      refine gg_12_1 (n := 74) (z := 191) X (by decide) (gsz hsz (by decide)) lay_190 kw_6_27 dX12_run_71 rfl (rf_190_1 IM12 (gsz hsz (by decide))) (by decide) ?_
      refine g_bipush (n := 76) X dX12_run_74 (by decide +kernel) rfl ?_
      refine g_iload_n (n := 77) X 1 dX12_run_76 rfl rfl rfl ?_
      refine g_iadd (n := 78) (z := a + 112) X dX12_run_77 (by omega) rfl ?_
      obtain ⟨v14, hv14, rv14⟩ := gRd IM12 (by decide) (gsz hsz (by decide)) (rs_HOME (k := a + 112) (by omega)).1
      refine g_iald2 (n := 79) (v := v14) X (by decide) (gsz hsz (by decide)) lay_191 (by omega) (by omega) (by decide) dX12_run_78 rfl hv14 ?_
      refine g_iast (n := 80) X (by decide) (gsz hsz (by decide)) lay_191 (by omega) (by omega) (by decide) dX12_run_79 rfl ?_
      refine G.nm (fun M15 e16 => ?_)
      have IM15 : gI sz M15 := gI.set IM12 (rs_AT (k := a + 160) (by omega)).1 (by omega) e16
      have CM15 : gC sz M15 := gC.set CM12 (rs_AT (k := a + 160) (by omega)).2.1 e16
      refine g_aload_n (n := 81) X 0 dX12_run_80 rfl rfl rfl ?_
      refine gg_12_1 (n := 84) (z := 191) X (by decide) (gsz hsz (by decide)) lay_190 kw_6_27 dX12_run_81 rfl (rf_190_1 IM15 (gsz hsz (by decide))) (by decide) ?_
      refine g_bipush (n := 86) X dX12_run_84 (by decide +kernel) rfl ?_
      refine g_iload_n (n := 87) X 1 dX12_run_86 rfl rfl rfl ?_
      refine g_iadd (n := 88) (z := a + 112) X dX12_run_87 (by omega) rfl ?_
      refine g_iald2 (n := 89) (v := v14) X (by decide) (gsz hsz (by decide)) lay_191 (by omega) (by omega) (by decide) dX12_run_88 rfl ((congrFun (congrFun e16 _) _).trans ((gset_ne (by omega)).trans hv14)) ?_
      exact hq _ _ _ _ dX12_run_89 ⟨by omega, IM15, CM15, (gFr.s (gFr.s (gFr.s gFr.rf e11 (rs_ROOM (k := v7 + 68) (by omega)).2.2 rfl) e13 (rs_MASTER (k := a + 224) (by omega)).2.2 rfl) e16 (rs_AT (k := a + 160) (by omega)).2.2 rfl)⟩
    · refine g_bipush (n := 27) X dX12_run_25 (by decide +kernel) rfl ?_
      exact hq _ _ _ _ dX12_run_27 ⟨by omega, I, C, gFr.rf⟩
  · refine g_iconst (n := 9) X dX12_run_8 rfl ?_
    exact hq _ _ _ _ dX12_run_9 ⟨by omega, I, C, gFr.rf⟩
theorem dX12_master_0 : decode cX12_master 0 = .ok (.iload_n 1, 1) := dc_27 (by decide +kernel)
theorem dX12_master_1 : decode cX12_master 1 = .ok (.iconst 0, 1) := dc_3 (by decide +kernel)
theorem dX12_master_2 : decode cX12_master 2 = .ok (.iconst 3, 1) := dc_6 (by decide +kernel)
theorem dX12_master_3 : decode cX12_master 3 = .ok (.invokestatic 64, 3) := dc_184 0 64 (by decide +kernel)
theorem dX12_master_6 : decode cX12_master 6 = .ok (.ifCond .ne 5, 3) := dc_154 0 5 5 (by decide +kernel)
theorem dX12_master_11 : decode cX12_master 11 = .ok (.iload_n 2, 1) := dc_28 (by decide +kernel)
theorem dX12_master_12 : decode cX12_master 12 = .ok (.iconst 0, 1) := dc_3 (by decide +kernel)
theorem dX12_master_13 : decode cX12_master 13 = .ok (.bipush 9, 2) := dc_16 9 9 (by decide +kernel)
theorem dX12_master_15 : decode cX12_master 15 = .ok (.invokestatic 64, 3) := dc_184 0 64 (by decide +kernel)
theorem dX12_master_18 : decode cX12_master 18 = .ok (.ifCond .eq 16, 3) := dc_153 0 16 16 (by decide +kernel)
theorem dX12_master_34 : decode cX12_master 34 = .ok (.bipush (-2), 2) := dc_16 254 (-2) (by decide +kernel)
theorem dX12_master_36 : decode cX12_master 36 = .ok (.ireturn, 1) := dc_172 (by decide +kernel)
theorem dX12_master_21 : decode cX12_master 21 = .ok (.iload_n 2, 1) := dc_28 (by decide +kernel)
theorem dX12_master_22 : decode cX12_master 22 = .ok (.aload_n 0, 1) := dc_42 (by decide +kernel)
theorem dX12_master_23 : decode cX12_master 23 = .ok (.getfield 7, 3) := dc_180 0 7 (by decide +kernel)
theorem dX12_master_26 : decode cX12_master 26 = .ok (.bipush 68, 2) := dc_16 68 68 (by decide +kernel)
theorem dX12_master_28 : decode cX12_master 28 = .ok (.iload_n 1, 1) := dc_27 (by decide +kernel)
theorem dX12_master_29 : decode cX12_master 29 = .ok (.iadd, 1) := dc_96 (by decide +kernel)
theorem dX12_master_30 : decode cX12_master 30 = .ok (.iaload, 1) := dc_46 (by decide +kernel)
theorem dX12_master_31 : decode cX12_master 31 = .ok (.if_icmp .ge 6, 3) := dc_162 0 6 6 (by decide +kernel)
theorem dX12_master_37 : decode cX12_master 37 = .ok (.aload_n 0, 1) := dc_42 (by decide +kernel)
theorem dX12_master_38 : decode cX12_master 38 = .ok (.getfield 7, 3) := dc_180 0 7 (by decide +kernel)
theorem dX12_master_41 : decode cX12_master 41 = .ok (.bipush 64, 2) := dc_16 64 64 (by decide +kernel)
theorem dX12_master_43 : decode cX12_master 43 = .ok (.iload_n 1, 1) := dc_27 (by decide +kernel)
theorem dX12_master_44 : decode cX12_master 44 = .ok (.iadd, 1) := dc_96 (by decide +kernel)
theorem dX12_master_45 : decode cX12_master 45 = .ok (.iaload, 1) := dc_46 (by decide +kernel)
theorem dX12_master_46 : decode cX12_master 46 = .ok (.istore_n 3, 1) := dc_62 (by decide +kernel)
theorem dX12_master_47 : decode cX12_master 47 = .ok (.aload_n 0, 1) := dc_42 (by decide +kernel)
theorem dX12_master_48 : decode cX12_master 48 = .ok (.getfield 7, 3) := dc_180 0 7 (by decide +kernel)
theorem dX12_master_51 : decode cX12_master 51 = .ok (.bipush 64, 2) := dc_16 64 64 (by decide +kernel)
theorem dX12_master_53 : decode cX12_master 53 = .ok (.iload_n 1, 1) := dc_27 (by decide +kernel)
theorem dX12_master_54 : decode cX12_master 54 = .ok (.iadd, 1) := dc_96 (by decide +kernel)
theorem dX12_master_55 : decode cX12_master 55 = .ok (.iload_n 2, 1) := dc_28 (by decide +kernel)
theorem dX12_master_56 : decode cX12_master 56 = .ok (.iastore, 1) := dc_79 (by decide +kernel)
theorem dX12_master_57 : decode cX12_master 57 = .ok (.iload_n 3, 1) := dc_29 (by decide +kernel)
theorem dX12_master_58 : decode cX12_master 58 = .ok (.ireturn, 1) := dc_172 (by decide +kernel)
theorem dX12_master_9 : decode cX12_master 9 = .ok (.iconst (-1), 1) := dc_2 (by decide +kernel)
theorem dX12_master_10 : decode cX12_master 10 = .ok (.ireturn, 1) := dc_172 (by decide +kernel)
abbrev R_X12_master : Room := { frames := 1, cells := 0, slots := 0, locals := 22 }
set_option maxRecDepth 100000 in
set_option maxHeartbeats 4000000 in
theorem s_X12_master {l : Launch} {n0 : Nat} {D : va_G} {cA : Nat → ClassId} {M : gM} (a : Int) (r_a : -2147483648 ≤ a ∧ a ≤ 2147483647) (b : Int) (r_b : -2147483648 ≤ b ∧ b ≤ 2147483647) {sz : Nat} (hsz : 206 ≤ sz) (I : gI sz M) (C : gC sz M)   : Met l yX12_master (gWsOf yX12_master cX12_master 4 (Option.some Jvm.ClassFile.FieldType.int)) R_X12_master (gPc n0 D cA [gA n0 190, gJ a, gJ b] M sz) (gQi n0 D cA sz (fun z M1 => (-2147483648 ≤ z ∧ z ≤ 2147483647) ∧ gI sz M1 ∧ gC sz M1 ∧ gFr 281474976710656 M M1)) 0 0 (fun q => n0 ≤ q) := by
  refine gMetI [gA n0 190, gJ a, gJ b] (by decide) (Nat.le_of_ble_eq_true rfl) ⟨rfl, rfl⟩ ?_
  intro p e s m args below meth cd Q X hq
  have X : gCx p s m args meth cd n0 D cA "ParishUnionModel" cX12_master 4 := X
  show G p l e R_X12_master s m args below meth cd n0 D cA 4 Q 0 0 M sz 0 [(0, gA n0 190), (1, gJ a), (2, gJ b)] []
  refine g_iload_n (n := 1) X 1 dX12_master_0 rfl rfl rfl ?_
  refine g_iconst (n := 2) X dX12_master_1 rfl ?_
  refine g_iconst (n := 3) X dX12_master_2 rfl ?_
  refine g_callSi (n := 6) (As := [gJ a, gJ 0, gJ 3]) (rest := []) (cs1 := 0) (ss1 := 0) X (s_X12_in a (by omega) 0 (by omega) 3 (by omega) hsz I C ) okX12_in kw_6_106 kw_6_107 ⟨rfl, rfl⟩ ⟨Nat.le_of_ble_eq_true rfl, Nat.le_of_ble_eq_true rfl⟩ rfl rfl (Nat.le_of_ble_eq_true rfl) ⟨Nat.le_of_ble_eq_true rfl, Nat.le_of_ble_eq_true rfl⟩ rfl rfl dX12_master_3 rfl (fun v1 M2 P3 => ?_)
  obtain ⟨rfl, rv1, xv1⟩ := P3
  refine g_if_ne (n := 9) (tgt := 11) X dX12_master_6 (by decide) (by omega) rfl (fun c4 => ?_) (fun c4 => ?_)
  · refine g_iload_n (n := 12) X 2 dX12_master_11 rfl rfl rfl ?_
    refine g_iconst (n := 13) X dX12_master_12 rfl ?_
    refine g_bipush (n := 15) X dX12_master_13 (by decide +kernel) rfl ?_
    refine g_callSi (n := 18) (As := [gJ b, gJ 0, gJ 9]) (rest := []) (cs1 := 0) (ss1 := 0) X (s_X12_in b (by omega) 0 (by omega) 9 (by omega) hsz I C ) okX12_in kw_6_106 kw_6_107 ⟨rfl, rfl⟩ ⟨Nat.le_of_ble_eq_true rfl, Nat.le_of_ble_eq_true rfl⟩ rfl rfl (Nat.le_of_ble_eq_true rfl) ⟨Nat.le_of_ble_eq_true rfl, Nat.le_of_ble_eq_true rfl⟩ rfl rfl dX12_master_15 rfl (fun v5 M6 P7 => ?_)
    obtain ⟨rfl, rv5, xv5⟩ := P7
    refine g_if_eq (n := 21) (tgt := 34) X dX12_master_18 (by decide) (by omega) rfl (fun c8 => ?_) (fun c8 => ?_)
    · refine g_bipush (n := 36) X dX12_master_34 (by decide +kernel) rfl ?_
      exact hq _ _ _ _ dX12_master_36 ⟨by omega, I, C, gFr.rf⟩
    · refine g_iload_n (n := 22) X 2 dX12_master_21 rfl rfl rfl ?_
      refine g_aload_n (n := 23) X 0 dX12_master_22 rfl rfl rfl ?_
      refine gg_12_1 (n := 26) (z := 191) X (by decide) (gsz hsz (by decide)) lay_190 kw_6_27 dX12_master_23 rfl (rf_190_1 I (gsz hsz (by decide))) (by decide) ?_
      refine g_bipush (n := 28) X dX12_master_26 (by decide +kernel) rfl ?_
      refine g_iload_n (n := 29) X 1 dX12_master_28 rfl rfl rfl ?_
      refine g_iadd (n := 30) (z := a + 68) X dX12_master_29 (by omega) rfl ?_
      obtain ⟨v9, hv9, rv9⟩ := gRd I (by decide) (gsz hsz (by decide)) (rs_ROOM (k := a + 68) (by omega)).1
      refine g_iald2 (n := 31) (v := v9) X (by decide) (gsz hsz (by decide)) lay_191 (by omega) (by omega) (by decide) dX12_master_30 rfl hv9 ?_
      refine g_icmp_ge (n := 34) (tgt := 37) X dX12_master_31 (by decide) (by omega) (by omega) rfl (fun c10 => ?_) (fun c10 => ?_)
      · refine g_aload_n (n := 38) X 0 dX12_master_37 rfl rfl rfl ?_
        refine gg_12_1 (n := 41) (z := 191) X (by decide) (gsz hsz (by decide)) lay_190 kw_6_27 dX12_master_38 rfl (rf_190_1 I (gsz hsz (by decide))) (by decide) ?_
        refine g_bipush (n := 43) X dX12_master_41 (by decide +kernel) rfl ?_
        refine g_iload_n (n := 44) X 1 dX12_master_43 rfl rfl rfl ?_
        refine g_iadd (n := 45) (z := a + 64) X dX12_master_44 (by omega) rfl ?_
        obtain ⟨v11, hv11, rv11⟩ := gRd I (by decide) (gsz hsz (by decide)) (rs_ROOM (k := a + 64) (by omega)).1
        refine g_iald2 (n := 46) (v := v11) X (by decide) (gsz hsz (by decide)) lay_191 (by omega) (by omega) (by decide) dX12_master_45 rfl hv11 ?_
        refine g_istore_n (n := 47) (L' := [(3, gJ v11), (0, gA n0 190), (1, gJ a), (2, gJ b)]) X dX12_master_46 rfl (by decide) rfl rfl ?_
        refine g_aload_n (n := 48) X 1 dX12_master_47 rfl rfl rfl ?_
        refine gg_12_1 (n := 51) (z := 191) X (by decide) (gsz hsz (by decide)) lay_190 kw_6_27 dX12_master_48 rfl (rf_190_1 I (gsz hsz (by decide))) (by decide) ?_
        refine g_bipush (n := 53) X dX12_master_51 (by decide +kernel) rfl ?_
        refine g_iload_n (n := 54) X 2 dX12_master_53 rfl rfl rfl ?_
        refine g_iadd (n := 55) (z := a + 64) X dX12_master_54 (by omega) rfl ?_
        refine g_iload_n (n := 56) X 3 dX12_master_55 rfl rfl rfl ?_
        refine g_iast (n := 57) X (by decide) (gsz hsz (by decide)) lay_191 (by omega) (by omega) (by decide) dX12_master_56 rfl ?_
        refine G.nm (fun M12 e13 => ?_)
        have IM12 : gI sz M12 := gI.set I (rs_ROOM (k := a + 64) (by omega)).1 (by omega) e13
        have CM12 : gC sz M12 := gC.set C (rs_ROOM (k := a + 64) (by omega)).2.1 e13
        refine g_iload_n (n := 58) X 0 dX12_master_57 rfl rfl rfl ?_
        exact hq _ _ _ _ dX12_master_58 ⟨by omega, IM12, CM12, (gFr.s gFr.rf e13 (rs_ROOM (k := a + 64) (by omega)).2.2 rfl)⟩
      · refine g_bipush (n := 36) X dX12_master_34 (by decide +kernel) rfl ?_
        exact hq _ _ _ _ dX12_master_36 ⟨by omega, I, C, gFr.rf⟩
  · refine g_iconst (n := 10) X dX12_master_9 rfl ?_
    exact hq _ _ _ _ dX12_master_10 ⟨by omega, I, C, gFr.rf⟩
theorem dX12_choice_0 : decode cX12_choice 0 = .ok (.iload_n 1, 1) := dc_27 (by decide +kernel)
theorem dX12_choice_1 : decode cX12_choice 1 = .ok (.iconst 0, 1) := dc_3 (by decide +kernel)
theorem dX12_choice_2 : decode cX12_choice 2 = .ok (.iconst 4, 1) := dc_7 (by decide +kernel)
theorem dX12_choice_3 : decode cX12_choice 3 = .ok (.invokestatic 64, 3) := dc_184 0 64 (by decide +kernel)
theorem dX12_choice_6 : decode cX12_choice 6 = .ok (.ifCond .ne 5, 3) := dc_154 0 5 5 (by decide +kernel)
theorem dX12_choice_11 : decode cX12_choice 11 = .ok (.iload_n 2, 1) := dc_28 (by decide +kernel)
theorem dX12_choice_12 : decode cX12_choice 12 = .ok (.iconst 1, 1) := dc_4 (by decide +kernel)
theorem dX12_choice_13 : decode cX12_choice 13 = .ok (.bipush 99, 2) := dc_16 99 99 (by decide +kernel)
theorem dX12_choice_15 : decode cX12_choice 15 = .ok (.invokestatic 64, 3) := dc_184 0 64 (by decide +kernel)
theorem dX12_choice_18 : decode cX12_choice 18 = .ok (.ifCond .eq 14, 3) := dc_153 0 14 14 (by decide +kernel)
theorem dX12_choice_32 : decode cX12_choice 32 = .ok (.bipush (-2), 2) := dc_16 254 (-2) (by decide +kernel)
theorem dX12_choice_34 : decode cX12_choice 34 = .ok (.ireturn, 1) := dc_172 (by decide +kernel)
theorem dX12_choice_21 : decode cX12_choice 21 = .ok (.iload_n 3, 1) := dc_29 (by decide +kernel)
theorem dX12_choice_22 : decode cX12_choice 22 = .ok (.iconst 0, 1) := dc_3 (by decide +kernel)
theorem dX12_choice_23 : decode cX12_choice 23 = .ok (.sipush 999, 3) := dc_17 3 231 999 (by decide +kernel)
theorem dX12_choice_26 : decode cX12_choice 26 = .ok (.invokestatic 64, 3) := dc_184 0 64 (by decide +kernel)
theorem dX12_choice_29 : decode cX12_choice 29 = .ok (.ifCond .ne 6, 3) := dc_154 0 6 6 (by decide +kernel)
theorem dX12_choice_35 : decode cX12_choice 35 = .ok (.aload_n 0, 1) := dc_42 (by decide +kernel)
theorem dX12_choice_36 : decode cX12_choice 36 = .ok (.getfield 7, 3) := dc_180 0 7 (by decide +kernel)
theorem dX12_choice_39 : decode cX12_choice 39 = .ok (.bipush 7, 2) := dc_16 7 7 (by decide +kernel)
theorem dX12_choice_41 : decode cX12_choice 41 = .ok (.iaload, 1) := dc_46 (by decide +kernel)
theorem dX12_choice_42 : decode cX12_choice 42 = .ok (.bipush 6, 2) := dc_16 6 6 (by decide +kernel)
theorem dX12_choice_44 : decode cX12_choice 44 = .ok (.if_icmp .ne 6, 3) := dc_160 0 6 6 (by decide +kernel)
theorem dX12_choice_50 : decode cX12_choice 50 = .ok (.aload_n 0, 1) := dc_42 (by decide +kernel)
theorem dX12_choice_51 : decode cX12_choice 51 = .ok (.getfield 7, 3) := dc_180 0 7 (by decide +kernel)
theorem dX12_choice_54 : decode cX12_choice 54 = .ok (.sipush 2560, 3) := dc_17 10 0 2560 (by decide +kernel)
theorem dX12_choice_57 : decode cX12_choice 57 = .ok (.aload_n 0, 1) := dc_42 (by decide +kernel)
theorem dX12_choice_58 : decode cX12_choice 58 = .ok (.getfield 7, 3) := dc_180 0 7 (by decide +kernel)
theorem dX12_choice_61 : decode cX12_choice 61 = .ok (.bipush 7, 2) := dc_16 7 7 (by decide +kernel)
theorem dX12_choice_63 : decode cX12_choice 63 = .ok (.iaload, 1) := dc_46 (by decide +kernel)
theorem dX12_choice_64 : decode cX12_choice 64 = .ok (.iadd, 1) := dc_96 (by decide +kernel)
theorem dX12_choice_65 : decode cX12_choice 65 = .ok (.iload_n 1, 1) := dc_27 (by decide +kernel)
theorem dX12_choice_66 : decode cX12_choice 66 = .ok (.iastore, 1) := dc_79 (by decide +kernel)
theorem dX12_choice_67 : decode cX12_choice 67 = .ok (.aload_n 0, 1) := dc_42 (by decide +kernel)
theorem dX12_choice_68 : decode cX12_choice 68 = .ok (.getfield 7, 3) := dc_180 0 7 (by decide +kernel)
theorem dX12_choice_71 : decode cX12_choice 71 = .ok (.sipush 2566, 3) := dc_17 10 6 2566 (by decide +kernel)
theorem dX12_choice_74 : decode cX12_choice 74 = .ok (.aload_n 0, 1) := dc_42 (by decide +kernel)
theorem dX12_choice_75 : decode cX12_choice 75 = .ok (.getfield 7, 3) := dc_180 0 7 (by decide +kernel)
theorem dX12_choice_78 : decode cX12_choice 78 = .ok (.bipush 7, 2) := dc_16 7 7 (by decide +kernel)
theorem dX12_choice_80 : decode cX12_choice 80 = .ok (.iaload, 1) := dc_46 (by decide +kernel)
theorem dX12_choice_81 : decode cX12_choice 81 = .ok (.iadd, 1) := dc_96 (by decide +kernel)
theorem dX12_choice_82 : decode cX12_choice 82 = .ok (.iload_n 2, 1) := dc_28 (by decide +kernel)
theorem dX12_choice_83 : decode cX12_choice 83 = .ok (.iastore, 1) := dc_79 (by decide +kernel)
theorem dX12_choice_84 : decode cX12_choice 84 = .ok (.aload_n 0, 1) := dc_42 (by decide +kernel)
theorem dX12_choice_85 : decode cX12_choice 85 = .ok (.getfield 7, 3) := dc_180 0 7 (by decide +kernel)
theorem dX12_choice_88 : decode cX12_choice 88 = .ok (.sipush 2572, 3) := dc_17 10 12 2572 (by decide +kernel)
theorem dX12_choice_91 : decode cX12_choice 91 = .ok (.aload_n 0, 1) := dc_42 (by decide +kernel)
theorem dX12_choice_92 : decode cX12_choice 92 = .ok (.getfield 7, 3) := dc_180 0 7 (by decide +kernel)
theorem dX12_choice_95 : decode cX12_choice 95 = .ok (.bipush 7, 2) := dc_16 7 7 (by decide +kernel)
theorem dX12_choice_97 : decode cX12_choice 97 = .ok (.iaload, 1) := dc_46 (by decide +kernel)
theorem dX12_choice_98 : decode cX12_choice 98 = .ok (.iadd, 1) := dc_96 (by decide +kernel)
theorem dX12_choice_99 : decode cX12_choice 99 = .ok (.iload_n 3, 1) := dc_29 (by decide +kernel)
theorem dX12_choice_100 : decode cX12_choice 100 = .ok (.iastore, 1) := dc_79 (by decide +kernel)
theorem dX12_choice_101 : decode cX12_choice 101 = .ok (.aload_n 0, 1) := dc_42 (by decide +kernel)
theorem dX12_choice_102 : decode cX12_choice 102 = .ok (.getfield 7, 3) := dc_180 0 7 (by decide +kernel)
theorem dX12_choice_105 : decode cX12_choice 105 = .ok (.bipush 7, 2) := dc_16 7 7 (by decide +kernel)
theorem dX12_choice_107 : decode cX12_choice 107 = .ok (.dup2, 1) := dc_92 (by decide +kernel)
theorem dX12_choice_108 : decode cX12_choice 108 = .ok (.iaload, 1) := dc_46 (by decide +kernel)
theorem dX12_choice_109 : decode cX12_choice 109 = .ok (.iconst 1, 1) := dc_4 (by decide +kernel)
theorem dX12_choice_110 : decode cX12_choice 110 = .ok (.iadd, 1) := dc_96 (by decide +kernel)
theorem dX12_choice_111 : decode cX12_choice 111 = .ok (.iastore, 1) := dc_79 (by decide +kernel)
theorem dX12_choice_112 : decode cX12_choice 112 = .ok (.aload_n 0, 1) := dc_42 (by decide +kernel)
theorem dX12_choice_113 : decode cX12_choice 113 = .ok (.getfield 7, 3) := dc_180 0 7 (by decide +kernel)
theorem dX12_choice_116 : decode cX12_choice 116 = .ok (.bipush 7, 2) := dc_16 7 7 (by decide +kernel)
theorem dX12_choice_118 : decode cX12_choice 118 = .ok (.iaload, 1) := dc_46 (by decide +kernel)
theorem dX12_choice_119 : decode cX12_choice 119 = .ok (.iconst 1, 1) := dc_4 (by decide +kernel)
theorem dX12_choice_120 : decode cX12_choice 120 = .ok (.isub, 1) := dc_100 (by decide +kernel)
theorem dX12_choice_121 : decode cX12_choice 121 = .ok (.ireturn, 1) := dc_172 (by decide +kernel)
theorem dX12_choice_47 : decode cX12_choice 47 = .ok (.bipush (-4), 2) := dc_16 252 (-4) (by decide +kernel)
theorem dX12_choice_49 : decode cX12_choice 49 = .ok (.ireturn, 1) := dc_172 (by decide +kernel)
theorem dX12_choice_9 : decode cX12_choice 9 = .ok (.iconst (-1), 1) := dc_2 (by decide +kernel)
theorem dX12_choice_10 : decode cX12_choice 10 = .ok (.ireturn, 1) := dc_172 (by decide +kernel)
abbrev R_X12_choice : Room := { frames := 1, cells := 0, slots := 0, locals := 22 }
set_option maxRecDepth 100000 in
set_option maxHeartbeats 4000000 in
theorem s_X12_choice {l : Launch} {n0 : Nat} {D : va_G} {cA : Nat → ClassId} {M : gM} (a : Int) (r_a : -2147483648 ≤ a ∧ a ≤ 2147483647) (b : Int) (r_b : -2147483648 ≤ b ∧ b ≤ 2147483647) (c : Int) (r_c : -2147483648 ≤ c ∧ c ≤ 2147483647) {sz : Nat} (hsz : 206 ≤ sz) (I : gI sz M) (C : gC sz M)   : Met l yX12_choice (gWsOf yX12_choice cX12_choice 4 (Option.some Jvm.ClassFile.FieldType.int)) R_X12_choice (gPc n0 D cA [gA n0 190, gJ a, gJ b, gJ c] M sz) (gQi n0 D cA sz (fun z M1 => (-4 ≤ z ∧ z ≤ 5) ∧ gI sz M1 ∧ gC sz M1 ∧ gFr 36030996042219520 M M1 ∧ ((¬ (0 ≤ a ∧ a ≤ 4) ∧ z = -1 ∧ M1 191 7 = M 191 7) ∨ ((0 ≤ a ∧ a ≤ 4) ∧ ¬ ((1 ≤ b ∧ b ≤ 99) ∧ (0 ≤ c ∧ c ≤ 999)) ∧ z = -2 ∧ M1 191 7 = M 191 7) ∨ ((0 ≤ a ∧ a ≤ 4) ∧ ((1 ≤ b ∧ b ≤ 99) ∧ (0 ≤ c ∧ c ≤ 999)) ∧ M 191 7 = 6 ∧ z = -4 ∧ M1 191 7 = M 191 7) ∨ ((0 ≤ a ∧ a ≤ 4) ∧ ((1 ≤ b ∧ b ≤ 99) ∧ (0 ≤ c ∧ c ≤ 999)) ∧ M 191 7 < 6 ∧ z = M 191 7 ∧ M1 191 7 = M 191 7 + 1)))) 0 0 (fun q => n0 ≤ q) := by
  refine gMetI [gA n0 190, gJ a, gJ b, gJ c] (by decide) (Nat.le_of_ble_eq_true rfl) ⟨rfl, rfl⟩ ?_
  intro p e s m args below meth cd Q X hq
  have X : gCx p s m args meth cd n0 D cA "ParishUnionModel" cX12_choice 4 := X
  show G p l e R_X12_choice s m args below meth cd n0 D cA 4 Q 0 0 M sz 0 [(0, gA n0 190), (1, gJ a), (2, gJ b), (3, gJ c)] []
  obtain ⟨v1, hv1, rv1⟩ := gRd I (by decide) (gsz hsz (by decide)) (rs_NC (k := 7) (by omega)).1
  refine g_iload_n (n := 1) X 1 dX12_choice_0 rfl rfl rfl ?_
  refine g_iconst (n := 2) X dX12_choice_1 rfl ?_
  refine g_iconst (n := 3) X dX12_choice_2 rfl ?_
  refine g_callSi (n := 6) (As := [gJ a, gJ 0, gJ 4]) (rest := []) (cs1 := 0) (ss1 := 0) X (s_X12_in a (by omega) 0 (by omega) 4 (by omega) hsz I C ) okX12_in kw_6_106 kw_6_107 ⟨rfl, rfl⟩ ⟨Nat.le_of_ble_eq_true rfl, Nat.le_of_ble_eq_true rfl⟩ rfl rfl (Nat.le_of_ble_eq_true rfl) ⟨Nat.le_of_ble_eq_true rfl, Nat.le_of_ble_eq_true rfl⟩ rfl rfl dX12_choice_3 rfl (fun v2 M3 P4 => ?_)
  obtain ⟨rfl, rv2, xv2⟩ := P4
  refine g_if_ne (n := 9) (tgt := 11) X dX12_choice_6 (by decide) (by omega) rfl (fun c5 => ?_) (fun c5 => ?_)
  · refine g_iload_n (n := 12) X 2 dX12_choice_11 rfl rfl rfl ?_
    refine g_iconst (n := 13) X dX12_choice_12 rfl ?_
    refine g_bipush (n := 15) X dX12_choice_13 (by decide +kernel) rfl ?_
    refine g_callSi (n := 18) (As := [gJ b, gJ 1, gJ 99]) (rest := []) (cs1 := 0) (ss1 := 0) X (s_X12_in b (by omega) 1 (by omega) 99 (by omega) hsz I C ) okX12_in kw_6_106 kw_6_107 ⟨rfl, rfl⟩ ⟨Nat.le_of_ble_eq_true rfl, Nat.le_of_ble_eq_true rfl⟩ rfl rfl (Nat.le_of_ble_eq_true rfl) ⟨Nat.le_of_ble_eq_true rfl, Nat.le_of_ble_eq_true rfl⟩ rfl rfl dX12_choice_15 rfl (fun v6 M7 P8 => ?_)
    obtain ⟨rfl, rv6, xv6⟩ := P8
    refine g_if_eq (n := 21) (tgt := 32) X dX12_choice_18 (by decide) (by omega) rfl (fun c9 => ?_) (fun c9 => ?_)
    · refine g_bipush (n := 34) X dX12_choice_32 (by decide +kernel) rfl ?_
      exact hq _ _ _ _ dX12_choice_34 ⟨by omega, I, C, gFr.rf, by have q0 := hv1; omega⟩
    · refine g_iload_n (n := 22) X 3 dX12_choice_21 rfl rfl rfl ?_
      refine g_iconst (n := 23) X dX12_choice_22 rfl ?_
      refine g_sipush (n := 26) X dX12_choice_23 (by decide +kernel) rfl ?_
      refine g_callSi (n := 29) (As := [gJ c, gJ 0, gJ 999]) (rest := []) (cs1 := 0) (ss1 := 0) X (s_X12_in c (by omega) 0 (by omega) 999 (by omega) hsz I C ) okX12_in kw_6_106 kw_6_107 ⟨rfl, rfl⟩ ⟨Nat.le_of_ble_eq_true rfl, Nat.le_of_ble_eq_true rfl⟩ rfl rfl (Nat.le_of_ble_eq_true rfl) ⟨Nat.le_of_ble_eq_true rfl, Nat.le_of_ble_eq_true rfl⟩ rfl rfl dX12_choice_26 rfl (fun v10 M11 P12 => ?_)
      obtain ⟨rfl, rv10, xv10⟩ := P12
      refine g_if_ne (n := 32) (tgt := 35) X dX12_choice_29 (by decide) (by omega) rfl (fun c13 => ?_) (fun c13 => ?_)
      · refine g_aload_n (n := 36) X 0 dX12_choice_35 rfl rfl rfl ?_
        refine gg_12_1 (n := 39) (z := 191) X (by decide) (gsz hsz (by decide)) lay_190 kw_6_27 dX12_choice_36 rfl (rf_190_1 I (gsz hsz (by decide))) (by decide) ?_
        refine g_bipush (n := 41) X dX12_choice_39 (by decide +kernel) rfl ?_
        refine g_iald2 (n := 42) (v := v1) X (by decide) (gsz hsz (by decide)) lay_191 (by omega) (by omega) (by decide) dX12_choice_41 rfl hv1 ?_
        refine g_bipush (n := 44) X dX12_choice_42 (by decide +kernel) rfl ?_
        refine g_icmp_ne (n := 47) (tgt := 50) X dX12_choice_44 (by decide) (by omega) (by omega) rfl (fun c14 => ?_) (fun c14 => ?_)
        · refine g_aload_n (n := 51) X 0 dX12_choice_50 rfl rfl rfl ?_
          refine gg_12_1 (n := 54) (z := 191) X (by decide) (gsz hsz (by decide)) lay_190 kw_6_27 dX12_choice_51 rfl (rf_190_1 I (gsz hsz (by decide))) (by decide) ?_
          refine g_sipush (n := 57) X dX12_choice_54 (by decide +kernel) rfl ?_
          refine g_aload_n (n := 58) X 0 dX12_choice_57 rfl rfl rfl ?_
          refine gg_12_1 (n := 61) (z := 191) X (by decide) (gsz hsz (by decide)) lay_190 kw_6_27 dX12_choice_58 rfl (rf_190_1 I (gsz hsz (by decide))) (by decide) ?_
          refine g_bipush (n := 63) X dX12_choice_61 (by decide +kernel) rfl ?_
          refine g_iald2 (n := 64) (v := v1) X (by decide) (gsz hsz (by decide)) lay_191 (by omega) (by omega) (by decide) dX12_choice_63 rfl hv1 ?_
          refine g_iadd (n := 65) (z := v1 + 2560) X dX12_choice_64 (by omega) rfl ?_
          refine g_iload_n (n := 66) X 1 dX12_choice_65 rfl rfl rfl ?_
          refine g_iast (n := 67) X (by decide) (gsz hsz (by decide)) lay_191 (by omega) (by omega) (by decide) dX12_choice_66 rfl ?_
          refine G.nm (fun M15 e16 => ?_)
          have IM15 : gI sz M15 := gI.set I (rs_CK (k := v1 + 2560) (by omega)).1 (by omega) e16
          have CM15 : gC sz M15 := gC.set C (rs_CK (k := v1 + 2560) (by omega)).2.1 e16
          refine g_aload_n (n := 68) X 0 dX12_choice_67 rfl rfl rfl ?_
          refine gg_12_1 (n := 71) (z := 191) X (by decide) (gsz hsz (by decide)) lay_190 kw_6_27 dX12_choice_68 rfl (rf_190_1 IM15 (gsz hsz (by decide))) (by decide) ?_
          refine g_sipush (n := 74) X dX12_choice_71 (by decide +kernel) rfl ?_
          refine g_aload_n (n := 75) X 0 dX12_choice_74 rfl rfl rfl ?_
          refine gg_12_1 (n := 78) (z := 191) X (by decide) (gsz hsz (by decide)) lay_190 kw_6_27 dX12_choice_75 rfl (rf_190_1 IM15 (gsz hsz (by decide))) (by decide) ?_
          refine g_bipush (n := 80) X dX12_choice_78 (by decide +kernel) rfl ?_
          refine g_iald2 (n := 81) (v := v1) X (by decide) (gsz hsz (by decide)) lay_191 (by omega) (by omega) (by decide) dX12_choice_80 rfl ((congrFun (congrFun e16 _) _).trans ((gset_ne (by omega)).trans hv1)) ?_
          refine g_iadd (n := 82) (z := v1 + 2566) X dX12_choice_81 (by omega) rfl ?_
          refine g_iload_n (n := 83) X 2 dX12_choice_82 rfl rfl rfl ?_
          refine g_iast (n := 84) X (by decide) (gsz hsz (by decide)) lay_191 (by omega) (by omega) (by decide) dX12_choice_83 rfl ?_
          refine G.nm (fun M17 e18 => ?_)
          have IM17 : gI sz M17 := gI.set IM15 (rs_CN (k := v1 + 2566) (by omega)).1 (by omega) e18
          have CM17 : gC sz M17 := gC.set CM15 (rs_CN (k := v1 + 2566) (by omega)).2.1 e18
          refine g_aload_n (n := 85) X 0 dX12_choice_84 rfl rfl rfl ?_
          refine gg_12_1 (n := 88) (z := 191) X (by decide) (gsz hsz (by decide)) lay_190 kw_6_27 dX12_choice_85 rfl (rf_190_1 IM17 (gsz hsz (by decide))) (by decide) ?_
          refine g_sipush (n := 91) X dX12_choice_88 (by decide +kernel) rfl ?_
          refine g_aload_n (n := 92) X 0 dX12_choice_91 rfl rfl rfl ?_
          refine gg_12_1 (n := 95) (z := 191) X (by decide) (gsz hsz (by decide)) lay_190 kw_6_27 dX12_choice_92 rfl (rf_190_1 IM17 (gsz hsz (by decide))) (by decide) ?_
          refine g_bipush (n := 97) X dX12_choice_95 (by decide +kernel) rfl ?_
          refine g_iald2 (n := 98) (v := v1) X (by decide) (gsz hsz (by decide)) lay_191 (by omega) (by omega) (by decide) dX12_choice_97 rfl ((congrFun (congrFun e18 _) _).trans ((gset_ne (by omega)).trans ((congrFun (congrFun e16 _) _).trans ((gset_ne (by omega)).trans hv1)))) ?_
          refine g_iadd (n := 99) (z := v1 + 2572) X dX12_choice_98 (by omega) rfl ?_
          refine g_iload_n (n := 100) X 3 dX12_choice_99 rfl rfl rfl ?_
          refine g_iast (n := 101) X (by decide) (gsz hsz (by decide)) lay_191 (by omega) (by omega) (by decide) dX12_choice_100 rfl ?_
          refine G.nm (fun M19 e20 => ?_)
          have IM19 : gI sz M19 := gI.set IM17 (rs_CN (k := v1 + 2572) (by omega)).1 (by omega) e20
          have CM19 : gC sz M19 := gC.set CM17 (rs_CN (k := v1 + 2572) (by omega)).2.1 e20
          refine g_aload_n (n := 102) X 0 dX12_choice_101 rfl rfl rfl ?_
          refine gg_12_1 (n := 105) (z := 191) X (by decide) (gsz hsz (by decide)) lay_190 kw_6_27 dX12_choice_102 rfl (rf_190_1 IM19 (gsz hsz (by decide))) (by decide) ?_
          refine g_bipush (n := 107) X dX12_choice_105 (by decide +kernel) rfl ?_
          refine g_dup2 (n := 108) X dX12_choice_107 rfl rfl rfl ?_
          refine g_iald2 (n := 109) (v := v1) X (by decide) (gsz hsz (by decide)) lay_191 (by omega) (by omega) (by decide) dX12_choice_108 rfl ((congrFun (congrFun e20 _) _).trans ((gset_ne (by omega)).trans ((congrFun (congrFun e18 _) _).trans ((gset_ne (by omega)).trans ((congrFun (congrFun e16 _) _).trans ((gset_ne (by omega)).trans hv1)))))) ?_
          refine g_iconst (n := 110) X dX12_choice_109 rfl ?_
          refine g_iadd (n := 111) (z := v1 + 1) X dX12_choice_110 (by omega) rfl ?_
          refine g_iast (n := 112) X (by decide) (gsz hsz (by decide)) lay_191 (by omega) (by omega) (by decide) dX12_choice_111 rfl ?_
          refine G.nm (fun M21 e22 => ?_)
          have IM21 : gI sz M21 := gI.set IM19 (rs_NC (k := 7) (by omega)).1 (by omega) e22
          have CM21 : gC sz M21 := gC.set CM19 (rs_NC (k := 7) (by omega)).2.1 e22
          refine g_aload_n (n := 113) X 0 dX12_choice_112 rfl rfl rfl ?_
          refine gg_12_1 (n := 116) (z := 191) X (by decide) (gsz hsz (by decide)) lay_190 kw_6_27 dX12_choice_113 rfl (rf_190_1 IM21 (gsz hsz (by decide))) (by decide) ?_
          refine g_bipush (n := 118) X dX12_choice_116 (by decide +kernel) rfl ?_
          refine g_iald2 (n := 119) (v := v1 + 1) X (by decide) (gsz hsz (by decide)) lay_191 (by omega) (by omega) (by decide) dX12_choice_118 rfl ((congrFun (congrFun e22 _) _).trans (gset_eq _ _ _ _)) ?_
          refine g_iconst (n := 120) X dX12_choice_119 rfl ?_
          refine g_isub (n := 121) (z := v1) X dX12_choice_120 (by omega) rfl ?_
          exact hq _ _ _ _ dX12_choice_121 ⟨by omega, IM21, CM21, (gFr.s (gFr.s (gFr.s (gFr.s gFr.rf e16 (rs_CK (k := v1 + 2560) (by omega)).2.2 rfl) e18 (rs_CN (k := v1 + 2566) (by omega)).2.2 rfl) e20 (rs_CN (k := v1 + 2572) (by omega)).2.2 rfl) e22 (rs_NC (k := 7) (by omega)).2.2 rfl), by have q0 := ((congrFun (congrFun e22 _) _).trans (gset_eq _ _ _ _)); omega⟩
        · refine g_bipush (n := 49) X dX12_choice_47 (by decide +kernel) rfl ?_
          exact hq _ _ _ _ dX12_choice_49 ⟨by omega, I, C, gFr.rf, by have q0 := hv1; omega⟩
      · refine g_bipush (n := 34) X dX12_choice_32 (by decide +kernel) rfl ?_
        exact hq _ _ _ _ dX12_choice_34 ⟨by omega, I, C, gFr.rf, by have q0 := hv1; omega⟩
  · refine g_iconst (n := 10) X dX12_choice_9 rfl ?_
    exact hq _ _ _ _ dX12_choice_10 ⟨by omega, I, C, gFr.rf, by have q0 := hv1; omega⟩
theorem dX12_frosts_0 : decode cX12_frosts 0 = .ok (.iload_n 1, 1) := dc_27 (by decide +kernel)
theorem dX12_frosts_1 : decode cX12_frosts 1 = .ok (.iconst 0, 1) := dc_3 (by decide +kernel)
theorem dX12_frosts_2 : decode cX12_frosts 2 = .ok (.iconst 2, 1) := dc_5 (by decide +kernel)
theorem dX12_frosts_3 : decode cX12_frosts 3 = .ok (.invokestatic 64, 3) := dc_184 0 64 (by decide +kernel)
theorem dX12_frosts_6 : decode cX12_frosts 6 = .ok (.ifCond .ne 5, 3) := dc_154 0 5 5 (by decide +kernel)
theorem dX12_frosts_11 : decode cX12_frosts 11 = .ok (.lconst 1, 1) := dc_10 (by decide +kernel)
theorem dX12_frosts_12 : decode cX12_frosts 12 = .ok (.lstore 5, 2) := dc_55 5 (by decide +kernel)
theorem dX12_frosts_14 : decode cX12_frosts 14 = .ok (.iconst 0, 1) := dc_3 (by decide +kernel)
theorem dX12_frosts_15 : decode cX12_frosts 15 = .ok (.istore 7, 2) := dc_54 7 (by decide +kernel)
theorem dX12_frosts_17 : decode cX12_frosts 17 = .ok (.iload 7, 2) := dc_21 7 (by decide +kernel)
theorem dX12_frosts_19 : decode cX12_frosts 19 = .ok (.iload 4, 2) := dc_21 4 (by decide +kernel)
theorem dX12_frosts_21 : decode cX12_frosts 21 = .ok (.if_icmp .ge 24, 3) := dc_162 0 24 24 (by decide +kernel)
theorem dX12_frosts_45 : decode cX12_frosts 45 = .ok (.iload 4, 2) := dc_21 4 (by decide +kernel)
theorem dX12_frosts_47 : decode cX12_frosts 47 = .ok (.iconst 1, 1) := dc_4 (by decide +kernel)
theorem dX12_frosts_48 : decode cX12_frosts 48 = .ok (.bipush 10, 2) := dc_16 10 10 (by decide +kernel)
theorem dX12_frosts_50 : decode cX12_frosts 50 = .ok (.invokestatic 64, 3) := dc_184 0 64 (by decide +kernel)
theorem dX12_frosts_53 : decode cX12_frosts 53 = .ok (.ifCond .eq 16, 3) := dc_153 0 16 16 (by decide +kernel)
theorem dX12_frosts_69 : decode cX12_frosts 69 = .ok (.bipush (-2), 2) := dc_16 254 (-2) (by decide +kernel)
theorem dX12_frosts_71 : decode cX12_frosts 71 = .ok (.ireturn, 1) := dc_172 (by decide +kernel)
theorem dX12_frosts_56 : decode cX12_frosts 56 = .ok (.lload_n 2, 1) := dc_32 (by decide +kernel)
theorem dX12_frosts_57 : decode cX12_frosts 57 = .ok (.lconst 0, 1) := dc_9 (by decide +kernel)
theorem dX12_frosts_58 : decode cX12_frosts 58 = .ok (.lcmp, 1) := dc_148 (by decide +kernel)
theorem dX12_frosts_59 : decode cX12_frosts 59 = .ok (.ifCond .lt 10, 3) := dc_155 0 10 10 (by decide +kernel)
theorem dX12_frosts_62 : decode cX12_frosts 62 = .ok (.lload_n 2, 1) := dc_32 (by decide +kernel)
theorem dX12_frosts_63 : decode cX12_frosts 63 = .ok (.lload 5, 2) := dc_22 5 (by decide +kernel)
theorem dX12_frosts_65 : decode cX12_frosts 65 = .ok (.lcmp, 1) := dc_148 (by decide +kernel)
theorem dX12_frosts_66 : decode cX12_frosts 66 = .ok (.ifCond .lt 6, 3) := dc_155 0 6 6 (by decide +kernel)
theorem dX12_frosts_72 : decode cX12_frosts 72 = .ok (.lload_n 2, 1) := dc_32 (by decide +kernel)
theorem dX12_frosts_73 : decode cX12_frosts 73 = .ok (.lstore 7, 2) := dc_55 7 (by decide +kernel)
theorem dX12_frosts_75 : decode cX12_frosts 75 = .ok (.iload 4, 2) := dc_21 4 (by decide +kernel)
theorem dX12_frosts_77 : decode cX12_frosts 77 = .ok (.iconst 1, 1) := dc_4 (by decide +kernel)
theorem dX12_frosts_78 : decode cX12_frosts 78 = .ok (.isub, 1) := dc_100 (by decide +kernel)
theorem dX12_frosts_79 : decode cX12_frosts 79 = .ok (.istore 9, 2) := dc_54 9 (by decide +kernel)
theorem dX12_frosts_81 : decode cX12_frosts 81 = .ok (.iload 9, 2) := dc_21 9 (by decide +kernel)
theorem dX12_frosts_83 : decode cX12_frosts 83 = .ok (.ifCond .lt 40, 3) := dc_155 0 40 40 (by decide +kernel)
theorem dX12_frosts_86 : decode cX12_frosts 86 = .ok (.aload_n 0, 1) := dc_42 (by decide +kernel)
theorem dX12_frosts_87 : decode cX12_frosts 87 = .ok (.getfield 7, 3) := dc_180 0 7 (by decide +kernel)
theorem dX12_frosts_90 : decode cX12_frosts 90 = .ok (.sipush 2584, 3) := dc_17 10 24 2584 (by decide +kernel)
theorem dX12_frosts_93 : decode cX12_frosts 93 = .ok (.bipush 10, 2) := dc_16 10 10 (by decide +kernel)
theorem dX12_frosts_95 : decode cX12_frosts 95 = .ok (.iload_n 1, 1) := dc_27 (by decide +kernel)
theorem dX12_frosts_96 : decode cX12_frosts 96 = .ok (.imul, 1) := dc_104 (by decide +kernel)
theorem dX12_frosts_97 : decode cX12_frosts 97 = .ok (.iadd, 1) := dc_96 (by decide +kernel)
theorem dX12_frosts_98 : decode cX12_frosts 98 = .ok (.iload 9, 2) := dc_21 9 (by decide +kernel)
theorem dX12_frosts_100 : decode cX12_frosts 100 = .ok (.iadd, 1) := dc_96 (by decide +kernel)
theorem dX12_frosts_101 : decode cX12_frosts 101 = .ok (.lload 7, 2) := dc_22 7 (by decide +kernel)
theorem dX12_frosts_103 : decode cX12_frosts 103 = .ok (.ldc2_w 294, 3) := dc_20 1 38 (by decide +kernel)
theorem kw_8_0 : (Jvm.Cond.constantLong "ParishUnionModel" (294 : Nat) (10 : Int64)) ∈ gT := gT_of (tb_8 _ (List.mem_of_getElem? (i := 0) rfl)) rfl
theorem dX12_frosts_106 : decode cX12_frosts 106 = .ok (.lrem, 1) := dc_113 (by decide +kernel)
theorem dX12_frosts_107 : decode cX12_frosts 107 = .ok (.l2i, 1) := dc_136 (by decide +kernel)
theorem dX12_frosts_108 : decode cX12_frosts 108 = .ok (.iastore, 1) := dc_79 (by decide +kernel)
theorem dX12_frosts_109 : decode cX12_frosts 109 = .ok (.lload 7, 2) := dc_22 7 (by decide +kernel)
theorem dX12_frosts_111 : decode cX12_frosts 111 = .ok (.ldc2_w 294, 3) := dc_20 1 38 (by decide +kernel)
theorem dX12_frosts_114 : decode cX12_frosts 114 = .ok (.ldiv, 1) := dc_109 (by decide +kernel)
theorem dX12_frosts_115 : decode cX12_frosts 115 = .ok (.lstore 7, 2) := dc_55 7 (by decide +kernel)
theorem dX12_frosts_117 : decode cX12_frosts 117 = .ok (.iinc 9 (-1), 3) := dc_132 9 255 (-1) (by decide +kernel)
theorem dX12_frosts_120 : decode cX12_frosts 120 = .ok (.goto (-39), 3) := dc_167 255 217 (-39) (by decide +kernel)
theorem dX12_frosts_123 : decode cX12_frosts 123 = .ok (.aload_n 0, 1) := dc_42 (by decide +kernel)
theorem dX12_frosts_124 : decode cX12_frosts 124 = .ok (.getfield 7, 3) := dc_180 0 7 (by decide +kernel)
theorem dX12_frosts_127 : decode cX12_frosts 127 = .ok (.sipush 2580, 3) := dc_17 10 20 2580 (by decide +kernel)
theorem dX12_frosts_130 : decode cX12_frosts 130 = .ok (.iload_n 1, 1) := dc_27 (by decide +kernel)
theorem dX12_frosts_131 : decode cX12_frosts 131 = .ok (.iadd, 1) := dc_96 (by decide +kernel)
theorem dX12_frosts_132 : decode cX12_frosts 132 = .ok (.iload 4, 2) := dc_21 4 (by decide +kernel)
theorem dX12_frosts_134 : decode cX12_frosts 134 = .ok (.iastore, 1) := dc_79 (by decide +kernel)
theorem dX12_frosts_135 : decode cX12_frosts 135 = .ok (.iload 4, 2) := dc_21 4 (by decide +kernel)
theorem dX12_frosts_137 : decode cX12_frosts 137 = .ok (.ireturn, 1) := dc_172 (by decide +kernel)
theorem dX12_frosts_24 : decode cX12_frosts 24 = .ok (.iload 7, 2) := dc_21 7 (by decide +kernel)
theorem dX12_frosts_26 : decode cX12_frosts 26 = .ok (.bipush 10, 2) := dc_16 10 10 (by decide +kernel)
theorem dX12_frosts_28 : decode cX12_frosts 28 = .ok (.if_icmp .ge 17, 3) := dc_162 0 17 17 (by decide +kernel)
theorem dX12_frosts_31 : decode cX12_frosts 31 = .ok (.lload 5, 2) := dc_22 5 (by decide +kernel)
theorem dX12_frosts_33 : decode cX12_frosts 33 = .ok (.ldc2_w 294, 3) := dc_20 1 38 (by decide +kernel)
theorem dX12_frosts_36 : decode cX12_frosts 36 = .ok (.lmul, 1) := dc_105 (by decide +kernel)
theorem dX12_frosts_37 : decode cX12_frosts 37 = .ok (.lstore 5, 2) := dc_55 5 (by decide +kernel)
theorem dX12_frosts_39 : decode cX12_frosts 39 = .ok (.iinc 7 1, 3) := dc_132 7 1 1 (by decide +kernel)
theorem dX12_frosts_42 : decode cX12_frosts 42 = .ok (.goto (-25), 3) := dc_167 255 231 (-25) (by decide +kernel)
theorem dX12_frosts_9 : decode cX12_frosts 9 = .ok (.iconst (-1), 1) := dc_2 (by decide +kernel)
theorem dX12_frosts_10 : decode cX12_frosts 10 = .ok (.ireturn, 1) := dc_172 (by decide +kernel)
abbrev R_X12_frosts : Room := { frames := 1, cells := 0, slots := 0, locals := 22 }
set_option maxRecDepth 100000 in
set_option maxHeartbeats 4000000 in
theorem s_X12_frosts {l : Launch} {n0 : Nat} {D : va_G} {cA : Nat → ClassId} {M : gM} (a : Int) (r_a : -2147483648 ≤ a ∧ a ≤ 2147483647) (b : Int) (r_b : -9223372036854775808 ≤ b ∧ b ≤ 9223372036854775807) (c : Int) (r_c : -2147483648 ≤ c ∧ c ≤ 2147483647) {sz : Nat} (hsz : 206 ≤ sz) (I : gI sz M) (C : gC sz M)   : Met l yX12_frosts (gWsOf yX12_frosts cX12_frosts 10 (Option.some Jvm.ClassFile.FieldType.int)) R_X12_frosts (gPc n0 D cA [gA n0 190, gJ a, gV b, gJ c] M sz) (gQi n0 D cA sz (fun z M1 => (-2 ≤ z ∧ z ≤ 10) ∧ gI sz M1 ∧ gC sz M1 ∧ gFr 72057594037927936 M M1 ∧ ((¬ (0 ≤ a ∧ a ≤ 2) ∧ z = -1) ∨ ((0 ≤ a ∧ a ≤ 2) ∧ ¬ ((1 ≤ c ∧ c ≤ 10) ∧ 0 ≤ b ∧ b < gTen c) ∧ z = -2) ∨ ((0 ≤ a ∧ a ≤ 2) ∧ ((1 ≤ c ∧ c ≤ 10) ∧ 0 ≤ b ∧ b < gTen c) ∧ z = c)))) 0 0 (fun q => n0 ≤ q) := by
  refine gMetI [gA n0 190, gJ a, gV b, gJ c] (by decide) (Nat.le_of_ble_eq_true rfl) ⟨rfl, rfl⟩ ?_
  intro p e s m args below meth cd Q X hq
  have X : gCx p s m args meth cd n0 D cA "ParishUnionModel" cX12_frosts 10 := X
  show G p l e R_X12_frosts s m args below meth cd n0 D cA 10 Q 0 0 M sz 0 [(0, gA n0 190), (1, gJ a), (2, gV b), (4, gJ c)] []
  refine g_iload_n (n := 1) X 1 dX12_frosts_0 rfl rfl rfl ?_
  refine g_iconst (n := 2) X dX12_frosts_1 rfl ?_
  refine g_iconst (n := 3) X dX12_frosts_2 rfl ?_
  refine g_callSi (n := 6) (As := [gJ a, gJ 0, gJ 2]) (rest := []) (cs1 := 0) (ss1 := 0) X (s_X12_in a (by omega) 0 (by omega) 2 (by omega) hsz I C ) okX12_in kw_6_106 kw_6_107 ⟨rfl, rfl⟩ ⟨Nat.le_of_ble_eq_true rfl, Nat.le_of_ble_eq_true rfl⟩ rfl rfl (Nat.le_of_ble_eq_true rfl) ⟨Nat.le_of_ble_eq_true rfl, Nat.le_of_ble_eq_true rfl⟩ rfl rfl dX12_frosts_3 rfl (fun v1 M2 P3 => ?_)
  obtain ⟨rfl, rv1, xv1⟩ := P3
  refine g_if_ne (n := 9) (tgt := 11) X dX12_frosts_6 (by decide) (by omega) rfl (fun c4 => ?_) (fun c4 => ?_)
  · refine g_lconst (n := 12) (z := 1) X dX12_frosts_11 (by decide +kernel) rfl ?_
    refine g_lstore (n := 14) (L' := [(5, gV 1), (0, gA n0 190), (1, gJ a), (2, gV b), (4, gJ c)]) X dX12_frosts_12 (by decide) rfl rfl ?_
    refine g_iconst (n := 15) X dX12_frosts_14 rfl ?_
    refine g_istore (n := 17) (L' := [(7, gJ 0), (5, gV 1), (0, gA n0 190), (1, gJ a), (2, gV b), (4, gJ c)]) X dX12_frosts_15 (by decide) rfl rfl ?_
    have j8 : ∀ (N85 : Nat) (v5 v6 : Int) , (1 ≤ v5 ∧ v5 ≤ 10000000000) → (0 ≤ v6 ∧ v6 ≤ 10) → (v5 = gTen v6 ∧ (v6 ≤ c ∨ (c ≤ 0 ∧ v6 = 0))) → (10 - v6).toNat < N85 → G p l e R_X12_frosts s m args below meth cd n0 D cA 10 Q 0 0 M sz 17 [(0, gA n0 190), (1, gJ a), (2, gV b), (4, gJ c), (5, gV v5), (7, gJ v6)] [] := by
      intro N85; induction N85 with
      | zero => intro v5 v6 rv5 rv6 hp5 hm87; exfalso; omega
      | succ N85 ih86 =>
        intro v5 v6 rv5 rv6 hp5 hm87
        have hT5 : v6 < 10 → 1 ≤ gTen v6 ∧ gTen v6 ≤ 1000000000 := fun h => gTen_r (by omega) h
        refine g_iload (n := 19) X 5 dX12_frosts_17 rfl rfl ?_
        refine g_iload (n := 21) X 3 dX12_frosts_19 rfl rfl ?_
        refine g_icmp_ge (n := 24) (tgt := 45) X dX12_frosts_21 (by decide) (by omega) (by omega) rfl (fun c88 => ?_) (fun c88 => ?_)
        · have hT6 : (1 ≤ c ∧ c ≤ 10) → gTen v6 = gTen c := fun h => by rw [show v6 = c by omega]
          refine g_iload (n := 47) X 3 dX12_frosts_45 rfl rfl ?_
          refine g_iconst (n := 48) X dX12_frosts_47 rfl ?_
          refine g_bipush (n := 50) X dX12_frosts_48 (by decide +kernel) rfl ?_
          refine g_callSi (n := 53) (As := [gJ c, gJ 1, gJ 10]) (rest := []) (cs1 := 0) (ss1 := 0) X (s_X12_in c (by omega) 1 (by omega) 10 (by omega) hsz I C ) okX12_in kw_6_106 kw_6_107 ⟨rfl, rfl⟩ ⟨Nat.le_of_ble_eq_true rfl, Nat.le_of_ble_eq_true rfl⟩ rfl rfl (Nat.le_of_ble_eq_true rfl) ⟨Nat.le_of_ble_eq_true rfl, Nat.le_of_ble_eq_true rfl⟩ rfl rfl dX12_frosts_50 rfl (fun v89 M90 P91 => ?_)
          obtain ⟨rfl, rv89, xv89⟩ := P91
          refine g_if_eq (n := 56) (tgt := 69) X dX12_frosts_53 (by decide) (by omega) rfl (fun c92 => ?_) (fun c92 => ?_)
          · refine g_bipush (n := 71) X dX12_frosts_69 (by decide +kernel) rfl ?_
            exact hq _ _ _ _ dX12_frosts_71 ⟨by omega, I, C, gFr.rf, by omega⟩
          · refine g_lload_n (n := 57) X 2 dX12_frosts_56 rfl rfl rfl ?_
            refine g_lconst (n := 58) (z := 0) X dX12_frosts_57 (by decide +kernel) rfl ?_
            refine g_lcmp2 (n := 59) X dX12_frosts_58 (by omega) (by omega) rfl (fun v93 xv93 rv93 => ?_)
            refine g_if_lt (n := 62) (tgt := 69) X dX12_frosts_59 (by decide) (by omega) rfl (fun c94 => ?_) (fun c94 => ?_)
            · refine g_bipush (n := 71) X dX12_frosts_69 (by decide +kernel) rfl ?_
              exact hq _ _ _ _ dX12_frosts_71 ⟨by omega, I, C, gFr.rf, by omega⟩
            · refine g_lload_n (n := 63) X 2 dX12_frosts_62 rfl rfl rfl ?_
              refine g_lload (n := 65) X 4 dX12_frosts_63 rfl rfl ?_
              refine g_lcmp2 (n := 66) X dX12_frosts_65 (by omega) (by omega) rfl (fun v95 xv95 rv95 => ?_)
              refine g_if_lt (n := 69) (tgt := 72) X dX12_frosts_66 (by decide) (by omega) rfl (fun c96 => ?_) (fun c96 => ?_)
              · refine g_lload_n (n := 73) X 2 dX12_frosts_72 rfl rfl rfl ?_
                refine g_lstore (n := 75) (L' := [(7, gV b), (0, gA n0 190), (1, gJ a), (2, gV b), (4, gJ c), (5, gV v5)]) X dX12_frosts_73 (by decide) rfl rfl ?_
                refine g_iload (n := 77) X 4 dX12_frosts_75 rfl rfl ?_
                refine g_iconst (n := 78) X dX12_frosts_77 rfl ?_
                refine g_isub (n := 79) (z := c - 1) X dX12_frosts_78 (by omega) rfl ?_
                refine g_istore (n := 81) (L' := [(9, gJ (c - 1)), (7, gV b), (0, gA n0 190), (1, gJ a), (2, gV b), (4, gJ c), (5, gV v5)]) X dX12_frosts_79 (by decide) rfl rfl ?_
                have j100 : ∀ (N115 : Nat) (v97 v98 : Int) (M99 : gM) , (-9223372036854775808 ≤ v97 ∧ v97 ≤ 9223372036854775807) → (-1 ≤ v98 ∧ v98 ≤ 9) → gI sz M99 → gC sz M99 → gFr 72057594037927936 M M99 → (v98 + 1).toNat < N115 → G p l e R_X12_frosts s m args below meth cd n0 D cA 10 Q 0 0 M99 sz 81 [(0, gA n0 190), (1, gJ a), (4, gJ c), (7, gV v97), (9, gJ v98)] [] := by
                  intro N115; induction N115 with
                  | zero => intro v97 v98 M99 rv97 rv98 IM99 CM99 FM99 hm117; exfalso; omega
                  | succ N115 ih116 =>
                    intro v97 v98 M99 rv97 rv98 IM99 CM99 FM99 hm117
                    refine g_iload (n := 83) X 4 dX12_frosts_81 rfl rfl ?_
                    refine g_if_lt (n := 86) (tgt := 123) X dX12_frosts_83 (by decide) (by omega) rfl (fun c118 => ?_) (fun c118 => ?_)
                    · refine g_aload_n (n := 124) X 0 dX12_frosts_123 rfl rfl rfl ?_
                      refine gg_12_1 (n := 127) (z := 191) X (by decide) (gsz hsz (by decide)) lay_190 kw_6_27 dX12_frosts_124 rfl (rf_190_1 IM99 (gsz hsz (by decide))) (by decide) ?_
                      refine g_sipush (n := 130) X dX12_frosts_127 (by decide +kernel) rfl ?_
                      refine g_iload_n (n := 131) X 1 dX12_frosts_130 rfl rfl rfl ?_
                      refine g_iadd (n := 132) (z := a + 2580) X dX12_frosts_131 (by omega) rfl ?_
                      refine g_iload (n := 134) X 2 dX12_frosts_132 rfl rfl ?_
                      refine g_iast (n := 135) X (by decide) (gsz hsz (by decide)) lay_191 (by omega) (by omega) (by decide) dX12_frosts_134 rfl ?_
                      refine G.nm (fun M119 e120 => ?_)
                      have IM119 : gI sz M119 := gI.set IM99 (rs_FMANY (k := a + 2580) (by omega)).1 (by omega) e120
                      have CM119 : gC sz M119 := gC.set CM99 (rs_FMANY (k := a + 2580) (by omega)).2.1 e120
                      refine g_iload (n := 137) X 2 dX12_frosts_135 rfl rfl ?_
                      exact hq _ _ _ _ dX12_frosts_137 ⟨by omega, IM119, CM119, (gFr.s (gFr.c gFr.rf FM99 rfl) e120 (rs_FMANY (k := a + 2580) (by omega)).2.2 rfl), by omega⟩
                    · refine g_aload_n (n := 87) X 0 dX12_frosts_86 rfl rfl rfl ?_
                      refine gg_12_1 (n := 90) (z := 191) X (by decide) (gsz hsz (by decide)) lay_190 kw_6_27 dX12_frosts_87 rfl (rf_190_1 IM99 (gsz hsz (by decide))) (by decide) ?_
                      refine g_sipush (n := 93) X dX12_frosts_90 (by decide +kernel) rfl ?_
                      refine g_bipush (n := 95) X dX12_frosts_93 (by decide +kernel) rfl ?_
                      refine g_iload_n (n := 96) X 1 dX12_frosts_95 rfl rfl rfl ?_
                      refine g_imul (n := 97) (z := 10 * a) X dX12_frosts_96 rfl rfl ?_
                      refine g_iadd (n := 98) (z := 2584 + (10 * a)) X dX12_frosts_97 rfl rfl ?_
                      refine g_iload (n := 100) X 4 dX12_frosts_98 rfl rfl ?_
                      refine g_iadd (n := 101) (z := (2584 + (10 * a)) + v98) X dX12_frosts_100 rfl rfl ?_
                      refine g_lload (n := 103) X 3 dX12_frosts_101 rfl rfl ?_
                      refine g_ldc2 (n := 106) (z := 10) X dX12_frosts_103 kw_8_0 (by decide +kernel) rfl ?_
                      refine g_lremA (n := 107) X dX12_frosts_106 (by decide +kernel) rfl (fun v121 rv121 xv121 => ?_)
                      clear xv121
                      refine g_l2iA (n := 108) X dX12_frosts_107 rfl (fun v122 rv122 xv122 => ?_)
                      clear xv122
                      refine g_iast (n := 109) X (by decide) (gsz hsz (by decide)) lay_191 (by omega) (by omega) (by decide) dX12_frosts_108 rfl ?_
                      refine G.nm (fun M123 e124 => ?_)
                      have IM123 : gI sz M123 := gI.set IM99 (rs_FROW (k := (2584 + (10 * a)) + v98) (by omega)).1 (by omega) e124
                      have CM123 : gC sz M123 := gC.set CM99 (rs_FROW (k := (2584 + (10 * a)) + v98) (by omega)).2.1 e124
                      refine g_lload (n := 111) X 3 dX12_frosts_109 rfl rfl ?_
                      refine g_ldc2 (n := 114) (z := 10) X dX12_frosts_111 kw_8_0 (by decide +kernel) rfl ?_
                      refine g_ldivA (n := 115) X dX12_frosts_114 (by decide +kernel) rfl (fun v125 rv125 xv125 => ?_)
                      clear xv125
                      refine g_lstore (n := 117) (L' := [(7, gV v125), (0, gA n0 190), (1, gJ a), (4, gJ c), (9, gJ v98)]) X dX12_frosts_115 (by decide) rfl rfl ?_
                      refine g_iinc (n := 120) (w := v98 - 1) (L' := [(9, gJ (v98 - 1)), (7, gV v125), (0, gA n0 190), (1, gJ a), (4, gJ c)]) X 4 dX12_frosts_117 rfl rfl (by decide) rfl rfl ?_
                      refine g_goto (tgt := 81) X dX12_frosts_120 (by decide) ?_
                      refine G.sub (L' := [(0, gA n0 190), (1, gJ a), (4, gJ c), (7, gV v125), (9, gJ (v98 - 1))]) [2, 3, 4, 1, 0] rfl ?_
                      exact ih116 v125 (v98 - 1) M123 (by omega) (by omega) IM123 CM123 (gFr.s (gFr.c gFr.rf FM99 rfl) e124 (rs_FROW (k := (2584 + (10 * a)) + v98) (by omega)).2.2 rfl) (by omega)
                refine G.sub (L' := [(0, gA n0 190), (1, gJ a), (4, gJ c), (7, gV b), (9, gJ (c - 1))]) [2, 3, 5, 1, 0] rfl ?_
                exact j100 _ b (c - 1) M (by omega) (by omega) I C gFr.rf (Nat.lt_succ_self _)
              · refine g_bipush (n := 71) X dX12_frosts_69 (by decide +kernel) rfl ?_
                exact hq _ _ _ _ dX12_frosts_71 ⟨by omega, I, C, gFr.rf, by omega⟩
        · refine g_iload (n := 26) X 5 dX12_frosts_24 rfl rfl ?_
          refine g_bipush (n := 28) X dX12_frosts_26 (by decide +kernel) rfl ?_
          refine g_icmp_ge (n := 31) (tgt := 45) X dX12_frosts_28 (by decide) (by omega) (by omega) rfl (fun c126 => ?_) (fun c126 => ?_)
          · have hT6 : (1 ≤ c ∧ c ≤ 10) → gTen v6 = gTen c := fun h => by rw [show v6 = c by omega]
            refine g_iload (n := 47) X 3 dX12_frosts_45 rfl rfl ?_
            refine g_iconst (n := 48) X dX12_frosts_47 rfl ?_
            refine g_bipush (n := 50) X dX12_frosts_48 (by decide +kernel) rfl ?_
            refine g_callSi (n := 53) (As := [gJ c, gJ 1, gJ 10]) (rest := []) (cs1 := 0) (ss1 := 0) X (s_X12_in c (by omega) 1 (by omega) 10 (by omega) hsz I C ) okX12_in kw_6_106 kw_6_107 ⟨rfl, rfl⟩ ⟨Nat.le_of_ble_eq_true rfl, Nat.le_of_ble_eq_true rfl⟩ rfl rfl (Nat.le_of_ble_eq_true rfl) ⟨Nat.le_of_ble_eq_true rfl, Nat.le_of_ble_eq_true rfl⟩ rfl rfl dX12_frosts_50 rfl (fun v127 M128 P129 => ?_)
            obtain ⟨rfl, rv127, xv127⟩ := P129
            refine g_if_eq (n := 56) (tgt := 69) X dX12_frosts_53 (by decide) (by omega) rfl (fun c130 => ?_) (fun c130 => ?_)
            · refine g_bipush (n := 71) X dX12_frosts_69 (by decide +kernel) rfl ?_
              exact hq _ _ _ _ dX12_frosts_71 ⟨by omega, I, C, gFr.rf, by omega⟩
            · refine g_lload_n (n := 57) X 2 dX12_frosts_56 rfl rfl rfl ?_
              refine g_lconst (n := 58) (z := 0) X dX12_frosts_57 (by decide +kernel) rfl ?_
              refine g_lcmp2 (n := 59) X dX12_frosts_58 (by omega) (by omega) rfl (fun v131 xv131 rv131 => ?_)
              refine g_if_lt (n := 62) (tgt := 69) X dX12_frosts_59 (by decide) (by omega) rfl (fun c132 => ?_) (fun c132 => ?_)
              · refine g_bipush (n := 71) X dX12_frosts_69 (by decide +kernel) rfl ?_
                exact hq _ _ _ _ dX12_frosts_71 ⟨by omega, I, C, gFr.rf, by omega⟩
              · refine g_lload_n (n := 63) X 2 dX12_frosts_62 rfl rfl rfl ?_
                refine g_lload (n := 65) X 4 dX12_frosts_63 rfl rfl ?_
                refine g_lcmp2 (n := 66) X dX12_frosts_65 (by omega) (by omega) rfl (fun v133 xv133 rv133 => ?_)
                refine g_if_lt (n := 69) (tgt := 72) X dX12_frosts_66 (by decide) (by omega) rfl (fun c134 => ?_) (fun c134 => ?_)
                · refine g_lload_n (n := 73) X 2 dX12_frosts_72 rfl rfl rfl ?_
                  refine g_lstore (n := 75) (L' := [(7, gV b), (0, gA n0 190), (1, gJ a), (2, gV b), (4, gJ c), (5, gV v5)]) X dX12_frosts_73 (by decide) rfl rfl ?_
                  refine g_iload (n := 77) X 4 dX12_frosts_75 rfl rfl ?_
                  refine g_iconst (n := 78) X dX12_frosts_77 rfl ?_
                  refine g_isub (n := 79) (z := c - 1) X dX12_frosts_78 (by omega) rfl ?_
                  refine g_istore (n := 81) (L' := [(9, gJ (c - 1)), (7, gV b), (0, gA n0 190), (1, gJ a), (2, gV b), (4, gJ c), (5, gV v5)]) X dX12_frosts_79 (by decide) rfl rfl ?_
                  have j138 : ∀ (N153 : Nat) (v135 v136 : Int) (M137 : gM) , (-9223372036854775808 ≤ v135 ∧ v135 ≤ 9223372036854775807) → (-1 ≤ v136 ∧ v136 ≤ 9) → gI sz M137 → gC sz M137 → gFr 72057594037927936 M M137 → (v136 + 1).toNat < N153 → G p l e R_X12_frosts s m args below meth cd n0 D cA 10 Q 0 0 M137 sz 81 [(0, gA n0 190), (1, gJ a), (4, gJ c), (7, gV v135), (9, gJ v136)] [] := by
                    intro N153; induction N153 with
                    | zero => intro v135 v136 M137 rv135 rv136 IM137 CM137 FM137 hm155; exfalso; omega
                    | succ N153 ih154 =>
                      intro v135 v136 M137 rv135 rv136 IM137 CM137 FM137 hm155
                      refine g_iload (n := 83) X 4 dX12_frosts_81 rfl rfl ?_
                      refine g_if_lt (n := 86) (tgt := 123) X dX12_frosts_83 (by decide) (by omega) rfl (fun c156 => ?_) (fun c156 => ?_)
                      · refine g_aload_n (n := 124) X 0 dX12_frosts_123 rfl rfl rfl ?_
                        refine gg_12_1 (n := 127) (z := 191) X (by decide) (gsz hsz (by decide)) lay_190 kw_6_27 dX12_frosts_124 rfl (rf_190_1 IM137 (gsz hsz (by decide))) (by decide) ?_
                        refine g_sipush (n := 130) X dX12_frosts_127 (by decide +kernel) rfl ?_
                        refine g_iload_n (n := 131) X 1 dX12_frosts_130 rfl rfl rfl ?_
                        refine g_iadd (n := 132) (z := a + 2580) X dX12_frosts_131 (by omega) rfl ?_
                        refine g_iload (n := 134) X 2 dX12_frosts_132 rfl rfl ?_
                        refine g_iast (n := 135) X (by decide) (gsz hsz (by decide)) lay_191 (by omega) (by omega) (by decide) dX12_frosts_134 rfl ?_
                        refine G.nm (fun M157 e158 => ?_)
                        have IM157 : gI sz M157 := gI.set IM137 (rs_FMANY (k := a + 2580) (by omega)).1 (by omega) e158
                        have CM157 : gC sz M157 := gC.set CM137 (rs_FMANY (k := a + 2580) (by omega)).2.1 e158
                        refine g_iload (n := 137) X 2 dX12_frosts_135 rfl rfl ?_
                        exact hq _ _ _ _ dX12_frosts_137 ⟨by omega, IM157, CM157, (gFr.s (gFr.c gFr.rf FM137 rfl) e158 (rs_FMANY (k := a + 2580) (by omega)).2.2 rfl), by omega⟩
                      · refine g_aload_n (n := 87) X 0 dX12_frosts_86 rfl rfl rfl ?_
                        refine gg_12_1 (n := 90) (z := 191) X (by decide) (gsz hsz (by decide)) lay_190 kw_6_27 dX12_frosts_87 rfl (rf_190_1 IM137 (gsz hsz (by decide))) (by decide) ?_
                        refine g_sipush (n := 93) X dX12_frosts_90 (by decide +kernel) rfl ?_
                        refine g_bipush (n := 95) X dX12_frosts_93 (by decide +kernel) rfl ?_
                        refine g_iload_n (n := 96) X 1 dX12_frosts_95 rfl rfl rfl ?_
                        refine g_imul (n := 97) (z := 10 * a) X dX12_frosts_96 rfl rfl ?_
                        refine g_iadd (n := 98) (z := 2584 + (10 * a)) X dX12_frosts_97 rfl rfl ?_
                        refine g_iload (n := 100) X 4 dX12_frosts_98 rfl rfl ?_
                        refine g_iadd (n := 101) (z := (2584 + (10 * a)) + v136) X dX12_frosts_100 rfl rfl ?_
                        refine g_lload (n := 103) X 3 dX12_frosts_101 rfl rfl ?_
                        refine g_ldc2 (n := 106) (z := 10) X dX12_frosts_103 kw_8_0 (by decide +kernel) rfl ?_
                        refine g_lremA (n := 107) X dX12_frosts_106 (by decide +kernel) rfl (fun v159 rv159 xv159 => ?_)
                        clear xv159
                        refine g_l2iA (n := 108) X dX12_frosts_107 rfl (fun v160 rv160 xv160 => ?_)
                        clear xv160
                        refine g_iast (n := 109) X (by decide) (gsz hsz (by decide)) lay_191 (by omega) (by omega) (by decide) dX12_frosts_108 rfl ?_
                        refine G.nm (fun M161 e162 => ?_)
                        have IM161 : gI sz M161 := gI.set IM137 (rs_FROW (k := (2584 + (10 * a)) + v136) (by omega)).1 (by omega) e162
                        have CM161 : gC sz M161 := gC.set CM137 (rs_FROW (k := (2584 + (10 * a)) + v136) (by omega)).2.1 e162
                        refine g_lload (n := 111) X 3 dX12_frosts_109 rfl rfl ?_
                        refine g_ldc2 (n := 114) (z := 10) X dX12_frosts_111 kw_8_0 (by decide +kernel) rfl ?_
                        refine g_ldivA (n := 115) X dX12_frosts_114 (by decide +kernel) rfl (fun v163 rv163 xv163 => ?_)
                        clear xv163
                        refine g_lstore (n := 117) (L' := [(7, gV v163), (0, gA n0 190), (1, gJ a), (4, gJ c), (9, gJ v136)]) X dX12_frosts_115 (by decide) rfl rfl ?_
                        refine g_iinc (n := 120) (w := v136 - 1) (L' := [(9, gJ (v136 - 1)), (7, gV v163), (0, gA n0 190), (1, gJ a), (4, gJ c)]) X 4 dX12_frosts_117 rfl rfl (by decide) rfl rfl ?_
                        refine g_goto (tgt := 81) X dX12_frosts_120 (by decide) ?_
                        refine G.sub (L' := [(0, gA n0 190), (1, gJ a), (4, gJ c), (7, gV v163), (9, gJ (v136 - 1))]) [2, 3, 4, 1, 0] rfl ?_
                        exact ih154 v163 (v136 - 1) M161 (by omega) (by omega) IM161 CM161 (gFr.s (gFr.c gFr.rf FM137 rfl) e162 (rs_FROW (k := (2584 + (10 * a)) + v136) (by omega)).2.2 rfl) (by omega)
                  refine G.sub (L' := [(0, gA n0 190), (1, gJ a), (4, gJ c), (7, gV b), (9, gJ (c - 1))]) [2, 3, 5, 1, 0] rfl ?_
                  exact j138 _ b (c - 1) M (by omega) (by omega) I C gFr.rf (Nat.lt_succ_self _)
                · refine g_bipush (n := 71) X dX12_frosts_69 (by decide +kernel) rfl ?_
                  exact hq _ _ _ _ dX12_frosts_71 ⟨by omega, I, C, gFr.rf, by omega⟩
          · refine g_lload (n := 33) X 4 dX12_frosts_31 rfl rfl ?_
            refine g_ldc2 (n := 36) (z := 10) X dX12_frosts_33 kw_8_0 (by decide +kernel) rfl ?_
            refine g_lmul (n := 37) (z := v5 * 10) X dX12_frosts_36 rfl rfl ?_
            refine g_lstore (n := 39) (L' := [(5, gV (v5 * 10)), (0, gA n0 190), (1, gJ a), (2, gV b), (4, gJ c), (7, gJ v6)]) X dX12_frosts_37 (by decide) rfl rfl ?_
            refine g_iinc (n := 42) (w := v6 + 1) (L' := [(7, gJ (v6 + 1)), (5, gV (v5 * 10)), (0, gA n0 190), (1, gJ a), (2, gV b), (4, gJ c)]) X 5 dX12_frosts_39 rfl rfl (by decide) rfl rfl ?_
            refine g_goto (tgt := 17) X dX12_frosts_42 (by decide) ?_
            refine G.sub (L' := [(0, gA n0 190), (1, gJ a), (2, gV b), (4, gJ c), (5, gV (v5 * 10)), (7, gJ (v6 + 1))]) [2, 3, 4, 5, 1, 0] rfl ?_
            exact ih86 (v5 * 10) (v6 + 1) (by omega) (by omega) ⟨by rw [gTen_s (by omega) (by omega)]; omega, by omega⟩ (by omega)
    refine G.sub (L' := [(0, gA n0 190), (1, gJ a), (2, gV b), (4, gJ c), (5, gV 1), (7, gJ 0)]) [2, 3, 4, 5, 1, 0] rfl ?_
    exact j8 _ 1 0 (by omega) (by omega) ⟨by decide, by omega⟩ (Nat.lt_succ_self _)
  · refine g_iconst (n := 10) X dX12_frosts_9 rfl ?_
    exact hq _ _ _ _ dX12_frosts_10 ⟨by omega, I, C, gFr.rf, by omega⟩
theorem dX12_told_0 : decode cX12_told 0 = .ok (.aload_n 0, 1) := dc_42 (by decide +kernel)
theorem dX12_told_1 : decode cX12_told 1 = .ok (.iload_n 1, 1) := dc_27 (by decide +kernel)
theorem dX12_told_2 : decode cX12_told 2 = .ok (.invokevirtual 76, 3) := dc_182 0 76 (by decide +kernel)
theorem dX12_told_5 : decode cX12_told 5 = .ok (.ifCond .ne 5, 3) := dc_154 0 5 5 (by decide +kernel)
theorem dX12_told_10 : decode cX12_told 10 = .ok (.iload_n 2, 1) := dc_28 (by decide +kernel)
theorem dX12_told_11 : decode cX12_told 11 = .ok (.iconst 0, 1) := dc_3 (by decide +kernel)
theorem dX12_told_12 : decode cX12_told 12 = .ok (.bipush 8, 2) := dc_16 8 8 (by decide +kernel)
theorem dX12_told_14 : decode cX12_told 14 = .ok (.invokestatic 64, 3) := dc_184 0 64 (by decide +kernel)
theorem dX12_told_17 : decode cX12_told 17 = .ok (.ifCond .ne 6, 3) := dc_154 0 6 6 (by decide +kernel)
theorem dX12_told_23 : decode cX12_told 23 = .ok (.aload_n 0, 1) := dc_42 (by decide +kernel)
theorem dX12_told_24 : decode cX12_told 24 = .ok (.getfield 7, 3) := dc_180 0 7 (by decide +kernel)
theorem dX12_told_27 : decode cX12_told 27 = .ok (.sipush 2770, 3) := dc_17 10 210 2770 (by decide +kernel)
theorem dX12_told_30 : decode cX12_told 30 = .ok (.iload_n 1, 1) := dc_27 (by decide +kernel)
theorem dX12_told_31 : decode cX12_told 31 = .ok (.iadd, 1) := dc_96 (by decide +kernel)
theorem dX12_told_32 : decode cX12_told 32 = .ok (.iaload, 1) := dc_46 (by decide +kernel)
theorem dX12_told_33 : decode cX12_told 33 = .ok (.istore_n 3, 1) := dc_62 (by decide +kernel)
theorem dX12_told_34 : decode cX12_told 34 = .ok (.aload_n 0, 1) := dc_42 (by decide +kernel)
theorem dX12_told_35 : decode cX12_told 35 = .ok (.getfield 7, 3) := dc_180 0 7 (by decide +kernel)
theorem dX12_told_38 : decode cX12_told 38 = .ok (.sipush 2770, 3) := dc_17 10 210 2770 (by decide +kernel)
theorem dX12_told_41 : decode cX12_told 41 = .ok (.iload_n 1, 1) := dc_27 (by decide +kernel)
theorem dX12_told_42 : decode cX12_told 42 = .ok (.iadd, 1) := dc_96 (by decide +kernel)
theorem dX12_told_43 : decode cX12_told 43 = .ok (.iload_n 2, 1) := dc_28 (by decide +kernel)
theorem dX12_told_44 : decode cX12_told 44 = .ok (.iastore, 1) := dc_79 (by decide +kernel)
theorem dX12_told_45 : decode cX12_told 45 = .ok (.iload_n 3, 1) := dc_29 (by decide +kernel)
theorem dX12_told_46 : decode cX12_told 46 = .ok (.ireturn, 1) := dc_172 (by decide +kernel)
theorem dX12_told_20 : decode cX12_told 20 = .ok (.bipush (-2), 2) := dc_16 254 (-2) (by decide +kernel)
theorem dX12_told_22 : decode cX12_told 22 = .ok (.ireturn, 1) := dc_172 (by decide +kernel)
theorem dX12_told_8 : decode cX12_told 8 = .ok (.iconst (-1), 1) := dc_2 (by decide +kernel)
theorem dX12_told_9 : decode cX12_told 9 = .ok (.ireturn, 1) := dc_172 (by decide +kernel)
abbrev R_X12_told : Room := { frames := 2, cells := 0, slots := 0, locals := 43 }
set_option maxRecDepth 100000 in
set_option maxHeartbeats 4000000 in
theorem s_X12_told {l : Launch} {n0 : Nat} {D : va_G} {cA : Nat → ClassId} {M : gM} (a : Int) (r_a : -2147483648 ≤ a ∧ a ≤ 2147483647) (b : Int) (r_b : -2147483648 ≤ b ∧ b ≤ 2147483647) {sz : Nat} (hsz : 206 ≤ sz) (I : gI sz M) (C : gC sz M)   : Met l yX12_told (gWsOf yX12_told cX12_told 4 (Option.some Jvm.ClassFile.FieldType.int)) R_X12_told (gPc n0 D cA [gA n0 190, gJ a, gJ b] M sz) (gQi n0 D cA sz (fun z M1 => (-2147483648 ≤ z ∧ z ≤ 2147483647) ∧ gI sz M1 ∧ gC sz M1 ∧ gFr 288230376151711744 M M1 ∧ ((((¬ (0 ≤ a ∧ a < M 191 1) ∧ z = -1) ∨ ((0 ≤ a ∧ a < M 191 1) ∧ ¬ (0 ≤ b ∧ b ≤ 8) ∧ z = -2)) ∧ (∀ p : Int, 0 ≤ p → p < 16 → M1 191 (p + 2770) = M 191 (p + 2770))) ∨ ((0 ≤ a ∧ a < M 191 1) ∧ (0 ≤ b ∧ b ≤ 8) ∧ z = M 191 (a + 2770) ∧ (∀ p : Int, 0 ≤ p → p < 16 → ¬ p = a → M1 191 (p + 2770) = M 191 (p + 2770)) ∧ M1 191 (a + 2770) = b)))) 0 0 (fun q => n0 ≤ q) := by
  refine gMetI [gA n0 190, gJ a, gJ b] (by decide) (Nat.le_of_ble_eq_true rfl) ⟨rfl, rfl⟩ ?_
  intro p e s m args below meth cd Q X hq
  have X : gCx p s m args meth cd n0 D cA "ParishUnionModel" cX12_told 4 := X
  show G p l e R_X12_told s m args below meth cd n0 D cA 4 Q 0 0 M sz 0 [(0, gA n0 190), (1, gJ a), (2, gJ b)] []
  obtain ⟨v1, hv1, rv1⟩ := gRd I (by decide) (gsz hsz (by decide)) (rs_PERS (k := 1) (by omega)).1
  refine g_aload_n (n := 1) X 0 dX12_told_0 rfl rfl rfl ?_
  refine g_iload_n (n := 2) X 1 dX12_told_1 rfl rfl rfl ?_
  refine g_callVi (n := 5) (As := [gJ a]) (rest := []) (cs1 := 0) (ss1 := 0) X (s_X12_isPerson a (by omega) hsz I C ) okX12_isPerson kw_6_125 ⟨kw_6_127, kw_0_40⟩ ⟨rfl, rfl⟩ ⟨Nat.le_of_ble_eq_true rfl, Nat.le_of_ble_eq_true rfl⟩ rfl (by decide) (gsz hsz (by decide)) lay_190 rfl rfl (Nat.le_of_ble_eq_true rfl) ⟨Nat.le_of_ble_eq_true rfl, Nat.le_of_ble_eq_true rfl⟩ rfl rfl dX12_told_2 rfl (fun v2 M3 P4 => ?_)
  obtain ⟨rfl, rv2, xv2⟩ := P4
  refine g_if_ne (n := 8) (tgt := 10) X dX12_told_5 (by decide) (by omega) rfl (fun c5 => ?_) (fun c5 => ?_)
  · refine g_iload_n (n := 11) X 2 dX12_told_10 rfl rfl rfl ?_
    refine g_iconst (n := 12) X dX12_told_11 rfl ?_
    refine g_bipush (n := 14) X dX12_told_12 (by decide +kernel) rfl ?_
    refine g_callSi (n := 17) (As := [gJ b, gJ 0, gJ 8]) (rest := []) (cs1 := 0) (ss1 := 0) X (s_X12_in b (by omega) 0 (by omega) 8 (by omega) hsz I C ) okX12_in kw_6_106 kw_6_107 ⟨rfl, rfl⟩ ⟨Nat.le_of_ble_eq_true rfl, Nat.le_of_ble_eq_true rfl⟩ rfl rfl (Nat.le_of_ble_eq_true rfl) ⟨Nat.le_of_ble_eq_true rfl, Nat.le_of_ble_eq_true rfl⟩ rfl rfl dX12_told_14 rfl (fun v6 M7 P8 => ?_)
    obtain ⟨rfl, rv6, xv6⟩ := P8
    refine g_if_ne (n := 20) (tgt := 23) X dX12_told_17 (by decide) (by omega) rfl (fun c9 => ?_) (fun c9 => ?_)
    · refine g_aload_n (n := 24) X 0 dX12_told_23 rfl rfl rfl ?_
      refine gg_12_1 (n := 27) (z := 191) X (by decide) (gsz hsz (by decide)) lay_190 kw_6_27 dX12_told_24 rfl (rf_190_1 I (gsz hsz (by decide))) (by decide) ?_
      refine g_sipush (n := 30) X dX12_told_27 (by decide +kernel) rfl ?_
      refine g_iload_n (n := 31) X 1 dX12_told_30 rfl rfl rfl ?_
      refine g_iadd (n := 32) (z := a + 2770) X dX12_told_31 (by omega) rfl ?_
      obtain ⟨v10, hv10, rv10⟩ := gRd I (by decide) (gsz hsz (by decide)) (rs_TOLD (k := a + 2770) (by omega)).1
      refine g_iald2 (n := 33) (v := v10) X (by decide) (gsz hsz (by decide)) lay_191 (by omega) (by omega) (by decide) dX12_told_32 rfl hv10 ?_
      refine g_istore_n (n := 34) (L' := [(3, gJ v10), (0, gA n0 190), (1, gJ a), (2, gJ b)]) X dX12_told_33 rfl (by decide) rfl rfl ?_
      refine g_aload_n (n := 35) X 1 dX12_told_34 rfl rfl rfl ?_
      refine gg_12_1 (n := 38) (z := 191) X (by decide) (gsz hsz (by decide)) lay_190 kw_6_27 dX12_told_35 rfl (rf_190_1 I (gsz hsz (by decide))) (by decide) ?_
      refine g_sipush (n := 41) X dX12_told_38 (by decide +kernel) rfl ?_
      refine g_iload_n (n := 42) X 2 dX12_told_41 rfl rfl rfl ?_
      refine g_iadd (n := 43) (z := a + 2770) X dX12_told_42 (by omega) rfl ?_
      refine g_iload_n (n := 44) X 3 dX12_told_43 rfl rfl rfl ?_
      refine g_iast (n := 45) X (by decide) (gsz hsz (by decide)) lay_191 (by omega) (by omega) (by decide) dX12_told_44 rfl ?_
      refine G.nm (fun M11 e12 => ?_)
      have IM11 : gI sz M11 := gI.set I (rs_TOLD (k := a + 2770) (by omega)).1 (by omega) e12
      have CM11 : gC sz M11 := gC.set C (rs_TOLD (k := a + 2770) (by omega)).2.1 e12
      refine g_iload_n (n := 46) X 0 dX12_told_45 rfl rfl rfl ?_
      exact hq _ _ _ _ dX12_told_46 ⟨by omega, IM11, CM11, (gFr.s gFr.rf e12 (rs_TOLD (k := a + 2770) (by omega)).2.2 rfl), Or.inr ⟨by omega, by omega, (hv10).symm, (fun p h0 h1 hp => by rw [e12, gset_ne (by omega)]), (by rw [e12, gset_eq])⟩⟩
    · refine g_bipush (n := 22) X dX12_told_20 (by decide +kernel) rfl ?_
      exact hq _ _ _ _ dX12_told_22 ⟨by omega, I, C, gFr.rf, Or.inl ⟨by omega, fun p h0 h1 => rfl⟩⟩
  · refine g_iconst (n := 9) X dX12_told_8 rfl ?_
    exact hq _ _ _ _ dX12_told_9 ⟨by omega, I, C, gFr.rf, Or.inl ⟨by omega, fun p h0 h1 => rfl⟩⟩
theorem dX12_check_0 : decode cX12_check 0 = .ok (.aload_n 0, 1) := dc_42 (by decide +kernel)
theorem dX12_check_1 : decode cX12_check 1 = .ok (.iload_n 1, 1) := dc_27 (by decide +kernel)
theorem dX12_check_2 : decode cX12_check 2 = .ok (.invokevirtual 275, 3) := dc_182 1 19 (by decide +kernel)
theorem dX12_check_5 : decode cX12_check 5 = .ok (.ifCond .ne 5, 3) := dc_154 0 5 5 (by decide +kernel)
theorem dX12_check_10 : decode cX12_check 10 = .ok (.iconst 0, 1) := dc_3 (by decide +kernel)
theorem dX12_check_11 : decode cX12_check 11 = .ok (.istore_n 2, 1) := dc_61 (by decide +kernel)
theorem dX12_check_12 : decode cX12_check 12 = .ok (.iload_n 2, 1) := dc_28 (by decide +kernel)
theorem dX12_check_13 : decode cX12_check 13 = .ok (.aload_n 0, 1) := dc_42 (by decide +kernel)
theorem dX12_check_14 : decode cX12_check 14 = .ok (.getfield 7, 3) := dc_180 0 7 (by decide +kernel)
theorem dX12_check_17 : decode cX12_check 17 = .ok (.sipush 25000, 3) := dc_17 97 168 25000 (by decide +kernel)
theorem dX12_check_20 : decode cX12_check 20 = .ok (.iload_n 1, 1) := dc_27 (by decide +kernel)
theorem dX12_check_21 : decode cX12_check 21 = .ok (.iadd, 1) := dc_96 (by decide +kernel)
theorem dX12_check_22 : decode cX12_check 22 = .ok (.iaload, 1) := dc_46 (by decide +kernel)
theorem dX12_check_23 : decode cX12_check 23 = .ok (.if_icmp .ge 40, 3) := dc_162 0 40 40 (by decide +kernel)
theorem dX12_check_63 : decode cX12_check 63 = .ok (.bipush (-5), 2) := dc_16 251 (-5) (by decide +kernel)
theorem dX12_check_65 : decode cX12_check 65 = .ok (.ireturn, 1) := dc_172 (by decide +kernel)
theorem dX12_check_26 : decode cX12_check 26 = .ok (.aload_n 0, 1) := dc_42 (by decide +kernel)
theorem dX12_check_27 : decode cX12_check 27 = .ok (.getfield 7, 3) := dc_180 0 7 (by decide +kernel)
theorem dX12_check_30 : decode cX12_check 30 = .ok (.sipush 5400, 3) := dc_17 21 24 5400 (by decide +kernel)
theorem dX12_check_33 : decode cX12_check 33 = .ok (.sipush 301, 3) := dc_17 1 45 301 (by decide +kernel)
theorem dX12_check_36 : decode cX12_check 36 = .ok (.iload_n 2, 1) := dc_28 (by decide +kernel)
theorem dX12_check_37 : decode cX12_check 37 = .ok (.imul, 1) := dc_104 (by decide +kernel)
theorem dX12_check_38 : decode cX12_check 38 = .ok (.iadd, 1) := dc_96 (by decide +kernel)
theorem dX12_check_39 : decode cX12_check 39 = .ok (.iload_n 1, 1) := dc_27 (by decide +kernel)
theorem dX12_check_40 : decode cX12_check 40 = .ok (.iadd, 1) := dc_96 (by decide +kernel)
theorem dX12_check_41 : decode cX12_check 41 = .ok (.iaload, 1) := dc_46 (by decide +kernel)
theorem dX12_check_42 : decode cX12_check 42 = .ok (.aload_n 0, 1) := dc_42 (by decide +kernel)
theorem dX12_check_43 : decode cX12_check 43 = .ok (.getfield 7, 3) := dc_180 0 7 (by decide +kernel)
theorem dX12_check_46 : decode cX12_check 46 = .ok (.sipush 2770, 3) := dc_17 10 210 2770 (by decide +kernel)
theorem dX12_check_49 : decode cX12_check 49 = .ok (.iload_n 2, 1) := dc_28 (by decide +kernel)
theorem dX12_check_50 : decode cX12_check 50 = .ok (.iadd, 1) := dc_96 (by decide +kernel)
theorem dX12_check_51 : decode cX12_check 51 = .ok (.iaload, 1) := dc_46 (by decide +kernel)
theorem dX12_check_52 : decode cX12_check 52 = .ok (.if_icmp .eq 5, 3) := dc_159 0 5 5 (by decide +kernel)
theorem dX12_check_57 : decode cX12_check 57 = .ok (.iinc 2 1, 3) := dc_132 2 1 1 (by decide +kernel)
theorem dX12_check_60 : decode cX12_check 60 = .ok (.goto (-48), 3) := dc_167 255 208 (-48) (by decide +kernel)
theorem dX12_check_55 : decode cX12_check 55 = .ok (.iload_n 2, 1) := dc_28 (by decide +kernel)
theorem dX12_check_56 : decode cX12_check 56 = .ok (.ireturn, 1) := dc_172 (by decide +kernel)
theorem dX12_check_8 : decode cX12_check 8 = .ok (.iconst (-1), 1) := dc_2 (by decide +kernel)
theorem dX12_check_9 : decode cX12_check 9 = .ok (.ireturn, 1) := dc_172 (by decide +kernel)
abbrev R_X12_check : Room := { frames := 2, cells := 0, slots := 0, locals := 43 }
set_option maxRecDepth 100000 in
set_option maxHeartbeats 4000000 in
theorem s_X12_check {l : Launch} {n0 : Nat} {D : va_G} {cA : Nat → ClassId} {M : gM} (a : Int) (r_a : -2147483648 ≤ a ∧ a ≤ 2147483647) {sz : Nat} (hsz : 206 ≤ sz) (I : gI sz M) (C : gC sz M)   : Met l yX12_check (gWsOf yX12_check cX12_check 3 (Option.some Jvm.ClassFile.FieldType.int)) R_X12_check (gPc n0 D cA [gA n0 190, gJ a] M sz) (gQi n0 D cA sz (fun z M1 => M = M1 ∧ (-5 ≤ z ∧ z ≤ 15))) 0 0 (fun q => n0 ≤ q) := by
  refine gMetI [gA n0 190, gJ a] (by decide) (Nat.le_of_ble_eq_true rfl) ⟨rfl, rfl⟩ ?_
  intro p e s m args below meth cd Q X hq
  have X : gCx p s m args meth cd n0 D cA "ParishUnionModel" cX12_check 3 := X
  show G p l e R_X12_check s m args below meth cd n0 D cA 3 Q 0 0 M sz 0 [(0, gA n0 190), (1, gJ a)] []
  refine g_aload_n (n := 1) X 0 dX12_check_0 rfl rfl rfl ?_
  refine g_iload_n (n := 2) X 1 dX12_check_1 rfl rfl rfl ?_
  refine g_callVi (n := 5) (As := [gJ a]) (rest := []) (cs1 := 0) (ss1 := 0) X (s_X12_isGone a (by omega) hsz I C ) okX12_isGone kw_7_170 ⟨kw_7_172, kw_0_82⟩ ⟨rfl, rfl⟩ ⟨Nat.le_of_ble_eq_true rfl, Nat.le_of_ble_eq_true rfl⟩ rfl (by decide) (gsz hsz (by decide)) lay_190 rfl rfl (Nat.le_of_ble_eq_true rfl) ⟨Nat.le_of_ble_eq_true rfl, Nat.le_of_ble_eq_true rfl⟩ rfl rfl dX12_check_2 rfl (fun v1 M2 P3 => ?_)
  obtain ⟨rfl, rv1, xv1⟩ := P3
  refine g_if_ne (n := 8) (tgt := 10) X dX12_check_5 (by decide) (by omega) rfl (fun c4 => ?_) (fun c4 => ?_)
  · refine g_iconst (n := 11) X dX12_check_10 rfl ?_
    refine g_istore_n (n := 12) (L' := [(2, gJ 0), (0, gA n0 190), (1, gJ a)]) X dX12_check_11 rfl (by decide) rfl rfl ?_
    have j7 : ∀ (N33 : Nat) (v5 : Int) , (0 ≤ v5 ∧ v5 ≤ 16) → (16 - v5).toNat < N33 → G p l e R_X12_check s m args below meth cd n0 D cA 3 Q 0 0 M sz 12 [(0, gA n0 190), (1, gJ a), (2, gJ v5)] [] := by
      intro N33; induction N33 with
      | zero => intro v5 rv5 hm35; exfalso; omega
      | succ N33 ih34 =>
        intro v5 rv5 hm35
        refine g_iload_n (n := 13) X 2 dX12_check_12 rfl rfl rfl ?_
        refine g_aload_n (n := 14) X 0 dX12_check_13 rfl rfl rfl ?_
        refine gg_12_1 (n := 17) (z := 191) X (by decide) (gsz hsz (by decide)) lay_190 kw_6_27 dX12_check_14 rfl (rf_190_1 I (gsz hsz (by decide))) (by decide) ?_
        refine g_sipush (n := 20) X dX12_check_17 (by decide +kernel) rfl ?_
        refine g_iload_n (n := 21) X 1 dX12_check_20 rfl rfl rfl ?_
        refine g_iadd (n := 22) (z := a + 25000) X dX12_check_21 (by omega) rfl ?_
        obtain ⟨v36, hv36, rv36⟩ := gRd I (by decide) (gsz hsz (by decide)) (rs_GPERS (k := a + 25000) (by omega)).1
        refine g_iald2 (n := 23) (v := v36) X (by decide) (gsz hsz (by decide)) lay_191 (by omega) (by omega) (by decide) dX12_check_22 rfl hv36 ?_
        refine g_icmp_ge (n := 26) (tgt := 63) X dX12_check_23 (by decide) (by omega) (by omega) rfl (fun c37 => ?_) (fun c37 => ?_)
        · refine g_bipush (n := 65) X dX12_check_63 (by decide +kernel) rfl ?_
          exact hq _ _ _ _ dX12_check_65 ⟨rfl, by omega⟩
        · refine g_aload_n (n := 27) X 0 dX12_check_26 rfl rfl rfl ?_
          refine gg_12_1 (n := 30) (z := 191) X (by decide) (gsz hsz (by decide)) lay_190 kw_6_27 dX12_check_27 rfl (rf_190_1 I (gsz hsz (by decide))) (by decide) ?_
          refine g_sipush (n := 33) X dX12_check_30 (by decide +kernel) rfl ?_
          refine g_sipush (n := 36) X dX12_check_33 (by decide +kernel) rfl ?_
          refine g_iload_n (n := 37) X 2 dX12_check_36 rfl rfl rfl ?_
          refine g_imul (n := 38) (z := 301 * v5) X dX12_check_37 rfl rfl ?_
          refine g_iadd (n := 39) (z := 5400 + (301 * v5)) X dX12_check_38 rfl rfl ?_
          refine g_iload_n (n := 40) X 1 dX12_check_39 rfl rfl rfl ?_
          refine g_iadd (n := 41) (z := (5400 + (301 * v5)) + a) X dX12_check_40 rfl rfl ?_
          obtain ⟨v38, hv38, rv38⟩ := gRd I (by decide) (gsz hsz (by decide)) (rs_W (k := (5400 + (301 * v5)) + a) (by omega)).1
          refine g_iald2 (n := 42) (v := v38) X (by decide) (gsz hsz (by decide)) lay_191 (by omega) (by omega) (by decide) dX12_check_41 rfl hv38 ?_
          refine g_aload_n (n := 43) X 0 dX12_check_42 rfl rfl rfl ?_
          refine gg_12_1 (n := 46) (z := 191) X (by decide) (gsz hsz (by decide)) lay_190 kw_6_27 dX12_check_43 rfl (rf_190_1 I (gsz hsz (by decide))) (by decide) ?_
          refine g_sipush (n := 49) X dX12_check_46 (by decide +kernel) rfl ?_
          refine g_iload_n (n := 50) X 2 dX12_check_49 rfl rfl rfl ?_
          refine g_iadd (n := 51) (z := v5 + 2770) X dX12_check_50 (by omega) rfl ?_
          obtain ⟨v39, hv39, rv39⟩ := gRd I (by decide) (gsz hsz (by decide)) (rs_TOLD (k := v5 + 2770) (by omega)).1
          refine g_iald2 (n := 52) (v := v39) X (by decide) (gsz hsz (by decide)) lay_191 (by omega) (by omega) (by decide) dX12_check_51 rfl hv39 ?_
          refine g_icmp_eq (n := 55) (tgt := 57) X dX12_check_52 (by decide) (by omega) (by omega) rfl (fun c40 => ?_) (fun c40 => ?_)
          · refine g_iinc (n := 60) (w := v5 + 1) (L' := [(2, gJ (v5 + 1)), (0, gA n0 190), (1, gJ a)]) X 2 dX12_check_57 rfl rfl (by decide) rfl rfl ?_
            refine g_goto (tgt := 12) X dX12_check_60 (by decide) ?_
            refine G.sub (L' := [(0, gA n0 190), (1, gJ a), (2, gJ (v5 + 1))]) [1, 2, 0] rfl ?_
            exact ih34 (v5 + 1) (by omega) (by omega)
          · refine g_iload_n (n := 56) X 2 dX12_check_55 rfl rfl rfl ?_
            exact hq _ _ _ _ dX12_check_56 ⟨rfl, by omega⟩
    refine G.sub (L' := [(0, gA n0 190), (1, gJ a), (2, gJ 0)]) [1, 2, 0] rfl ?_
    exact j7 _ 0 (by omega) (Nat.lt_succ_self _)
  · refine g_iconst (n := 9) X dX12_check_8 rfl ?_
    exact hq _ _ _ _ dX12_check_9 ⟨rfl, by omega⟩
theorem dX12_manyAt_0 : decode cX12_manyAt 0 = .ok (.iconst 0, 1) := dc_3 (by decide +kernel)
theorem dX12_manyAt_1 : decode cX12_manyAt 1 = .ok (.istore_n 2, 1) := dc_61 (by decide +kernel)
theorem dX12_manyAt_2 : decode cX12_manyAt 2 = .ok (.iconst 0, 1) := dc_3 (by decide +kernel)
theorem dX12_manyAt_3 : decode cX12_manyAt 3 = .ok (.istore_n 3, 1) := dc_62 (by decide +kernel)
theorem dX12_manyAt_4 : decode cX12_manyAt 4 = .ok (.iload_n 3, 1) := dc_29 (by decide +kernel)
theorem dX12_manyAt_5 : decode cX12_manyAt 5 = .ok (.aload_n 0, 1) := dc_42 (by decide +kernel)
theorem dX12_manyAt_6 : decode cX12_manyAt 6 = .ok (.getfield 7, 3) := dc_180 0 7 (by decide +kernel)
theorem dX12_manyAt_9 : decode cX12_manyAt 9 = .ok (.iconst 1, 1) := dc_4 (by decide +kernel)
theorem dX12_manyAt_10 : decode cX12_manyAt 10 = .ok (.iaload, 1) := dc_46 (by decide +kernel)
theorem dX12_manyAt_11 : decode cX12_manyAt 11 = .ok (.if_icmp .ge 31, 3) := dc_162 0 31 31 (by decide +kernel)
theorem dX12_manyAt_42 : decode cX12_manyAt 42 = .ok (.iload_n 2, 1) := dc_28 (by decide +kernel)
theorem dX12_manyAt_43 : decode cX12_manyAt 43 = .ok (.ireturn, 1) := dc_172 (by decide +kernel)
theorem dX12_manyAt_14 : decode cX12_manyAt 14 = .ok (.iload_n 2, 1) := dc_28 (by decide +kernel)
theorem dX12_manyAt_15 : decode cX12_manyAt 15 = .ok (.aload_n 0, 1) := dc_42 (by decide +kernel)
theorem dX12_manyAt_16 : decode cX12_manyAt 16 = .ok (.getfield 7, 3) := dc_180 0 7 (by decide +kernel)
theorem dX12_manyAt_19 : decode cX12_manyAt 19 = .ok (.sipush 160, 3) := dc_17 0 160 160 (by decide +kernel)
theorem dX12_manyAt_22 : decode cX12_manyAt 22 = .ok (.iload_n 3, 1) := dc_29 (by decide +kernel)
theorem dX12_manyAt_23 : decode cX12_manyAt 23 = .ok (.iadd, 1) := dc_96 (by decide +kernel)
theorem dX12_manyAt_24 : decode cX12_manyAt 24 = .ok (.iaload, 1) := dc_46 (by decide +kernel)
theorem dX12_manyAt_25 : decode cX12_manyAt 25 = .ok (.iload_n 1, 1) := dc_27 (by decide +kernel)
theorem dX12_manyAt_26 : decode cX12_manyAt 26 = .ok (.if_icmp .ne 7, 3) := dc_160 0 7 7 (by decide +kernel)
theorem dX12_manyAt_33 : decode cX12_manyAt 33 = .ok (.iconst 0, 1) := dc_3 (by decide +kernel)
theorem dX12_manyAt_34 : decode cX12_manyAt 34 = .ok (.iadd, 1) := dc_96 (by decide +kernel)
theorem dX12_manyAt_35 : decode cX12_manyAt 35 = .ok (.istore_n 2, 1) := dc_61 (by decide +kernel)
theorem dX12_manyAt_36 : decode cX12_manyAt 36 = .ok (.iinc 3 1, 3) := dc_132 3 1 1 (by decide +kernel)
theorem dX12_manyAt_39 : decode cX12_manyAt 39 = .ok (.goto (-35), 3) := dc_167 255 221 (-35) (by decide +kernel)
theorem dX12_manyAt_29 : decode cX12_manyAt 29 = .ok (.iconst 1, 1) := dc_4 (by decide +kernel)
theorem dX12_manyAt_30 : decode cX12_manyAt 30 = .ok (.goto 4, 3) := dc_167 0 4 4 (by decide +kernel)
abbrev R_X12_manyAt : Room := { frames := 0, cells := 0, slots := 0, locals := 0 }
set_option maxRecDepth 100000 in
set_option maxHeartbeats 4000000 in
theorem s_X12_manyAt {l : Launch} {n0 : Nat} {D : va_G} {cA : Nat → ClassId} {M : gM} (a : Int) (r_a : -2147483648 ≤ a ∧ a ≤ 2147483647) {sz : Nat} (hsz : 206 ≤ sz) (I : gI sz M) (C : gC sz M)   : Met l yX12_manyAt (gWsOf yX12_manyAt cX12_manyAt 4 (Option.some Jvm.ClassFile.FieldType.int)) R_X12_manyAt (gPc n0 D cA [gA n0 190, gJ a] M sz) (gQi n0 D cA sz (fun z M1 => M = M1 ∧ (-2147483648 ≤ z ∧ z ≤ 2147483647))) 0 0 (fun q => n0 ≤ q) := by
  refine gMetI [gA n0 190, gJ a] (by decide) (Nat.le_of_ble_eq_true rfl) ⟨rfl, rfl⟩ ?_
  intro p e s m args below meth cd Q X hq
  have X : gCx p s m args meth cd n0 D cA "ParishUnionModel" cX12_manyAt 4 := X
  show G p l e R_X12_manyAt s m args below meth cd n0 D cA 4 Q 0 0 M sz 0 [(0, gA n0 190), (1, gJ a)] []
  refine g_iconst (n := 1) X dX12_manyAt_0 rfl ?_
  refine g_istore_n (n := 2) (L' := [(2, gJ 0), (0, gA n0 190), (1, gJ a)]) X dX12_manyAt_1 rfl (by decide) rfl rfl ?_
  refine g_iconst (n := 3) X dX12_manyAt_2 rfl ?_
  refine g_istore_n (n := 4) (L' := [(3, gJ 0), (2, gJ 0), (0, gA n0 190), (1, gJ a)]) X dX12_manyAt_3 rfl (by decide) rfl rfl ?_
  have j4 : ∀ (N67 : Nat) (v1 v2 : Int) , (-2147483648 ≤ v1 ∧ v1 ≤ 2147483647) → (0 ≤ v2 ∧ v2 ≤ 16) → (16 - v2).toNat < N67 → G p l e R_X12_manyAt s m args below meth cd n0 D cA 4 Q 0 0 M sz 4 [(0, gA n0 190), (1, gJ a), (2, gJ v1), (3, gJ v2)] [] := by
    intro N67; induction N67 with
    | zero => intro v1 v2 rv1 rv2 hm69; exfalso; omega
    | succ N67 ih68 =>
      intro v1 v2 rv1 rv2 hm69
      refine g_iload_n (n := 5) X 3 dX12_manyAt_4 rfl rfl rfl ?_
      refine g_aload_n (n := 6) X 0 dX12_manyAt_5 rfl rfl rfl ?_
      refine gg_12_1 (n := 9) (z := 191) X (by decide) (gsz hsz (by decide)) lay_190 kw_6_27 dX12_manyAt_6 rfl (rf_190_1 I (gsz hsz (by decide))) (by decide) ?_
      refine g_iconst (n := 10) X dX12_manyAt_9 rfl ?_
      obtain ⟨v70, hv70, rv70⟩ := gRd I (by decide) (gsz hsz (by decide)) (rs_PERS (k := 1) (by omega)).1
      refine g_iald2 (n := 11) (v := v70) X (by decide) (gsz hsz (by decide)) lay_191 (by omega) (by omega) (by decide) dX12_manyAt_10 rfl hv70 ?_
      refine g_icmp_ge (n := 14) (tgt := 42) X dX12_manyAt_11 (by decide) (by omega) (by omega) rfl (fun c71 => ?_) (fun c71 => ?_)
      · refine g_iload_n (n := 43) X 2 dX12_manyAt_42 rfl rfl rfl ?_
        exact hq _ _ _ _ dX12_manyAt_43 ⟨rfl, by omega⟩
      · refine g_iload_n (n := 15) X 2 dX12_manyAt_14 rfl rfl rfl ?_
        refine g_aload_n (n := 16) X 0 dX12_manyAt_15 rfl rfl rfl ?_
        refine gg_12_1 (n := 19) (z := 191) X (by decide) (gsz hsz (by decide)) lay_190 kw_6_27 dX12_manyAt_16 rfl (rf_190_1 I (gsz hsz (by decide))) (by decide) ?_
        refine g_sipush (n := 22) X dX12_manyAt_19 (by decide +kernel) rfl ?_
        refine g_iload_n (n := 23) X 3 dX12_manyAt_22 rfl rfl rfl ?_
        refine g_iadd (n := 24) (z := v2 + 160) X dX12_manyAt_23 (by omega) rfl ?_
        obtain ⟨v72, hv72, rv72⟩ := gRd I (by decide) (gsz hsz (by decide)) (rs_AT (k := v2 + 160) (by omega)).1
        refine g_iald2 (n := 25) (v := v72) X (by decide) (gsz hsz (by decide)) lay_191 (by omega) (by omega) (by decide) dX12_manyAt_24 rfl hv72 ?_
        refine g_iload_n (n := 26) X 1 dX12_manyAt_25 rfl rfl rfl ?_
        refine g_icmp_ne (n := 29) (tgt := 33) X dX12_manyAt_26 (by decide) (by omega) (by omega) rfl (fun c73 => ?_) (fun c73 => ?_)
        · refine g_iconst (n := 34) X dX12_manyAt_33 rfl ?_
          refine g_iadd (n := 35) (z := v1) X dX12_manyAt_34 (by omega) rfl ?_
          refine g_istore_n (n := 36) (L' := [(2, gJ v1), (0, gA n0 190), (1, gJ a), (3, gJ v2)]) X dX12_manyAt_35 rfl (by decide) rfl rfl ?_
          refine g_iinc (n := 39) (w := v2 + 1) (L' := [(3, gJ (v2 + 1)), (2, gJ v1), (0, gA n0 190), (1, gJ a)]) X 3 dX12_manyAt_36 rfl rfl (by decide) rfl rfl ?_
          refine g_goto (tgt := 4) X dX12_manyAt_39 (by decide) ?_
          refine G.sub (L' := [(0, gA n0 190), (1, gJ a), (2, gJ v1), (3, gJ (v2 + 1))]) [2, 3, 1, 0] rfl ?_
          exact ih68 v1 (v2 + 1) (by omega) (by omega) (by omega)
        · refine g_iconst (n := 30) X dX12_manyAt_29 rfl ?_
          refine g_goto (tgt := 34) X dX12_manyAt_30 (by decide) ?_
          refine g_iaddA (n := 35) X dX12_manyAt_34 rfl (fun v74 rv74 xv74 => ?_)
          clear xv74
          refine g_istore_n (n := 36) (L' := [(2, gJ v74), (0, gA n0 190), (1, gJ a), (3, gJ v2)]) X dX12_manyAt_35 rfl (by decide) rfl rfl ?_
          refine g_iinc (n := 39) (w := v2 + 1) (L' := [(3, gJ (v2 + 1)), (2, gJ v74), (0, gA n0 190), (1, gJ a)]) X 3 dX12_manyAt_36 rfl rfl (by decide) rfl rfl ?_
          refine g_goto (tgt := 4) X dX12_manyAt_39 (by decide) ?_
          refine G.sub (L' := [(0, gA n0 190), (1, gJ a), (2, gJ v74), (3, gJ (v2 + 1))]) [2, 3, 1, 0] rfl ?_
          exact ih68 v74 (v2 + 1) (by omega) (by omega) (by omega)
  refine G.sub (L' := [(0, gA n0 190), (1, gJ a), (2, gJ 0), (3, gJ 0)]) [2, 3, 1, 0] rfl ?_
  exact j4 _ 0 0 (by omega) (by omega) (Nat.lt_succ_self _)
theorem dX12_count_0 : decode cX12_count 0 = .ok (.iload_n 1, 1) := dc_27 (by decide +kernel)
theorem dX12_count_1 : decode cX12_count 1 = .ok (.tableswitch 174 0 13 #[71, 78, 85, 92, 99, 106, 113, 121, 128, 135, 142, 150, 158, 166], 71) := by decide +kernel
theorem dX12_count_72 : decode cX12_count 72 = .ok (.aload_n 0, 1) := dc_42 (by decide +kernel)
theorem dX12_count_73 : decode cX12_count 73 = .ok (.getfield 7, 3) := dc_180 0 7 (by decide +kernel)
theorem dX12_count_76 : decode cX12_count 76 = .ok (.iconst 1, 1) := dc_4 (by decide +kernel)
theorem dX12_count_77 : decode cX12_count 77 = .ok (.iaload, 1) := dc_46 (by decide +kernel)
theorem dX12_count_78 : decode cX12_count 78 = .ok (.ireturn, 1) := dc_172 (by decide +kernel)
theorem dX12_count_79 : decode cX12_count 79 = .ok (.aload_n 0, 1) := dc_42 (by decide +kernel)
theorem dX12_count_80 : decode cX12_count 80 = .ok (.getfield 7, 3) := dc_180 0 7 (by decide +kernel)
theorem dX12_count_83 : decode cX12_count 83 = .ok (.iconst 2, 1) := dc_5 (by decide +kernel)
theorem dX12_count_84 : decode cX12_count 84 = .ok (.iaload, 1) := dc_46 (by decide +kernel)
theorem dX12_count_85 : decode cX12_count 85 = .ok (.ireturn, 1) := dc_172 (by decide +kernel)
theorem dX12_count_86 : decode cX12_count 86 = .ok (.aload_n 0, 1) := dc_42 (by decide +kernel)
theorem dX12_count_87 : decode cX12_count 87 = .ok (.getfield 7, 3) := dc_180 0 7 (by decide +kernel)
theorem dX12_count_90 : decode cX12_count 90 = .ok (.iconst 3, 1) := dc_6 (by decide +kernel)
theorem dX12_count_91 : decode cX12_count 91 = .ok (.iaload, 1) := dc_46 (by decide +kernel)
theorem dX12_count_92 : decode cX12_count 92 = .ok (.ireturn, 1) := dc_172 (by decide +kernel)
theorem dX12_count_93 : decode cX12_count 93 = .ok (.aload_n 0, 1) := dc_42 (by decide +kernel)
theorem dX12_count_94 : decode cX12_count 94 = .ok (.getfield 7, 3) := dc_180 0 7 (by decide +kernel)
theorem dX12_count_97 : decode cX12_count 97 = .ok (.iconst 4, 1) := dc_7 (by decide +kernel)
theorem dX12_count_98 : decode cX12_count 98 = .ok (.iaload, 1) := dc_46 (by decide +kernel)
theorem dX12_count_99 : decode cX12_count 99 = .ok (.ireturn, 1) := dc_172 (by decide +kernel)
theorem dX12_count_100 : decode cX12_count 100 = .ok (.aload_n 0, 1) := dc_42 (by decide +kernel)
theorem dX12_count_101 : decode cX12_count 101 = .ok (.getfield 7, 3) := dc_180 0 7 (by decide +kernel)
theorem dX12_count_104 : decode cX12_count 104 = .ok (.iconst 5, 1) := dc_8 (by decide +kernel)
theorem dX12_count_105 : decode cX12_count 105 = .ok (.iaload, 1) := dc_46 (by decide +kernel)
theorem dX12_count_106 : decode cX12_count 106 = .ok (.ireturn, 1) := dc_172 (by decide +kernel)
theorem dX12_count_107 : decode cX12_count 107 = .ok (.aload_n 0, 1) := dc_42 (by decide +kernel)
theorem dX12_count_108 : decode cX12_count 108 = .ok (.getfield 7, 3) := dc_180 0 7 (by decide +kernel)
theorem dX12_count_111 : decode cX12_count 111 = .ok (.iconst 0, 1) := dc_3 (by decide +kernel)
theorem dX12_count_112 : decode cX12_count 112 = .ok (.iaload, 1) := dc_46 (by decide +kernel)
theorem dX12_count_113 : decode cX12_count 113 = .ok (.ireturn, 1) := dc_172 (by decide +kernel)
theorem dX12_count_114 : decode cX12_count 114 = .ok (.aload_n 0, 1) := dc_42 (by decide +kernel)
theorem dX12_count_115 : decode cX12_count 115 = .ok (.getfield 7, 3) := dc_180 0 7 (by decide +kernel)
theorem dX12_count_118 : decode cX12_count 118 = .ok (.bipush 10, 2) := dc_16 10 10 (by decide +kernel)
theorem dX12_count_120 : decode cX12_count 120 = .ok (.iaload, 1) := dc_46 (by decide +kernel)
theorem dX12_count_121 : decode cX12_count 121 = .ok (.ireturn, 1) := dc_172 (by decide +kernel)
theorem dX12_count_122 : decode cX12_count 122 = .ok (.aload_n 0, 1) := dc_42 (by decide +kernel)
theorem dX12_count_123 : decode cX12_count 123 = .ok (.bipush 6, 2) := dc_16 6 6 (by decide +kernel)
theorem dX12_count_125 : decode cX12_count 125 = .ok (.invokevirtual 315, 3) := dc_182 1 59 (by decide +kernel)
theorem kw_8_49 : (Jvm.Cond.methodLink "ParishUnionModel" (315 : Nat) ({ cls := "ParishUnionModel", name := "manyAt", desc := "(I)I" } : Jvm.MethodName)) ∈ gT := gT_of (tb_8 _ (List.mem_of_getElem? (i := 49) rfl)) rfl
theorem kw_8_52 : (Jvm.Cond.code ({ cls := "ParishUnionModel", name := "manyAt", desc := "(I)I" } : Jvm.MethodName) prog_14_method_107_code (4 : Nat) (Option.some Jvm.ClassFile.FieldType.int)) ∈ gT := gT_of (tb_8 _ (List.mem_of_getElem? (i := 52) rfl)) rfl
theorem okX12_manyAt : gQok yX12_manyAt cX12_manyAt 4 (Option.some Jvm.ClassFile.FieldType.int) 1 := ⟨kw_8_52, kw_1_13, by decide +kernel, by decide +kernel, by decide +kernel⟩
theorem kw_8_51 : (Jvm.Cond.instanceMethod ({ cls := "ParishUnionModel", name := "manyAt", desc := "(I)I" } : Jvm.MethodName)) ∈ gT := gT_of (tb_8 _ (List.mem_of_getElem? (i := 51) rfl)) rfl
theorem kw_0_92 : (Jvm.Cond.selects "ParishUnionModel" ({ cls := "ParishUnionModel", name := "manyAt", desc := "(I)I" } : Jvm.MethodName) ({ cls := "ParishUnionModel", name := "manyAt", desc := "(I)I" } : Jvm.MethodName)) ∈ gT := gT_of (tb_0 _ (List.mem_of_getElem? (i := 92) rfl)) rfl
theorem dX12_count_128 : decode cX12_count 128 = .ok (.ireturn, 1) := dc_172 (by decide +kernel)
theorem dX12_count_129 : decode cX12_count 129 = .ok (.aload_n 0, 1) := dc_42 (by decide +kernel)
theorem dX12_count_130 : decode cX12_count 130 = .ok (.bipush 8, 2) := dc_16 8 8 (by decide +kernel)
theorem dX12_count_132 : decode cX12_count 132 = .ok (.invokevirtual 315, 3) := dc_182 1 59 (by decide +kernel)
theorem dX12_count_135 : decode cX12_count 135 = .ok (.ireturn, 1) := dc_172 (by decide +kernel)
theorem dX12_count_136 : decode cX12_count 136 = .ok (.aload_n 0, 1) := dc_42 (by decide +kernel)
theorem dX12_count_137 : decode cX12_count 137 = .ok (.bipush 7, 2) := dc_16 7 7 (by decide +kernel)
theorem dX12_count_139 : decode cX12_count 139 = .ok (.invokevirtual 315, 3) := dc_182 1 59 (by decide +kernel)
theorem dX12_count_142 : decode cX12_count 142 = .ok (.ireturn, 1) := dc_172 (by decide +kernel)
theorem dX12_count_143 : decode cX12_count 143 = .ok (.aload_n 0, 1) := dc_42 (by decide +kernel)
theorem dX12_count_144 : decode cX12_count 144 = .ok (.getfield 7, 3) := dc_180 0 7 (by decide +kernel)
theorem dX12_count_147 : decode cX12_count 147 = .ok (.bipush 6, 2) := dc_16 6 6 (by decide +kernel)
theorem dX12_count_149 : decode cX12_count 149 = .ok (.iaload, 1) := dc_46 (by decide +kernel)
theorem dX12_count_150 : decode cX12_count 150 = .ok (.ireturn, 1) := dc_172 (by decide +kernel)
theorem dX12_count_151 : decode cX12_count 151 = .ok (.aload_n 0, 1) := dc_42 (by decide +kernel)
theorem dX12_count_152 : decode cX12_count 152 = .ok (.getfield 7, 3) := dc_180 0 7 (by decide +kernel)
theorem dX12_count_155 : decode cX12_count 155 = .ok (.bipush 7, 2) := dc_16 7 7 (by decide +kernel)
theorem dX12_count_157 : decode cX12_count 157 = .ok (.iaload, 1) := dc_46 (by decide +kernel)
theorem dX12_count_158 : decode cX12_count 158 = .ok (.ireturn, 1) := dc_172 (by decide +kernel)
theorem dX12_count_159 : decode cX12_count 159 = .ok (.aload_n 0, 1) := dc_42 (by decide +kernel)
theorem dX12_count_160 : decode cX12_count 160 = .ok (.getfield 7, 3) := dc_180 0 7 (by decide +kernel)
theorem dX12_count_163 : decode cX12_count 163 = .ok (.bipush 8, 2) := dc_16 8 8 (by decide +kernel)
theorem dX12_count_165 : decode cX12_count 165 = .ok (.iaload, 1) := dc_46 (by decide +kernel)
theorem dX12_count_166 : decode cX12_count 166 = .ok (.ireturn, 1) := dc_172 (by decide +kernel)
theorem dX12_count_167 : decode cX12_count 167 = .ok (.aload_n 0, 1) := dc_42 (by decide +kernel)
theorem dX12_count_168 : decode cX12_count 168 = .ok (.getfield 7, 3) := dc_180 0 7 (by decide +kernel)
theorem dX12_count_171 : decode cX12_count 171 = .ok (.bipush 9, 2) := dc_16 9 9 (by decide +kernel)
theorem dX12_count_173 : decode cX12_count 173 = .ok (.iaload, 1) := dc_46 (by decide +kernel)
theorem dX12_count_174 : decode cX12_count 174 = .ok (.ireturn, 1) := dc_172 (by decide +kernel)
theorem dX12_count_175 : decode cX12_count 175 = .ok (.iconst (-1), 1) := dc_2 (by decide +kernel)
theorem dX12_count_176 : decode cX12_count 176 = .ok (.ireturn, 1) := dc_172 (by decide +kernel)
abbrev R_X12_count : Room := { frames := 1, cells := 0, slots := 0, locals := 23 }
set_option maxRecDepth 100000 in
set_option maxHeartbeats 4000000 in
theorem s_X12_count {l : Launch} {n0 : Nat} {D : va_G} {cA : Nat → ClassId} {M : gM} (a : Int) (r_a : -2147483648 ≤ a ∧ a ≤ 2147483647) {sz : Nat} (hsz : 206 ≤ sz) (I : gI sz M) (C : gC sz M)   : Met l yX12_count (gWsOf yX12_count cX12_count 2 (Option.some Jvm.ClassFile.FieldType.int)) R_X12_count (gPc n0 D cA [gA n0 190, gJ a] M sz) (gQi n0 D cA sz (fun z M1 => M = M1 ∧ (-2147483648 ≤ z ∧ z ≤ 2147483647))) 0 0 (fun q => n0 ≤ q) := by
  refine gMetI [gA n0 190, gJ a] (by decide) (Nat.le_of_ble_eq_true rfl) ⟨rfl, rfl⟩ ?_
  intro p e s m args below meth cd Q X hq
  have X : gCx p s m args meth cd n0 D cA "ParishUnionModel" cX12_count 2 := X
  show G p l e R_X12_count s m args below meth cd n0 D cA 2 Q 0 0 M sz 0 [(0, gA n0 190), (1, gJ a)] []
  refine g_iload_n (n := 1) X 1 dX12_count_0 rfl rfl rfl ?_
  by_cases c1 : a = 0
  · refine g_tableIn (tgt := 72) X 0 dX12_count_1 (by omega) (by omega) (by omega) (by omega) rfl (by decide) ?_
    refine g_aload_n (n := 73) X 0 dX12_count_72 rfl rfl rfl ?_
    refine gg_12_1 (n := 76) (z := 191) X (by decide) (gsz hsz (by decide)) lay_190 kw_6_27 dX12_count_73 rfl (rf_190_1 I (gsz hsz (by decide))) (by decide) ?_
    refine g_iconst (n := 77) X dX12_count_76 rfl ?_
    obtain ⟨v2, hv2, rv2⟩ := gRd I (by decide) (gsz hsz (by decide)) (rs_PERS (k := 1) (by omega)).1
    refine g_iald2 (n := 78) (v := v2) X (by decide) (gsz hsz (by decide)) lay_191 (by omega) (by omega) (by decide) dX12_count_77 rfl hv2 ?_
    exact hq _ _ _ _ dX12_count_78 ⟨rfl, by omega⟩
  by_cases c3 : a = 1
  · refine g_tableIn (tgt := 79) X 1 dX12_count_1 (by omega) (by omega) (by omega) (by omega) rfl (by decide) ?_
    refine g_aload_n (n := 80) X 0 dX12_count_79 rfl rfl rfl ?_
    refine gg_12_1 (n := 83) (z := 191) X (by decide) (gsz hsz (by decide)) lay_190 kw_6_27 dX12_count_80 rfl (rf_190_1 I (gsz hsz (by decide))) (by decide) ?_
    refine g_iconst (n := 84) X dX12_count_83 rfl ?_
    obtain ⟨v4, hv4, rv4⟩ := gRd I (by decide) (gsz hsz (by decide)) (rs_NR (k := 2) (by omega)).1
    refine g_iald2 (n := 85) (v := v4) X (by decide) (gsz hsz (by decide)) lay_191 (by omega) (by omega) (by decide) dX12_count_84 rfl hv4 ?_
    exact hq _ _ _ _ dX12_count_85 ⟨rfl, by omega⟩
  by_cases c5 : a = 2
  · refine g_tableIn (tgt := 86) X 2 dX12_count_1 (by omega) (by omega) (by omega) (by omega) rfl (by decide) ?_
    refine g_aload_n (n := 87) X 0 dX12_count_86 rfl rfl rfl ?_
    refine gg_12_1 (n := 90) (z := 191) X (by decide) (gsz hsz (by decide)) lay_190 kw_6_27 dX12_count_87 rfl (rf_190_1 I (gsz hsz (by decide))) (by decide) ?_
    refine g_iconst (n := 91) X dX12_count_90 rfl ?_
    obtain ⟨v6, hv6, rv6⟩ := gRd I (by decide) (gsz hsz (by decide)) (rs_NE (k := 3) (by omega)).1
    refine g_iald2 (n := 92) (v := v6) X (by decide) (gsz hsz (by decide)) lay_191 (by omega) (by omega) (by decide) dX12_count_91 rfl hv6 ?_
    exact hq _ _ _ _ dX12_count_92 ⟨rfl, by omega⟩
  by_cases c7 : a = 3
  · refine g_tableIn (tgt := 93) X 3 dX12_count_1 (by omega) (by omega) (by omega) (by omega) rfl (by decide) ?_
    refine g_aload_n (n := 94) X 0 dX12_count_93 rfl rfl rfl ?_
    refine gg_12_1 (n := 97) (z := 191) X (by decide) (gsz hsz (by decide)) lay_190 kw_6_27 dX12_count_94 rfl (rf_190_1 I (gsz hsz (by decide))) (by decide) ?_
    refine g_iconst (n := 98) X dX12_count_97 rfl ?_
    obtain ⟨v8, hv8, rv8⟩ := gRd I (by decide) (gsz hsz (by decide)) (rs_NA (k := 4) (by omega)).1
    refine g_iald2 (n := 99) (v := v8) X (by decide) (gsz hsz (by decide)) lay_191 (by omega) (by omega) (by decide) dX12_count_98 rfl hv8 ?_
    exact hq _ _ _ _ dX12_count_99 ⟨rfl, by omega⟩
  by_cases c9 : a = 4
  · refine g_tableIn (tgt := 100) X 4 dX12_count_1 (by omega) (by omega) (by omega) (by omega) rfl (by decide) ?_
    refine g_aload_n (n := 101) X 0 dX12_count_100 rfl rfl rfl ?_
    refine gg_12_1 (n := 104) (z := 191) X (by decide) (gsz hsz (by decide)) lay_190 kw_6_27 dX12_count_101 rfl (rf_190_1 I (gsz hsz (by decide))) (by decide) ?_
    refine g_iconst (n := 105) X dX12_count_104 rfl ?_
    obtain ⟨v10, hv10, rv10⟩ := gRd I (by decide) (gsz hsz (by decide)) (rs_NO (k := 5) (by omega)).1
    refine g_iald2 (n := 106) (v := v10) X (by decide) (gsz hsz (by decide)) lay_191 (by omega) (by omega) (by decide) dX12_count_105 rfl hv10 ?_
    exact hq _ _ _ _ dX12_count_106 ⟨rfl, by omega⟩
  by_cases c11 : a = 5
  · refine g_tableIn (tgt := 107) X 5 dX12_count_1 (by omega) (by omega) (by omega) (by omega) rfl (by decide) ?_
    refine g_aload_n (n := 108) X 0 dX12_count_107 rfl rfl rfl ?_
    refine gg_12_1 (n := 111) (z := 191) X (by decide) (gsz hsz (by decide)) lay_190 kw_6_27 dX12_count_108 rfl (rf_190_1 I (gsz hsz (by decide))) (by decide) ?_
    refine g_iconst (n := 112) X dX12_count_111 rfl ?_
    obtain ⟨v12, hv12, rv12⟩ := gRd I (by decide) (gsz hsz (by decide)) (rs_NOW (k := 0) (by omega)).1
    refine g_iald2 (n := 113) (v := v12) X (by decide) (gsz hsz (by decide)) lay_191 (by omega) (by omega) (by decide) dX12_count_112 rfl hv12 ?_
    exact hq _ _ _ _ dX12_count_113 ⟨rfl, by omega⟩
  by_cases c13 : a = 6
  · refine g_tableIn (tgt := 114) X 6 dX12_count_1 (by omega) (by omega) (by omega) (by omega) rfl (by decide) ?_
    refine g_aload_n (n := 115) X 0 dX12_count_114 rfl rfl rfl ?_
    refine gg_12_1 (n := 118) (z := 191) X (by decide) (gsz hsz (by decide)) lay_190 kw_6_27 dX12_count_115 rfl (rf_190_1 I (gsz hsz (by decide))) (by decide) ?_
    refine g_bipush (n := 120) X dX12_count_118 (by decide +kernel) rfl ?_
    obtain ⟨v14, hv14, rv14⟩ := gRd I (by decide) (gsz hsz (by decide)) (rs_TAPED (k := 10) (by omega)).1
    refine g_iald2 (n := 121) (v := v14) X (by decide) (gsz hsz (by decide)) lay_191 (by omega) (by omega) (by decide) dX12_count_120 rfl hv14 ?_
    exact hq _ _ _ _ dX12_count_121 ⟨rfl, by omega⟩
  by_cases c15 : a = 7
  · refine g_tableIn (tgt := 122) X 7 dX12_count_1 (by omega) (by omega) (by omega) (by omega) rfl (by decide) ?_
    refine g_aload_n (n := 123) X 0 dX12_count_122 rfl rfl rfl ?_
    refine g_bipush (n := 125) X dX12_count_123 (by decide +kernel) rfl ?_
    refine g_callVi (n := 128) (As := [gJ 6]) (rest := []) (cs1 := 0) (ss1 := 0) X (s_X12_manyAt 6 (by omega) hsz I C ) okX12_manyAt kw_8_49 ⟨kw_8_51, kw_0_92⟩ ⟨rfl, rfl⟩ ⟨Nat.le_of_ble_eq_true rfl, Nat.le_of_ble_eq_true rfl⟩ rfl (by decide) (gsz hsz (by decide)) lay_190 rfl rfl (Nat.le_of_ble_eq_true rfl) ⟨Nat.le_of_ble_eq_true rfl, Nat.le_of_ble_eq_true rfl⟩ rfl rfl dX12_count_125 rfl (fun v16 M17 P18 => ?_)
    obtain ⟨rfl, rv16⟩ := P18
    exact hq _ _ _ _ dX12_count_128 ⟨rfl, by omega⟩
  by_cases c19 : a = 8
  · refine g_tableIn (tgt := 129) X 8 dX12_count_1 (by omega) (by omega) (by omega) (by omega) rfl (by decide) ?_
    refine g_aload_n (n := 130) X 0 dX12_count_129 rfl rfl rfl ?_
    refine g_bipush (n := 132) X dX12_count_130 (by decide +kernel) rfl ?_
    refine g_callVi (n := 135) (As := [gJ 8]) (rest := []) (cs1 := 0) (ss1 := 0) X (s_X12_manyAt 8 (by omega) hsz I C ) okX12_manyAt kw_8_49 ⟨kw_8_51, kw_0_92⟩ ⟨rfl, rfl⟩ ⟨Nat.le_of_ble_eq_true rfl, Nat.le_of_ble_eq_true rfl⟩ rfl (by decide) (gsz hsz (by decide)) lay_190 rfl rfl (Nat.le_of_ble_eq_true rfl) ⟨Nat.le_of_ble_eq_true rfl, Nat.le_of_ble_eq_true rfl⟩ rfl rfl dX12_count_132 rfl (fun v20 M21 P22 => ?_)
    obtain ⟨rfl, rv20⟩ := P22
    exact hq _ _ _ _ dX12_count_135 ⟨rfl, by omega⟩
  by_cases c23 : a = 9
  · refine g_tableIn (tgt := 136) X 9 dX12_count_1 (by omega) (by omega) (by omega) (by omega) rfl (by decide) ?_
    refine g_aload_n (n := 137) X 0 dX12_count_136 rfl rfl rfl ?_
    refine g_bipush (n := 139) X dX12_count_137 (by decide +kernel) rfl ?_
    refine g_callVi (n := 142) (As := [gJ 7]) (rest := []) (cs1 := 0) (ss1 := 0) X (s_X12_manyAt 7 (by omega) hsz I C ) okX12_manyAt kw_8_49 ⟨kw_8_51, kw_0_92⟩ ⟨rfl, rfl⟩ ⟨Nat.le_of_ble_eq_true rfl, Nat.le_of_ble_eq_true rfl⟩ rfl (by decide) (gsz hsz (by decide)) lay_190 rfl rfl (Nat.le_of_ble_eq_true rfl) ⟨Nat.le_of_ble_eq_true rfl, Nat.le_of_ble_eq_true rfl⟩ rfl rfl dX12_count_139 rfl (fun v24 M25 P26 => ?_)
    obtain ⟨rfl, rv24⟩ := P26
    exact hq _ _ _ _ dX12_count_142 ⟨rfl, by omega⟩
  by_cases c27 : a = 10
  · refine g_tableIn (tgt := 143) X 10 dX12_count_1 (by omega) (by omega) (by omega) (by omega) rfl (by decide) ?_
    refine g_aload_n (n := 144) X 0 dX12_count_143 rfl rfl rfl ?_
    refine gg_12_1 (n := 147) (z := 191) X (by decide) (gsz hsz (by decide)) lay_190 kw_6_27 dX12_count_144 rfl (rf_190_1 I (gsz hsz (by decide))) (by decide) ?_
    refine g_bipush (n := 149) X dX12_count_147 (by decide +kernel) rfl ?_
    obtain ⟨v28, hv28, rv28⟩ := gRd I (by decide) (gsz hsz (by decide)) (rs_NN (k := 6) (by omega)).1
    refine g_iald2 (n := 150) (v := v28) X (by decide) (gsz hsz (by decide)) lay_191 (by omega) (by omega) (by decide) dX12_count_149 rfl hv28 ?_
    exact hq _ _ _ _ dX12_count_150 ⟨rfl, by omega⟩
  by_cases c29 : a = 11
  · refine g_tableIn (tgt := 151) X 11 dX12_count_1 (by omega) (by omega) (by omega) (by omega) rfl (by decide) ?_
    refine g_aload_n (n := 152) X 0 dX12_count_151 rfl rfl rfl ?_
    refine gg_12_1 (n := 155) (z := 191) X (by decide) (gsz hsz (by decide)) lay_190 kw_6_27 dX12_count_152 rfl (rf_190_1 I (gsz hsz (by decide))) (by decide) ?_
    refine g_bipush (n := 157) X dX12_count_155 (by decide +kernel) rfl ?_
    obtain ⟨v30, hv30, rv30⟩ := gRd I (by decide) (gsz hsz (by decide)) (rs_NC (k := 7) (by omega)).1
    refine g_iald2 (n := 158) (v := v30) X (by decide) (gsz hsz (by decide)) lay_191 (by omega) (by omega) (by decide) dX12_count_157 rfl hv30 ?_
    exact hq _ _ _ _ dX12_count_158 ⟨rfl, by omega⟩
  by_cases c31 : a = 12
  · refine g_tableIn (tgt := 159) X 12 dX12_count_1 (by omega) (by omega) (by omega) (by omega) rfl (by decide) ?_
    refine g_aload_n (n := 160) X 0 dX12_count_159 rfl rfl rfl ?_
    refine gg_12_1 (n := 163) (z := 191) X (by decide) (gsz hsz (by decide)) lay_190 kw_6_27 dX12_count_160 rfl (rf_190_1 I (gsz hsz (by decide))) (by decide) ?_
    refine g_bipush (n := 165) X dX12_count_163 (by decide +kernel) rfl ?_
    obtain ⟨v32, hv32, rv32⟩ := gRd I (by decide) (gsz hsz (by decide)) (rs_STORE (k := 8) (by omega)).1
    refine g_iald2 (n := 166) (v := v32) X (by decide) (gsz hsz (by decide)) lay_191 (by omega) (by omega) (by decide) dX12_count_165 rfl hv32 ?_
    exact hq _ _ _ _ dX12_count_166 ⟨rfl, by omega⟩
  by_cases c33 : a = 13
  · refine g_tableIn (tgt := 167) X 13 dX12_count_1 (by omega) (by omega) (by omega) (by omega) rfl (by decide) ?_
    refine g_aload_n (n := 168) X 0 dX12_count_167 rfl rfl rfl ?_
    refine gg_12_1 (n := 171) (z := 191) X (by decide) (gsz hsz (by decide)) lay_190 kw_6_27 dX12_count_168 rfl (rf_190_1 I (gsz hsz (by decide))) (by decide) ?_
    refine g_bipush (n := 173) X dX12_count_171 (by decide +kernel) rfl ?_
    obtain ⟨v34, hv34, rv34⟩ := gRd I (by decide) (gsz hsz (by decide)) (rs_PRICE (k := 9) (by omega)).1
    refine g_iald2 (n := 174) (v := v34) X (by decide) (gsz hsz (by decide)) lay_191 (by omega) (by omega) (by decide) dX12_count_173 rfl hv34 ?_
    exact hq _ _ _ _ dX12_count_174 ⟨rfl, by omega⟩
  refine g_tableOut (tgt := 175) X dX12_count_1 (by omega) (by omega) (by decide) ?_
  refine g_iconst (n := 176) X dX12_count_175 rfl ?_
  exact hq _ _ _ _ dX12_count_176 ⟨rfl, by omega⟩
theorem dX12_night_0 : decode cX12_night 0 = .ok (.iload_n 2, 1) := dc_28 (by decide +kernel)
theorem dX12_night_1 : decode cX12_night 1 = .ok (.invokestatic 68, 3) := dc_184 0 68 (by decide +kernel)
theorem dX12_night_4 : decode cX12_night 4 = .ok (.ifCond .ne 5, 3) := dc_154 0 5 5 (by decide +kernel)
theorem dX12_night_9 : decode cX12_night 9 = .ok (.iload_n 1, 1) := dc_27 (by decide +kernel)
theorem dX12_night_10 : decode cX12_night 10 = .ok (.iconst 0, 1) := dc_3 (by decide +kernel)
theorem dX12_night_11 : decode cX12_night 11 = .ok (.bipush 7, 2) := dc_16 7 7 (by decide +kernel)
theorem dX12_night_13 : decode cX12_night 13 = .ok (.invokestatic 64, 3) := dc_184 0 64 (by decide +kernel)
theorem dX12_night_16 : decode cX12_night 16 = .ok (.ifCond .eq 10, 3) := dc_153 0 10 10 (by decide +kernel)
theorem dX12_night_26 : decode cX12_night 26 = .ok (.bipush (-2), 2) := dc_16 254 (-2) (by decide +kernel)
theorem dX12_night_28 : decode cX12_night 28 = .ok (.ireturn, 1) := dc_172 (by decide +kernel)
theorem dX12_night_19 : decode cX12_night 19 = .ok (.iload_n 3, 1) := dc_29 (by decide +kernel)
theorem dX12_night_20 : decode cX12_night 20 = .ok (.invokestatic 220, 3) := dc_184 0 220 (by decide +kernel)
theorem dX12_night_23 : decode cX12_night 23 = .ok (.ifCond .ne 6, 3) := dc_154 0 6 6 (by decide +kernel)
theorem dX12_night_29 : decode cX12_night 29 = .ok (.aload_n 0, 1) := dc_42 (by decide +kernel)
theorem dX12_night_30 : decode cX12_night 30 = .ok (.getfield 7, 3) := dc_180 0 7 (by decide +kernel)
theorem dX12_night_33 : decode cX12_night 33 = .ok (.bipush 6, 2) := dc_16 6 6 (by decide +kernel)
theorem dX12_night_35 : decode cX12_night 35 = .ok (.iaload, 1) := dc_46 (by decide +kernel)
theorem dX12_night_36 : decode cX12_night 36 = .ok (.bipush 40, 2) := dc_16 40 40 (by decide +kernel)
theorem dX12_night_38 : decode cX12_night 38 = .ok (.if_icmp .ne 6, 3) := dc_160 0 6 6 (by decide +kernel)
theorem dX12_night_44 : decode cX12_night 44 = .ok (.aload_n 0, 1) := dc_42 (by decide +kernel)
theorem dX12_night_45 : decode cX12_night 45 = .ok (.getfield 7, 3) := dc_180 0 7 (by decide +kernel)
theorem dX12_night_48 : decode cX12_night 48 = .ok (.bipush 6, 2) := dc_16 6 6 (by decide +kernel)
theorem dX12_night_50 : decode cX12_night 50 = .ok (.iaload, 1) := dc_46 (by decide +kernel)
theorem dX12_night_51 : decode cX12_night 51 = .ok (.istore 4, 2) := dc_54 4 (by decide +kernel)
theorem dX12_night_53 : decode cX12_night 53 = .ok (.aload_n 0, 1) := dc_42 (by decide +kernel)
theorem dX12_night_54 : decode cX12_night 54 = .ok (.getfield 7, 3) := dc_180 0 7 (by decide +kernel)
theorem dX12_night_57 : decode cX12_night 57 = .ok (.sipush 2440, 3) := dc_17 9 136 2440 (by decide +kernel)
theorem dX12_night_60 : decode cX12_night 60 = .ok (.iload 4, 2) := dc_21 4 (by decide +kernel)
theorem dX12_night_62 : decode cX12_night 62 = .ok (.iadd, 1) := dc_96 (by decide +kernel)
theorem dX12_night_63 : decode cX12_night 63 = .ok (.iload_n 1, 1) := dc_27 (by decide +kernel)
theorem dX12_night_64 : decode cX12_night 64 = .ok (.iastore, 1) := dc_79 (by decide +kernel)
theorem dX12_night_65 : decode cX12_night 65 = .ok (.aload_n 0, 1) := dc_42 (by decide +kernel)
theorem dX12_night_66 : decode cX12_night 66 = .ok (.getfield 7, 3) := dc_180 0 7 (by decide +kernel)
theorem dX12_night_69 : decode cX12_night 69 = .ok (.sipush 2480, 3) := dc_17 9 176 2480 (by decide +kernel)
theorem dX12_night_72 : decode cX12_night 72 = .ok (.iload 4, 2) := dc_21 4 (by decide +kernel)
theorem dX12_night_74 : decode cX12_night 74 = .ok (.iadd, 1) := dc_96 (by decide +kernel)
theorem dX12_night_75 : decode cX12_night 75 = .ok (.iload_n 2, 1) := dc_28 (by decide +kernel)
theorem dX12_night_76 : decode cX12_night 76 = .ok (.iastore, 1) := dc_79 (by decide +kernel)
theorem dX12_night_77 : decode cX12_night 77 = .ok (.aload_n 0, 1) := dc_42 (by decide +kernel)
theorem dX12_night_78 : decode cX12_night 78 = .ok (.getfield 7, 3) := dc_180 0 7 (by decide +kernel)
theorem dX12_night_81 : decode cX12_night 81 = .ok (.sipush 2520, 3) := dc_17 9 216 2520 (by decide +kernel)
theorem dX12_night_84 : decode cX12_night 84 = .ok (.iload 4, 2) := dc_21 4 (by decide +kernel)
theorem dX12_night_86 : decode cX12_night 86 = .ok (.iadd, 1) := dc_96 (by decide +kernel)
theorem dX12_night_87 : decode cX12_night 87 = .ok (.iload_n 3, 1) := dc_29 (by decide +kernel)
theorem dX12_night_88 : decode cX12_night 88 = .ok (.iastore, 1) := dc_79 (by decide +kernel)
theorem dX12_night_89 : decode cX12_night 89 = .ok (.aload_n 0, 1) := dc_42 (by decide +kernel)
theorem dX12_night_90 : decode cX12_night 90 = .ok (.getfield 7, 3) := dc_180 0 7 (by decide +kernel)
theorem dX12_night_93 : decode cX12_night 93 = .ok (.bipush 6, 2) := dc_16 6 6 (by decide +kernel)
theorem dX12_night_95 : decode cX12_night 95 = .ok (.dup2, 1) := dc_92 (by decide +kernel)
theorem dX12_night_96 : decode cX12_night 96 = .ok (.iaload, 1) := dc_46 (by decide +kernel)
theorem dX12_night_97 : decode cX12_night 97 = .ok (.iconst 1, 1) := dc_4 (by decide +kernel)
theorem dX12_night_98 : decode cX12_night 98 = .ok (.iadd, 1) := dc_96 (by decide +kernel)
theorem dX12_night_99 : decode cX12_night 99 = .ok (.iastore, 1) := dc_79 (by decide +kernel)
theorem dX12_night_100 : decode cX12_night 100 = .ok (.aload_n 0, 1) := dc_42 (by decide +kernel)
theorem dX12_night_101 : decode cX12_night 101 = .ok (.getfield 7, 3) := dc_180 0 7 (by decide +kernel)
theorem dX12_night_104 : decode cX12_night 104 = .ok (.bipush 6, 2) := dc_16 6 6 (by decide +kernel)
theorem dX12_night_106 : decode cX12_night 106 = .ok (.iaload, 1) := dc_46 (by decide +kernel)
theorem dX12_night_107 : decode cX12_night 107 = .ok (.ireturn, 1) := dc_172 (by decide +kernel)
theorem dX12_night_41 : decode cX12_night 41 = .ok (.bipush (-4), 2) := dc_16 252 (-4) (by decide +kernel)
theorem dX12_night_43 : decode cX12_night 43 = .ok (.ireturn, 1) := dc_172 (by decide +kernel)
theorem dX12_night_7 : decode cX12_night 7 = .ok (.iconst (-1), 1) := dc_2 (by decide +kernel)
theorem dX12_night_8 : decode cX12_night 8 = .ok (.ireturn, 1) := dc_172 (by decide +kernel)
abbrev R_X12_night : Room := { frames := 2, cells := 0, slots := 0, locals := 42 }
set_option maxRecDepth 100000 in
set_option maxHeartbeats 4000000 in
theorem s_X12_night {l : Launch} {n0 : Nat} {D : va_G} {cA : Nat → ClassId} {M : gM} (a : Int) (r_a : -2147483648 ≤ a ∧ a ≤ 2147483647) (b : Int) (r_b : -2147483648 ≤ b ∧ b ≤ 2147483647) (c : Int) (r_c : -2147483648 ≤ c ∧ c ≤ 2147483647) {sz : Nat} (hsz : 206 ≤ sz) (I : gI sz M) (C : gC sz M)   : Met l yX12_night (gWsOf yX12_night cX12_night 5 (Option.some Jvm.ClassFile.FieldType.int)) R_X12_night (gPc n0 D cA [gA n0 190, gJ a, gJ b, gJ c] M sz) (gQi n0 D cA sz (fun z M1 => (-4 ≤ z ∧ z ≤ 40) ∧ gI sz M1 ∧ gC sz M1 ∧ gFr 18015498021109760 M M1 ∧ ((¬ (0 ≤ b ∧ b ≤ 5) ∧ z = -1 ∧ M1 191 6 = M 191 6) ∨ ((0 ≤ b ∧ b ≤ 5) ∧ ¬ ((0 ≤ a ∧ a ≤ 7) ∧ (0 ≤ c ∧ c ≤ 300)) ∧ z = -2 ∧ M1 191 6 = M 191 6) ∨ ((0 ≤ b ∧ b ≤ 5) ∧ ((0 ≤ a ∧ a ≤ 7) ∧ (0 ≤ c ∧ c ≤ 300)) ∧ M 191 6 = 40 ∧ z = -4 ∧ M1 191 6 = M 191 6) ∨ ((0 ≤ b ∧ b ≤ 5) ∧ ((0 ≤ a ∧ a ≤ 7) ∧ (0 ≤ c ∧ c ≤ 300)) ∧ M 191 6 < 40 ∧ z = M 191 6 + 1 ∧ M1 191 6 = M 191 6 + 1)))) 0 0 (fun q => n0 ≤ q) := by
  refine gMetI [gA n0 190, gJ a, gJ b, gJ c] (by decide) (Nat.le_of_ble_eq_true rfl) ⟨rfl, rfl⟩ ?_
  intro p e s m args below meth cd Q X hq
  have X : gCx p s m args meth cd n0 D cA "ParishUnionModel" cX12_night 5 := X
  show G p l e R_X12_night s m args below meth cd n0 D cA 5 Q 0 0 M sz 0 [(0, gA n0 190), (1, gJ a), (2, gJ b), (3, gJ c)] []
  obtain ⟨v1, hv1, rv1⟩ := gRd I (by decide) (gsz hsz (by decide)) (rs_NN (k := 6) (by omega)).1
  refine g_iload_n (n := 1) X 2 dX12_night_0 rfl rfl rfl ?_
  refine g_callSi (n := 4) (As := [gJ b]) (rest := []) (cs1 := 0) (ss1 := 0) X (s_X12_isParish b (by omega) hsz I C ) okX12_isParish kw_6_103 kw_6_104 ⟨rfl, rfl⟩ ⟨Nat.le_of_ble_eq_true rfl, Nat.le_of_ble_eq_true rfl⟩ rfl rfl (Nat.le_of_ble_eq_true rfl) ⟨Nat.le_of_ble_eq_true rfl, Nat.le_of_ble_eq_true rfl⟩ rfl rfl dX12_night_1 rfl (fun v2 M3 P4 => ?_)
  obtain ⟨rfl, rv2, xv2⟩ := P4
  refine g_if_ne (n := 7) (tgt := 9) X dX12_night_4 (by decide) (by omega) rfl (fun c5 => ?_) (fun c5 => ?_)
  · refine g_iload_n (n := 10) X 1 dX12_night_9 rfl rfl rfl ?_
    refine g_iconst (n := 11) X dX12_night_10 rfl ?_
    refine g_bipush (n := 13) X dX12_night_11 (by decide +kernel) rfl ?_
    refine g_callSi (n := 16) (As := [gJ a, gJ 0, gJ 7]) (rest := []) (cs1 := 0) (ss1 := 0) X (s_X12_in a (by omega) 0 (by omega) 7 (by omega) hsz I C ) okX12_in kw_6_106 kw_6_107 ⟨rfl, rfl⟩ ⟨Nat.le_of_ble_eq_true rfl, Nat.le_of_ble_eq_true rfl⟩ rfl rfl (Nat.le_of_ble_eq_true rfl) ⟨Nat.le_of_ble_eq_true rfl, Nat.le_of_ble_eq_true rfl⟩ rfl rfl dX12_night_13 rfl (fun v6 M7 P8 => ?_)
    obtain ⟨rfl, rv6, xv6⟩ := P8
    refine g_if_eq (n := 19) (tgt := 26) X dX12_night_16 (by decide) (by omega) rfl (fun c9 => ?_) (fun c9 => ?_)
    · refine g_bipush (n := 28) X dX12_night_26 (by decide +kernel) rfl ?_
      exact hq _ _ _ _ dX12_night_28 ⟨by omega, I, C, gFr.rf, by have q0 := hv1; omega⟩
    · refine g_iload_n (n := 20) X 3 dX12_night_19 rfl rfl rfl ?_
      refine g_callSi (n := 23) (As := [gJ c]) (rest := []) (cs1 := 0) (ss1 := 0) X (s_X12_isWeek c (by omega) hsz I C ) okX12_isWeek kw_6_236 kw_6_237 ⟨rfl, rfl⟩ ⟨Nat.le_of_ble_eq_true rfl, Nat.le_of_ble_eq_true rfl⟩ rfl rfl (Nat.le_of_ble_eq_true rfl) ⟨Nat.le_of_ble_eq_true rfl, Nat.le_of_ble_eq_true rfl⟩ rfl rfl dX12_night_20 rfl (fun v10 M11 P12 => ?_)
      obtain ⟨rfl, rv10, xv10⟩ := P12
      refine g_if_ne (n := 26) (tgt := 29) X dX12_night_23 (by decide) (by omega) rfl (fun c13 => ?_) (fun c13 => ?_)
      · refine g_aload_n (n := 30) X 0 dX12_night_29 rfl rfl rfl ?_
        refine gg_12_1 (n := 33) (z := 191) X (by decide) (gsz hsz (by decide)) lay_190 kw_6_27 dX12_night_30 rfl (rf_190_1 I (gsz hsz (by decide))) (by decide) ?_
        refine g_bipush (n := 35) X dX12_night_33 (by decide +kernel) rfl ?_
        refine g_iald2 (n := 36) (v := v1) X (by decide) (gsz hsz (by decide)) lay_191 (by omega) (by omega) (by decide) dX12_night_35 rfl hv1 ?_
        refine g_bipush (n := 38) X dX12_night_36 (by decide +kernel) rfl ?_
        refine g_icmp_ne (n := 41) (tgt := 44) X dX12_night_38 (by decide) (by omega) (by omega) rfl (fun c14 => ?_) (fun c14 => ?_)
        · refine g_aload_n (n := 45) X 0 dX12_night_44 rfl rfl rfl ?_
          refine gg_12_1 (n := 48) (z := 191) X (by decide) (gsz hsz (by decide)) lay_190 kw_6_27 dX12_night_45 rfl (rf_190_1 I (gsz hsz (by decide))) (by decide) ?_
          refine g_bipush (n := 50) X dX12_night_48 (by decide +kernel) rfl ?_
          refine g_iald2 (n := 51) (v := v1) X (by decide) (gsz hsz (by decide)) lay_191 (by omega) (by omega) (by decide) dX12_night_50 rfl hv1 ?_
          refine g_istore (n := 53) (L' := [(4, gJ v1), (0, gA n0 190), (1, gJ a), (2, gJ b), (3, gJ c)]) X dX12_night_51 (by decide) rfl rfl ?_
          refine g_aload_n (n := 54) X 1 dX12_night_53 rfl rfl rfl ?_
          refine gg_12_1 (n := 57) (z := 191) X (by decide) (gsz hsz (by decide)) lay_190 kw_6_27 dX12_night_54 rfl (rf_190_1 I (gsz hsz (by decide))) (by decide) ?_
          refine g_sipush (n := 60) X dX12_night_57 (by decide +kernel) rfl ?_
          refine g_iload (n := 62) X 0 dX12_night_60 rfl rfl ?_
          refine g_iadd (n := 63) (z := v1 + 2440) X dX12_night_62 (by omega) rfl ?_
          refine g_iload_n (n := 64) X 2 dX12_night_63 rfl rfl rfl ?_
          refine g_iast (n := 65) X (by decide) (gsz hsz (by decide)) lay_191 (by omega) (by omega) (by decide) dX12_night_64 rfl ?_
          refine G.nm (fun M15 e16 => ?_)
          have IM15 : gI sz M15 := gI.set I (rs_NNAME (k := v1 + 2440) (by omega)).1 (by omega) e16
          have CM15 : gC sz M15 := gC.set C (rs_NNAME (k := v1 + 2440) (by omega)).2.1 e16
          refine g_aload_n (n := 66) X 1 dX12_night_65 rfl rfl rfl ?_
          refine gg_12_1 (n := 69) (z := 191) X (by decide) (gsz hsz (by decide)) lay_190 kw_6_27 dX12_night_66 rfl (rf_190_1 IM15 (gsz hsz (by decide))) (by decide) ?_
          refine g_sipush (n := 72) X dX12_night_69 (by decide +kernel) rfl ?_
          refine g_iload (n := 74) X 0 dX12_night_72 rfl rfl ?_
          refine g_iadd (n := 75) (z := v1 + 2480) X dX12_night_74 (by omega) rfl ?_
          refine g_iload_n (n := 76) X 3 dX12_night_75 rfl rfl rfl ?_
          refine g_iast (n := 77) X (by decide) (gsz hsz (by decide)) lay_191 (by omega) (by omega) (by decide) dX12_night_76 rfl ?_
          refine G.nm (fun M17 e18 => ?_)
          have IM17 : gI sz M17 := gI.set IM15 (rs_NAT (k := v1 + 2480) (by omega)).1 (by omega) e18
          have CM17 : gC sz M17 := gC.set CM15 (rs_NAT (k := v1 + 2480) (by omega)).2.1 e18
          refine g_aload_n (n := 78) X 1 dX12_night_77 rfl rfl rfl ?_
          refine gg_12_1 (n := 81) (z := 191) X (by decide) (gsz hsz (by decide)) lay_190 kw_6_27 dX12_night_78 rfl (rf_190_1 IM17 (gsz hsz (by decide))) (by decide) ?_
          refine g_sipush (n := 84) X dX12_night_81 (by decide +kernel) rfl ?_
          refine g_iload (n := 86) X 0 dX12_night_84 rfl rfl ?_
          refine g_iadd (n := 87) (z := v1 + 2520) X dX12_night_86 (by omega) rfl ?_
          refine g_iload_n (n := 88) X 4 dX12_night_87 rfl rfl rfl ?_
          refine g_iast (n := 89) X (by decide) (gsz hsz (by decide)) lay_191 (by omega) (by omega) (by decide) dX12_night_88 rfl ?_
          refine G.nm (fun M19 e20 => ?_)
          have IM19 : gI sz M19 := gI.set IM17 (rs_NWEEK (k := v1 + 2520) (by omega)).1 (by omega) e20
          have CM19 : gC sz M19 := gC.set CM17 (rs_NWEEK (k := v1 + 2520) (by omega)).2.1 e20
          refine g_aload_n (n := 90) X 1 dX12_night_89 rfl rfl rfl ?_
          refine gg_12_1 (n := 93) (z := 191) X (by decide) (gsz hsz (by decide)) lay_190 kw_6_27 dX12_night_90 rfl (rf_190_1 IM19 (gsz hsz (by decide))) (by decide) ?_
          refine g_bipush (n := 95) X dX12_night_93 (by decide +kernel) rfl ?_
          refine g_dup2 (n := 96) X dX12_night_95 rfl rfl rfl ?_
          refine g_iald2 (n := 97) (v := v1) X (by decide) (gsz hsz (by decide)) lay_191 (by omega) (by omega) (by decide) dX12_night_96 rfl ((congrFun (congrFun e20 _) _).trans ((gset_ne (by omega)).trans ((congrFun (congrFun e18 _) _).trans ((gset_ne (by omega)).trans ((congrFun (congrFun e16 _) _).trans ((gset_ne (by omega)).trans hv1)))))) ?_
          refine g_iconst (n := 98) X dX12_night_97 rfl ?_
          refine g_iadd (n := 99) (z := v1 + 1) X dX12_night_98 (by omega) rfl ?_
          refine g_iast (n := 100) X (by decide) (gsz hsz (by decide)) lay_191 (by omega) (by omega) (by decide) dX12_night_99 rfl ?_
          refine G.nm (fun M21 e22 => ?_)
          have IM21 : gI sz M21 := gI.set IM19 (rs_NN (k := 6) (by omega)).1 (by omega) e22
          have CM21 : gC sz M21 := gC.set CM19 (rs_NN (k := 6) (by omega)).2.1 e22
          refine g_aload_n (n := 101) X 1 dX12_night_100 rfl rfl rfl ?_
          refine gg_12_1 (n := 104) (z := 191) X (by decide) (gsz hsz (by decide)) lay_190 kw_6_27 dX12_night_101 rfl (rf_190_1 IM21 (gsz hsz (by decide))) (by decide) ?_
          refine g_bipush (n := 106) X dX12_night_104 (by decide +kernel) rfl ?_
          refine g_iald2 (n := 107) (v := v1 + 1) X (by decide) (gsz hsz (by decide)) lay_191 (by omega) (by omega) (by decide) dX12_night_106 rfl ((congrFun (congrFun e22 _) _).trans (gset_eq _ _ _ _)) ?_
          exact hq _ _ _ _ dX12_night_107 ⟨by omega, IM21, CM21, (gFr.s (gFr.s (gFr.s (gFr.s gFr.rf e16 (rs_NNAME (k := v1 + 2440) (by omega)).2.2 rfl) e18 (rs_NAT (k := v1 + 2480) (by omega)).2.2 rfl) e20 (rs_NWEEK (k := v1 + 2520) (by omega)).2.2 rfl) e22 (rs_NN (k := 6) (by omega)).2.2 rfl), by have q0 := ((congrFun (congrFun e22 _) _).trans (gset_eq _ _ _ _)); omega⟩
        · refine g_bipush (n := 43) X dX12_night_41 (by decide +kernel) rfl ?_
          exact hq _ _ _ _ dX12_night_43 ⟨by omega, I, C, gFr.rf, by have q0 := hv1; omega⟩
      · refine g_bipush (n := 28) X dX12_night_26 (by decide +kernel) rfl ?_
        exact hq _ _ _ _ dX12_night_28 ⟨by omega, I, C, gFr.rf, by have q0 := hv1; omega⟩
  · refine g_iconst (n := 8) X dX12_night_7 rfl ?_
    exact hq _ _ _ _ dX12_night_8 ⟨by omega, I, C, gFr.rf, by have q0 := hv1; omega⟩
theorem dX12_many_0 : decode cX12_many 0 = .ok (.iconst 0, 1) := dc_3 (by decide +kernel)
theorem dX12_many_1 : decode cX12_many 1 = .ok (.istore_n 1, 1) := dc_60 (by decide +kernel)
theorem dX12_many_2 : decode cX12_many 2 = .ok (.iconst 0, 1) := dc_3 (by decide +kernel)
theorem dX12_many_3 : decode cX12_many 3 = .ok (.istore_n 2, 1) := dc_61 (by decide +kernel)
theorem dX12_many_4 : decode cX12_many 4 = .ok (.iload_n 2, 1) := dc_28 (by decide +kernel)
theorem dX12_many_5 : decode cX12_many 5 = .ok (.bipush 16, 2) := dc_16 16 16 (by decide +kernel)
theorem dX12_many_7 : decode cX12_many 7 = .ok (.if_icmp .ge 17, 3) := dc_162 0 17 17 (by decide +kernel)
theorem dX12_many_10 : decode cX12_many 10 = .ok (.iload_n 1, 1) := dc_27 (by decide +kernel)
theorem dX12_many_11 : decode cX12_many 11 = .ok (.iload_n 0, 1) := dc_26 (by decide +kernel)
theorem dX12_many_12 : decode cX12_many 12 = .ok (.iload_n 2, 1) := dc_28 (by decide +kernel)
theorem dX12_many_13 : decode cX12_many 13 = .ok (.ishr, 1) := dc_122 (by decide +kernel)
theorem dX12_many_14 : decode cX12_many 14 = .ok (.iconst 1, 1) := dc_4 (by decide +kernel)
theorem dX12_many_15 : decode cX12_many 15 = .ok (.iand, 1) := dc_126 (by decide +kernel)
theorem dX12_many_16 : decode cX12_many 16 = .ok (.iadd, 1) := dc_96 (by decide +kernel)
theorem dX12_many_17 : decode cX12_many 17 = .ok (.istore_n 1, 1) := dc_60 (by decide +kernel)
theorem dX12_many_18 : decode cX12_many 18 = .ok (.iinc 2 1, 3) := dc_132 2 1 1 (by decide +kernel)
theorem dX12_many_21 : decode cX12_many 21 = .ok (.goto (-17), 3) := dc_167 255 239 (-17) (by decide +kernel)
theorem dX12_many_24 : decode cX12_many 24 = .ok (.iload_n 1, 1) := dc_27 (by decide +kernel)
theorem dX12_many_25 : decode cX12_many 25 = .ok (.ireturn, 1) := dc_172 (by decide +kernel)
abbrev R_X12_many : Room := { frames := 0, cells := 0, slots := 0, locals := 0 }
set_option maxRecDepth 100000 in
set_option maxHeartbeats 4000000 in
theorem s_X12_many {l : Launch} {n0 : Nat} {D : va_G} {cA : Nat → ClassId} {M : gM} (a : Int) (r_a : -2147483648 ≤ a ∧ a ≤ 2147483647) {sz : Nat} (hsz : 206 ≤ sz) (I : gI sz M) (C : gC sz M)   : Met l yX12_many (gWsOf yX12_many cX12_many 3 (Option.some Jvm.ClassFile.FieldType.int)) R_X12_many (gPc n0 D cA [gJ a] M sz) (gQi n0 D cA sz (fun z M1 => M = M1 ∧ (-2147483648 ≤ z ∧ z ≤ 2147483647))) 0 0 (fun q => n0 ≤ q) := by
  refine gMetI [gJ a] (by decide) (Nat.le_of_ble_eq_true rfl) ⟨rfl, rfl⟩ ?_
  intro p e s m args below meth cd Q X hq
  have X : gCx p s m args meth cd n0 D cA "ParishUnionModel" cX12_many 3 := X
  show G p l e R_X12_many s m args below meth cd n0 D cA 3 Q 0 0 M sz 0 [(0, gJ a)] []
  refine g_iconst (n := 1) X dX12_many_0 rfl ?_
  refine g_istore_n (n := 2) (L' := [(1, gJ 0), (0, gJ a)]) X dX12_many_1 rfl (by decide) rfl rfl ?_
  refine g_iconst (n := 3) X dX12_many_2 rfl ?_
  refine g_istore_n (n := 4) (L' := [(2, gJ 0), (1, gJ 0), (0, gJ a)]) X dX12_many_3 rfl (by decide) rfl rfl ?_
  have j4 : ∀ (N70 : Nat) (v1 v2 : Int) , (-2147483648 ≤ v1 ∧ v1 ≤ 2147483647) → (0 ≤ v2 ∧ v2 ≤ 16) → (16 - v2).toNat < N70 → G p l e R_X12_many s m args below meth cd n0 D cA 3 Q 0 0 M sz 4 [(0, gJ a), (1, gJ v1), (2, gJ v2)] [] := by
    intro N70; induction N70 with
    | zero => intro v1 v2 rv1 rv2 hm72; exfalso; omega
    | succ N70 ih71 =>
      intro v1 v2 rv1 rv2 hm72
      refine g_iload_n (n := 5) X 2 dX12_many_4 rfl rfl rfl ?_
      refine g_bipush (n := 7) X dX12_many_5 (by decide +kernel) rfl ?_
      refine g_icmp_ge (n := 10) (tgt := 24) X dX12_many_7 (by decide) (by omega) (by omega) rfl (fun c73 => ?_) (fun c73 => ?_)
      · refine g_iload_n (n := 25) X 1 dX12_many_24 rfl rfl rfl ?_
        exact hq _ _ _ _ dX12_many_25 ⟨rfl, by omega⟩
      · refine g_iload_n (n := 11) X 1 dX12_many_10 rfl rfl rfl ?_
        refine g_iload_n (n := 12) X 0 dX12_many_11 rfl rfl rfl ?_
        refine g_iload_n (n := 13) X 2 dX12_many_12 rfl rfl rfl ?_
        refine g_ishrA (n := 14) X dX12_many_13 rfl (fun v74 rv74 xv74 => ?_)
        clear xv74
        refine g_iconst (n := 15) X dX12_many_14 rfl ?_
        refine g_iandC (n := 16) X dX12_many_15 (by decide) rfl (fun v75 rv75 xv75 => ?_)
        clear xv75
        refine g_iaddA (n := 17) X dX12_many_16 rfl (fun v76 rv76 xv76 => ?_)
        clear xv76
        refine g_istore_n (n := 18) (L' := [(1, gJ v76), (0, gJ a), (2, gJ v2)]) X dX12_many_17 rfl (by decide) rfl rfl ?_
        refine g_iinc (n := 21) (w := v2 + 1) (L' := [(2, gJ (v2 + 1)), (1, gJ v76), (0, gJ a)]) X 2 dX12_many_18 rfl rfl (by decide) rfl rfl ?_
        refine g_goto (tgt := 4) X dX12_many_21 (by decide) ?_
        refine G.sub (L' := [(0, gJ a), (1, gJ v76), (2, gJ (v2 + 1))]) [2, 1, 0] rfl ?_
        exact ih71 v76 (v2 + 1) (by omega) (by omega) (by omega)
  refine G.sub (L' := [(0, gJ a), (1, gJ 0), (2, gJ 0)]) [2, 1, 0] rfl ?_
  exact j4 _ 0 0 (by omega) (by omega) (Nat.lt_succ_self _)
theorem dX12_costOf6_0 : decode cX12_costOf6 0 = .ok (.iconst 0, 1) := dc_3 (by decide +kernel)
theorem dX12_costOf6_1 : decode cX12_costOf6 1 = .ok (.istore_n 2, 1) := dc_61 (by decide +kernel)
theorem dX12_costOf6_2 : decode cX12_costOf6 2 = .ok (.iconst 0, 1) := dc_3 (by decide +kernel)
theorem dX12_costOf6_3 : decode cX12_costOf6 3 = .ok (.istore_n 3, 1) := dc_62 (by decide +kernel)
theorem dX12_costOf6_4 : decode cX12_costOf6 4 = .ok (.iload_n 3, 1) := dc_29 (by decide +kernel)
theorem dX12_costOf6_5 : decode cX12_costOf6 5 = .ok (.aload_n 0, 1) := dc_42 (by decide +kernel)
theorem dX12_costOf6_6 : decode cX12_costOf6 6 = .ok (.getfield 7, 3) := dc_180 0 7 (by decide +kernel)
theorem dX12_costOf6_9 : decode cX12_costOf6 9 = .ok (.bipush 7, 2) := dc_16 7 7 (by decide +kernel)
theorem dX12_costOf6_11 : decode cX12_costOf6 11 = .ok (.iaload, 1) := dc_46 (by decide +kernel)
theorem dX12_costOf6_12 : decode cX12_costOf6 12 = .ok (.if_icmp .ge 35, 3) := dc_162 0 35 35 (by decide +kernel)
theorem dX12_costOf6_47 : decode cX12_costOf6 47 = .ok (.iload_n 2, 1) := dc_28 (by decide +kernel)
theorem dX12_costOf6_48 : decode cX12_costOf6 48 = .ok (.ireturn, 1) := dc_172 (by decide +kernel)
theorem dX12_costOf6_15 : decode cX12_costOf6 15 = .ok (.iload_n 2, 1) := dc_28 (by decide +kernel)
theorem dX12_costOf6_16 : decode cX12_costOf6 16 = .ok (.iload_n 1, 1) := dc_27 (by decide +kernel)
theorem dX12_costOf6_17 : decode cX12_costOf6 17 = .ok (.iload_n 3, 1) := dc_29 (by decide +kernel)
theorem dX12_costOf6_18 : decode cX12_costOf6 18 = .ok (.ishr, 1) := dc_122 (by decide +kernel)
theorem dX12_costOf6_19 : decode cX12_costOf6 19 = .ok (.iconst 1, 1) := dc_4 (by decide +kernel)
theorem dX12_costOf6_20 : decode cX12_costOf6 20 = .ok (.iand, 1) := dc_126 (by decide +kernel)
theorem dX12_costOf6_21 : decode cX12_costOf6 21 = .ok (.iconst 1, 1) := dc_4 (by decide +kernel)
theorem dX12_costOf6_22 : decode cX12_costOf6 22 = .ok (.if_icmp .ne 16, 3) := dc_160 0 16 16 (by decide +kernel)
theorem dX12_costOf6_38 : decode cX12_costOf6 38 = .ok (.iconst 0, 1) := dc_3 (by decide +kernel)
theorem dX12_costOf6_39 : decode cX12_costOf6 39 = .ok (.iadd, 1) := dc_96 (by decide +kernel)
theorem dX12_costOf6_40 : decode cX12_costOf6 40 = .ok (.istore_n 2, 1) := dc_61 (by decide +kernel)
theorem dX12_costOf6_41 : decode cX12_costOf6 41 = .ok (.iinc 3 1, 3) := dc_132 3 1 1 (by decide +kernel)
theorem dX12_costOf6_44 : decode cX12_costOf6 44 = .ok (.goto (-40), 3) := dc_167 255 216 (-40) (by decide +kernel)
theorem dX12_costOf6_25 : decode cX12_costOf6 25 = .ok (.aload_n 0, 1) := dc_42 (by decide +kernel)
theorem dX12_costOf6_26 : decode cX12_costOf6 26 = .ok (.getfield 7, 3) := dc_180 0 7 (by decide +kernel)
theorem dX12_costOf6_29 : decode cX12_costOf6 29 = .ok (.sipush 2572, 3) := dc_17 10 12 2572 (by decide +kernel)
theorem dX12_costOf6_32 : decode cX12_costOf6 32 = .ok (.iload_n 3, 1) := dc_29 (by decide +kernel)
theorem dX12_costOf6_33 : decode cX12_costOf6 33 = .ok (.iadd, 1) := dc_96 (by decide +kernel)
theorem dX12_costOf6_34 : decode cX12_costOf6 34 = .ok (.iaload, 1) := dc_46 (by decide +kernel)
theorem dX12_costOf6_35 : decode cX12_costOf6 35 = .ok (.goto 4, 3) := dc_167 0 4 4 (by decide +kernel)
abbrev R_X12_costOf6 : Room := { frames := 0, cells := 0, slots := 0, locals := 0 }
set_option maxRecDepth 100000 in
set_option maxHeartbeats 4000000 in
theorem s_X12_costOf6 {l : Launch} {n0 : Nat} {D : va_G} {cA : Nat → ClassId} {M : gM} (a : Int) (r_a : -2147483648 ≤ a ∧ a ≤ 2147483647) {sz : Nat} (hsz : 206 ≤ sz) (I : gI sz M) (C : gC sz M)   : Met l yX12_costOf6 (gWsOf yX12_costOf6 cX12_costOf6 4 (Option.some Jvm.ClassFile.FieldType.int)) R_X12_costOf6 (gPc n0 D cA [gA n0 190, gJ a] M sz) (gQi n0 D cA sz (fun z M1 => M = M1 ∧ (-2147483648 ≤ z ∧ z ≤ 2147483647))) 0 0 (fun q => n0 ≤ q) := by
  refine gMetI [gA n0 190, gJ a] (by decide) (Nat.le_of_ble_eq_true rfl) ⟨rfl, rfl⟩ ?_
  intro p e s m args below meth cd Q X hq
  have X : gCx p s m args meth cd n0 D cA "ParishUnionModel" cX12_costOf6 4 := X
  show G p l e R_X12_costOf6 s m args below meth cd n0 D cA 4 Q 0 0 M sz 0 [(0, gA n0 190), (1, gJ a)] []
  refine g_iconst (n := 1) X dX12_costOf6_0 rfl ?_
  refine g_istore_n (n := 2) (L' := [(2, gJ 0), (0, gA n0 190), (1, gJ a)]) X dX12_costOf6_1 rfl (by decide) rfl rfl ?_
  refine g_iconst (n := 3) X dX12_costOf6_2 rfl ?_
  refine g_istore_n (n := 4) (L' := [(3, gJ 0), (2, gJ 0), (0, gA n0 190), (1, gJ a)]) X dX12_costOf6_3 rfl (by decide) rfl rfl ?_
  have j4 : ∀ (N32 : Nat) (v1 v2 : Int) , (-2147483648 ≤ v1 ∧ v1 ≤ 2147483647) → (0 ≤ v2 ∧ v2 ≤ 6) → (6 - v2).toNat < N32 → G p l e R_X12_costOf6 s m args below meth cd n0 D cA 4 Q 0 0 M sz 4 [(0, gA n0 190), (1, gJ a), (2, gJ v1), (3, gJ v2)] [] := by
    intro N32; induction N32 with
    | zero => intro v1 v2 rv1 rv2 hm34; exfalso; omega
    | succ N32 ih33 =>
      intro v1 v2 rv1 rv2 hm34
      refine g_iload_n (n := 5) X 3 dX12_costOf6_4 rfl rfl rfl ?_
      refine g_aload_n (n := 6) X 0 dX12_costOf6_5 rfl rfl rfl ?_
      refine gg_12_1 (n := 9) (z := 191) X (by decide) (gsz hsz (by decide)) lay_190 kw_6_27 dX12_costOf6_6 rfl (rf_190_1 I (gsz hsz (by decide))) (by decide) ?_
      refine g_bipush (n := 11) X dX12_costOf6_9 (by decide +kernel) rfl ?_
      obtain ⟨v35, hv35, rv35⟩ := gRd I (by decide) (gsz hsz (by decide)) (rs_NC (k := 7) (by omega)).1
      refine g_iald2 (n := 12) (v := v35) X (by decide) (gsz hsz (by decide)) lay_191 (by omega) (by omega) (by decide) dX12_costOf6_11 rfl hv35 ?_
      refine g_icmp_ge (n := 15) (tgt := 47) X dX12_costOf6_12 (by decide) (by omega) (by omega) rfl (fun c36 => ?_) (fun c36 => ?_)
      · refine g_iload_n (n := 48) X 2 dX12_costOf6_47 rfl rfl rfl ?_
        exact hq _ _ _ _ dX12_costOf6_48 ⟨rfl, by omega⟩
      · refine g_iload_n (n := 16) X 2 dX12_costOf6_15 rfl rfl rfl ?_
        refine g_iload_n (n := 17) X 1 dX12_costOf6_16 rfl rfl rfl ?_
        refine g_iload_n (n := 18) X 3 dX12_costOf6_17 rfl rfl rfl ?_
        refine g_ishrA (n := 19) X dX12_costOf6_18 rfl (fun v37 rv37 xv37 => ?_)
        clear xv37
        refine g_iconst (n := 20) X dX12_costOf6_19 rfl ?_
        refine g_iandC (n := 21) X dX12_costOf6_20 (by decide) rfl (fun v38 rv38 xv38 => ?_)
        clear xv38
        refine g_iconst (n := 22) X dX12_costOf6_21 rfl ?_
        refine g_icmp_ne (n := 25) (tgt := 38) X dX12_costOf6_22 (by decide) (by omega) (by omega) rfl (fun c39 => ?_) (fun c39 => ?_)
        · refine g_iconst (n := 39) X dX12_costOf6_38 rfl ?_
          refine g_iadd (n := 40) (z := v1) X dX12_costOf6_39 (by omega) rfl ?_
          refine g_istore_n (n := 41) (L' := [(2, gJ v1), (0, gA n0 190), (1, gJ a), (3, gJ v2)]) X dX12_costOf6_40 rfl (by decide) rfl rfl ?_
          refine g_iinc (n := 44) (w := v2 + 1) (L' := [(3, gJ (v2 + 1)), (2, gJ v1), (0, gA n0 190), (1, gJ a)]) X 3 dX12_costOf6_41 rfl rfl (by decide) rfl rfl ?_
          refine g_goto (tgt := 4) X dX12_costOf6_44 (by decide) ?_
          refine G.sub (L' := [(0, gA n0 190), (1, gJ a), (2, gJ v1), (3, gJ (v2 + 1))]) [2, 3, 1, 0] rfl ?_
          exact ih33 v1 (v2 + 1) (by omega) (by omega) (by omega)
        · refine g_aload_n (n := 26) X 0 dX12_costOf6_25 rfl rfl rfl ?_
          refine gg_12_1 (n := 29) (z := 191) X (by decide) (gsz hsz (by decide)) lay_190 kw_6_27 dX12_costOf6_26 rfl (rf_190_1 I (gsz hsz (by decide))) (by decide) ?_
          refine g_sipush (n := 32) X dX12_costOf6_29 (by decide +kernel) rfl ?_
          refine g_iload_n (n := 33) X 3 dX12_costOf6_32 rfl rfl rfl ?_
          refine g_iadd (n := 34) (z := v2 + 2572) X dX12_costOf6_33 (by omega) rfl ?_
          obtain ⟨v40, hv40, rv40⟩ := gRd I (by decide) (gsz hsz (by decide)) (rs_CN (k := v2 + 2572) (by omega)).1
          refine g_iald2 (n := 35) (v := v40) X (by decide) (gsz hsz (by decide)) lay_191 (by omega) (by omega) (by decide) dX12_costOf6_34 rfl hv40 ?_
          refine g_goto (tgt := 39) X dX12_costOf6_35 (by decide) ?_
          refine g_iaddA (n := 40) X dX12_costOf6_39 rfl (fun v41 rv41 xv41 => ?_)
          clear xv41
          refine g_istore_n (n := 41) (L' := [(2, gJ v41), (0, gA n0 190), (1, gJ a), (3, gJ v2)]) X dX12_costOf6_40 rfl (by decide) rfl rfl ?_
          refine g_iinc (n := 44) (w := v2 + 1) (L' := [(3, gJ (v2 + 1)), (2, gJ v41), (0, gA n0 190), (1, gJ a)]) X 3 dX12_costOf6_41 rfl rfl (by decide) rfl rfl ?_
          refine g_goto (tgt := 4) X dX12_costOf6_44 (by decide) ?_
          refine G.sub (L' := [(0, gA n0 190), (1, gJ a), (2, gJ v41), (3, gJ (v2 + 1))]) [2, 3, 1, 0] rfl ?_
          exact ih33 v41 (v2 + 1) (by omega) (by omega) (by omega)
  refine G.sub (L' := [(0, gA n0 190), (1, gJ a), (2, gJ 0), (3, gJ 0)]) [2, 3, 1, 0] rfl ?_
  exact j4 _ 0 0 (by omega) (by omega) (Nat.lt_succ_self _)
theorem dX12_chooses_0 : decode cX12_chooses 0 = .ok (.iconst 0, 1) := dc_3 (by decide +kernel)
theorem dX12_chooses_1 : decode cX12_chooses 1 = .ok (.istore_n 2, 1) := dc_61 (by decide +kernel)
theorem dX12_chooses_2 : decode cX12_chooses 2 = .ok (.iload_n 2, 1) := dc_28 (by decide +kernel)
theorem dX12_chooses_3 : decode cX12_chooses 3 = .ok (.aload_n 0, 1) := dc_42 (by decide +kernel)
theorem dX12_chooses_4 : decode cX12_chooses 4 = .ok (.getfield 7, 3) := dc_180 0 7 (by decide +kernel)
theorem dX12_chooses_7 : decode cX12_chooses 7 = .ok (.bipush 7, 2) := dc_16 7 7 (by decide +kernel)
theorem dX12_chooses_9 : decode cX12_chooses 9 = .ok (.iaload, 1) := dc_46 (by decide +kernel)
theorem dX12_chooses_10 : decode cX12_chooses 10 = .ok (.if_icmp .ge 125, 3) := dc_162 0 125 125 (by decide +kernel)
theorem dX12_chooses_135 : decode cX12_chooses 135 = .ok (.return_, 1) := dc_177 (by decide +kernel)
theorem dX12_chooses_13 : decode cX12_chooses 13 = .ok (.iload_n 1, 1) := dc_27 (by decide +kernel)
theorem dX12_chooses_14 : decode cX12_chooses 14 = .ok (.iload_n 2, 1) := dc_28 (by decide +kernel)
theorem dX12_chooses_15 : decode cX12_chooses 15 = .ok (.ishr, 1) := dc_122 (by decide +kernel)
theorem dX12_chooses_16 : decode cX12_chooses 16 = .ok (.iconst 1, 1) := dc_4 (by decide +kernel)
theorem dX12_chooses_17 : decode cX12_chooses 17 = .ok (.iand, 1) := dc_126 (by decide +kernel)
theorem dX12_chooses_18 : decode cX12_chooses 18 = .ok (.iconst 1, 1) := dc_4 (by decide +kernel)
theorem dX12_chooses_19 : decode cX12_chooses 19 = .ok (.if_icmp .ne 110, 3) := dc_160 0 110 110 (by decide +kernel)
theorem dX12_chooses_129 : decode cX12_chooses 129 = .ok (.iinc 2 1, 3) := dc_132 2 1 1 (by decide +kernel)
theorem dX12_chooses_132 : decode cX12_chooses 132 = .ok (.goto (-130), 3) := dc_167 255 126 (-130) (by decide +kernel)
theorem dX12_chooses_22 : decode cX12_chooses 22 = .ok (.aload_n 0, 1) := dc_42 (by decide +kernel)
theorem dX12_chooses_23 : decode cX12_chooses 23 = .ok (.getfield 7, 3) := dc_180 0 7 (by decide +kernel)
theorem dX12_chooses_26 : decode cX12_chooses 26 = .ok (.sipush 2560, 3) := dc_17 10 0 2560 (by decide +kernel)
theorem dX12_chooses_29 : decode cX12_chooses 29 = .ok (.iload_n 2, 1) := dc_28 (by decide +kernel)
theorem dX12_chooses_30 : decode cX12_chooses 30 = .ok (.iadd, 1) := dc_96 (by decide +kernel)
theorem dX12_chooses_31 : decode cX12_chooses 31 = .ok (.iaload, 1) := dc_46 (by decide +kernel)
theorem dX12_chooses_32 : decode cX12_chooses 32 = .ok (.iconst 4, 1) := dc_7 (by decide +kernel)
theorem dX12_chooses_33 : decode cX12_chooses 33 = .ok (.if_icmp .ne 8, 3) := dc_160 0 8 8 (by decide +kernel)
theorem dX12_chooses_41 : decode cX12_chooses 41 = .ok (.bipush 60, 2) := dc_16 60 60 (by decide +kernel)
theorem dX12_chooses_43 : decode cX12_chooses 43 = .ok (.aload_n 0, 1) := dc_42 (by decide +kernel)
theorem dX12_chooses_44 : decode cX12_chooses 44 = .ok (.getfield 7, 3) := dc_180 0 7 (by decide +kernel)
theorem dX12_chooses_47 : decode cX12_chooses 47 = .ok (.sipush 2560, 3) := dc_17 10 0 2560 (by decide +kernel)
theorem dX12_chooses_50 : decode cX12_chooses 50 = .ok (.iload_n 2, 1) := dc_28 (by decide +kernel)
theorem dX12_chooses_51 : decode cX12_chooses 51 = .ok (.iadd, 1) := dc_96 (by decide +kernel)
theorem dX12_chooses_52 : decode cX12_chooses 52 = .ok (.iaload, 1) := dc_46 (by decide +kernel)
theorem dX12_chooses_53 : decode cX12_chooses 53 = .ok (.iadd, 1) := dc_96 (by decide +kernel)
theorem dX12_chooses_54 : decode cX12_chooses 54 = .ok (.istore_n 3, 1) := dc_62 (by decide +kernel)
theorem dX12_chooses_55 : decode cX12_chooses 55 = .ok (.aload_n 0, 1) := dc_42 (by decide +kernel)
theorem dX12_chooses_56 : decode cX12_chooses 56 = .ok (.getfield 7, 3) := dc_180 0 7 (by decide +kernel)
theorem dX12_chooses_59 : decode cX12_chooses 59 = .ok (.sipush 2560, 3) := dc_17 10 0 2560 (by decide +kernel)
theorem dX12_chooses_62 : decode cX12_chooses 62 = .ok (.iload_n 2, 1) := dc_28 (by decide +kernel)
theorem dX12_chooses_63 : decode cX12_chooses 63 = .ok (.iadd, 1) := dc_96 (by decide +kernel)
theorem dX12_chooses_64 : decode cX12_chooses 64 = .ok (.iaload, 1) := dc_46 (by decide +kernel)
theorem dX12_chooses_65 : decode cX12_chooses 65 = .ok (.iconst 4, 1) := dc_7 (by decide +kernel)
theorem dX12_chooses_66 : decode cX12_chooses 66 = .ok (.if_icmp .ne 9, 3) := dc_160 0 9 9 (by decide +kernel)
theorem dX12_chooses_75 : decode cX12_chooses 75 = .ok (.bipush 99, 2) := dc_16 99 99 (by decide +kernel)
theorem dX12_chooses_77 : decode cX12_chooses 77 = .ok (.istore 4, 2) := dc_54 4 (by decide +kernel)
theorem dX12_chooses_79 : decode cX12_chooses 79 = .ok (.aload_n 0, 1) := dc_42 (by decide +kernel)
theorem dX12_chooses_80 : decode cX12_chooses 80 = .ok (.getfield 7, 3) := dc_180 0 7 (by decide +kernel)
theorem dX12_chooses_83 : decode cX12_chooses 83 = .ok (.iload_n 3, 1) := dc_29 (by decide +kernel)
theorem dX12_chooses_84 : decode cX12_chooses 84 = .ok (.aload_n 0, 1) := dc_42 (by decide +kernel)
theorem dX12_chooses_85 : decode cX12_chooses 85 = .ok (.getfield 7, 3) := dc_180 0 7 (by decide +kernel)
theorem dX12_chooses_88 : decode cX12_chooses 88 = .ok (.iload_n 3, 1) := dc_29 (by decide +kernel)
theorem dX12_chooses_89 : decode cX12_chooses 89 = .ok (.iaload, 1) := dc_46 (by decide +kernel)
theorem dX12_chooses_90 : decode cX12_chooses 90 = .ok (.aload_n 0, 1) := dc_42 (by decide +kernel)
theorem dX12_chooses_91 : decode cX12_chooses 91 = .ok (.getfield 7, 3) := dc_180 0 7 (by decide +kernel)
theorem dX12_chooses_94 : decode cX12_chooses 94 = .ok (.sipush 2566, 3) := dc_17 10 6 2566 (by decide +kernel)
theorem dX12_chooses_97 : decode cX12_chooses 97 = .ok (.iload_n 2, 1) := dc_28 (by decide +kernel)
theorem dX12_chooses_98 : decode cX12_chooses 98 = .ok (.iadd, 1) := dc_96 (by decide +kernel)
theorem dX12_chooses_99 : decode cX12_chooses 99 = .ok (.iaload, 1) := dc_46 (by decide +kernel)
theorem dX12_chooses_100 : decode cX12_chooses 100 = .ok (.iadd, 1) := dc_96 (by decide +kernel)
theorem dX12_chooses_101 : decode cX12_chooses 101 = .ok (.iload 4, 2) := dc_21 4 (by decide +kernel)
theorem dX12_chooses_103 : decode cX12_chooses 103 = .ok (.if_icmp .ge 23, 3) := dc_162 0 23 23 (by decide +kernel)
theorem dX12_chooses_126 : decode cX12_chooses 126 = .ok (.iload 4, 2) := dc_21 4 (by decide +kernel)
theorem dX12_chooses_128 : decode cX12_chooses 128 = .ok (.iastore, 1) := dc_79 (by decide +kernel)
theorem dX12_chooses_106 : decode cX12_chooses 106 = .ok (.aload_n 0, 1) := dc_42 (by decide +kernel)
theorem dX12_chooses_107 : decode cX12_chooses 107 = .ok (.getfield 7, 3) := dc_180 0 7 (by decide +kernel)
theorem dX12_chooses_110 : decode cX12_chooses 110 = .ok (.iload_n 3, 1) := dc_29 (by decide +kernel)
theorem dX12_chooses_111 : decode cX12_chooses 111 = .ok (.iaload, 1) := dc_46 (by decide +kernel)
theorem dX12_chooses_112 : decode cX12_chooses 112 = .ok (.aload_n 0, 1) := dc_42 (by decide +kernel)
theorem dX12_chooses_113 : decode cX12_chooses 113 = .ok (.getfield 7, 3) := dc_180 0 7 (by decide +kernel)
theorem dX12_chooses_116 : decode cX12_chooses 116 = .ok (.sipush 2566, 3) := dc_17 10 6 2566 (by decide +kernel)
theorem dX12_chooses_119 : decode cX12_chooses 119 = .ok (.iload_n 2, 1) := dc_28 (by decide +kernel)
theorem dX12_chooses_120 : decode cX12_chooses 120 = .ok (.iadd, 1) := dc_96 (by decide +kernel)
theorem dX12_chooses_121 : decode cX12_chooses 121 = .ok (.iaload, 1) := dc_46 (by decide +kernel)
theorem dX12_chooses_122 : decode cX12_chooses 122 = .ok (.iadd, 1) := dc_96 (by decide +kernel)
theorem dX12_chooses_123 : decode cX12_chooses 123 = .ok (.goto 5, 3) := dc_167 0 5 5 (by decide +kernel)
theorem dX12_chooses_36 : decode cX12_chooses 36 = .ok (.bipush 8, 2) := dc_16 8 8 (by decide +kernel)
theorem dX12_chooses_38 : decode cX12_chooses 38 = .ok (.goto 16, 3) := dc_167 0 16 16 (by decide +kernel)
theorem dX12_chooses_69 : decode cX12_chooses 69 = .ok (.sipush 9999, 3) := dc_17 39 15 9999 (by decide +kernel)
theorem dX12_chooses_72 : decode cX12_chooses 72 = .ok (.goto 5, 3) := dc_167 0 5 5 (by decide +kernel)
abbrev R_X12_chooses : Room := { frames := 0, cells := 0, slots := 0, locals := 0 }
set_option maxRecDepth 100000 in
set_option maxHeartbeats 4000000 in
theorem s_X12_chooses {l : Launch} {n0 : Nat} {D : va_G} {cA : Nat → ClassId} {M : gM} (a : Int) (r_a : -2147483648 ≤ a ∧ a ≤ 2147483647) {sz : Nat} (hsz : 206 ≤ sz) (I : gI sz M) (C : gC sz M)   : Met l yX12_chooses (gWsOf yX12_chooses cX12_chooses 5 (Option.none : Option Jvm.ClassFile.FieldType)) R_X12_chooses (gPc n0 D cA [gA n0 190, gJ a] M sz) (gQv n0 D cA sz (fun M1 => gI sz M1 ∧ gC sz M1 ∧ gFr 145135534866432 M M1)) 0 0 (fun q => n0 ≤ q) := by
  refine gMetV [gA n0 190, gJ a] (by decide) (Nat.le_of_ble_eq_true rfl) ⟨rfl, rfl⟩ ?_
  intro p e s m args below meth cd Q X hq
  have X : gCx p s m args meth cd n0 D cA "ParishUnionModel" cX12_chooses 5 := X
  show G p l e R_X12_chooses s m args below meth cd n0 D cA 5 Q 0 0 M sz 0 [(0, gA n0 190), (1, gJ a)] []
  refine g_iconst (n := 1) X dX12_chooses_0 rfl ?_
  refine g_istore_n (n := 2) (L' := [(2, gJ 0), (0, gA n0 190), (1, gJ a)]) X dX12_chooses_1 rfl (by decide) rfl rfl ?_
  have j3 : ∀ (N193 : Nat) (v1 : Int) (M2 : gM) , (0 ≤ v1 ∧ v1 ≤ 6) → gI sz M2 → gC sz M2 → gFr 145135534866432 M M2 → (6 - v1).toNat < N193 → G p l e R_X12_chooses s m args below meth cd n0 D cA 5 Q 0 0 M2 sz 2 [(0, gA n0 190), (1, gJ a), (2, gJ v1)] [] := by
    intro N193; induction N193 with
    | zero => intro v1 M2 rv1 IM2 CM2 FM2 hm195; exfalso; omega
    | succ N193 ih194 =>
      intro v1 M2 rv1 IM2 CM2 FM2 hm195
      refine g_iload_n (n := 3) X 2 dX12_chooses_2 rfl rfl rfl ?_
      refine g_aload_n (n := 4) X 0 dX12_chooses_3 rfl rfl rfl ?_
      refine gg_12_1 (n := 7) (z := 191) X (by decide) (gsz hsz (by decide)) lay_190 kw_6_27 dX12_chooses_4 rfl (rf_190_1 IM2 (gsz hsz (by decide))) (by decide) ?_
      refine g_bipush (n := 9) X dX12_chooses_7 (by decide +kernel) rfl ?_
      obtain ⟨v196, hv196, rv196⟩ := gRd IM2 (by decide) (gsz hsz (by decide)) (rs_NC (k := 7) (by omega)).1
      refine g_iald2 (n := 10) (v := v196) X (by decide) (gsz hsz (by decide)) lay_191 (by omega) (by omega) (by decide) dX12_chooses_9 rfl hv196 ?_
      refine g_icmp_ge (n := 13) (tgt := 135) X dX12_chooses_10 (by decide) (by omega) (by omega) rfl (fun c197 => ?_) (fun c197 => ?_)
      · exact hq _ _ _ dX12_chooses_135 ⟨IM2, CM2, (gFr.c gFr.rf FM2 rfl)⟩
      · refine g_iload_n (n := 14) X 1 dX12_chooses_13 rfl rfl rfl ?_
        refine g_iload_n (n := 15) X 2 dX12_chooses_14 rfl rfl rfl ?_
        refine g_ishrA (n := 16) X dX12_chooses_15 rfl (fun v198 rv198 xv198 => ?_)
        clear xv198
        refine g_iconst (n := 17) X dX12_chooses_16 rfl ?_
        refine g_iandC (n := 18) X dX12_chooses_17 (by decide) rfl (fun v199 rv199 xv199 => ?_)
        clear xv199
        refine g_iconst (n := 19) X dX12_chooses_18 rfl ?_
        refine g_icmp_ne (n := 22) (tgt := 129) X dX12_chooses_19 (by decide) (by omega) (by omega) rfl (fun c200 => ?_) (fun c200 => ?_)
        · refine g_iinc (n := 132) (w := v1 + 1) (L' := [(2, gJ (v1 + 1)), (0, gA n0 190), (1, gJ a)]) X 2 dX12_chooses_129 rfl rfl (by decide) rfl rfl ?_
          refine g_goto (tgt := 2) X dX12_chooses_132 (by decide) ?_
          refine G.sub (L' := [(0, gA n0 190), (1, gJ a), (2, gJ (v1 + 1))]) [1, 2, 0] rfl ?_
          exact ih194 (v1 + 1) M2 (by omega) IM2 CM2 (gFr.c gFr.rf FM2 rfl) (by omega)
        · refine g_aload_n (n := 23) X 0 dX12_chooses_22 rfl rfl rfl ?_
          refine gg_12_1 (n := 26) (z := 191) X (by decide) (gsz hsz (by decide)) lay_190 kw_6_27 dX12_chooses_23 rfl (rf_190_1 IM2 (gsz hsz (by decide))) (by decide) ?_
          refine g_sipush (n := 29) X dX12_chooses_26 (by decide +kernel) rfl ?_
          refine g_iload_n (n := 30) X 2 dX12_chooses_29 rfl rfl rfl ?_
          refine g_iadd (n := 31) (z := v1 + 2560) X dX12_chooses_30 (by omega) rfl ?_
          obtain ⟨v201, hv201, rv201⟩ := gRd IM2 (by decide) (gsz hsz (by decide)) (rs_CK (k := v1 + 2560) (by omega)).1
          refine g_iald2 (n := 32) (v := v201) X (by decide) (gsz hsz (by decide)) lay_191 (by omega) (by omega) (by decide) dX12_chooses_31 rfl hv201 ?_
          refine g_iconst (n := 33) X dX12_chooses_32 rfl ?_
          refine g_icmp_ne (n := 36) (tgt := 41) X dX12_chooses_33 (by decide) (by omega) (by omega) rfl (fun c202 => ?_) (fun c202 => ?_)
          · refine g_bipush (n := 43) X dX12_chooses_41 (by decide +kernel) rfl ?_
            refine g_aload_n (n := 44) X 0 dX12_chooses_43 rfl rfl rfl ?_
            refine gg_12_1 (n := 47) (z := 191) X (by decide) (gsz hsz (by decide)) lay_190 kw_6_27 dX12_chooses_44 rfl (rf_190_1 IM2 (gsz hsz (by decide))) (by decide) ?_
            refine g_sipush (n := 50) X dX12_chooses_47 (by decide +kernel) rfl ?_
            refine g_iload_n (n := 51) X 2 dX12_chooses_50 rfl rfl rfl ?_
            refine g_iadd (n := 52) (z := v1 + 2560) X dX12_chooses_51 (by omega) rfl ?_
            refine g_iald2 (n := 53) (v := v201) X (by decide) (gsz hsz (by decide)) lay_191 (by omega) (by omega) (by decide) dX12_chooses_52 rfl hv201 ?_
            refine g_iadd (n := 54) (z := v201 + 60) X dX12_chooses_53 (by omega) rfl ?_
            refine g_istore_n (n := 55) (L' := [(3, gJ (v201 + 60)), (0, gA n0 190), (1, gJ a), (2, gJ v1)]) X dX12_chooses_54 rfl (by decide) rfl rfl ?_
            refine g_aload_n (n := 56) X 1 dX12_chooses_55 rfl rfl rfl ?_
            refine gg_12_1 (n := 59) (z := 191) X (by decide) (gsz hsz (by decide)) lay_190 kw_6_27 dX12_chooses_56 rfl (rf_190_1 IM2 (gsz hsz (by decide))) (by decide) ?_
            refine g_sipush (n := 62) X dX12_chooses_59 (by decide +kernel) rfl ?_
            refine g_iload_n (n := 63) X 3 dX12_chooses_62 rfl rfl rfl ?_
            refine g_iadd (n := 64) (z := v1 + 2560) X dX12_chooses_63 (by omega) rfl ?_
            refine g_iald2 (n := 65) (v := v201) X (by decide) (gsz hsz (by decide)) lay_191 (by omega) (by omega) (by decide) dX12_chooses_64 rfl hv201 ?_
            refine g_iconst (n := 66) X dX12_chooses_65 rfl ?_
            refine g_icmp_ne (n := 69) (tgt := 75) X dX12_chooses_66 (by decide) (by omega) (by omega) rfl (fun c203 => ?_) (fun c203 => by exfalso; omega)
            refine g_bipush (n := 77) X dX12_chooses_75 (by decide +kernel) rfl ?_
            refine g_istore (n := 79) (L' := [(4, gJ 99), (3, gJ (v201 + 60)), (0, gA n0 190), (1, gJ a), (2, gJ v1)]) X dX12_chooses_77 (by decide) rfl rfl ?_
            refine g_aload_n (n := 80) X 2 dX12_chooses_79 rfl rfl rfl ?_
            refine gg_12_1 (n := 83) (z := 191) X (by decide) (gsz hsz (by decide)) lay_190 kw_6_27 dX12_chooses_80 rfl (rf_190_1 IM2 (gsz hsz (by decide))) (by decide) ?_
            refine g_iload_n (n := 84) X 1 dX12_chooses_83 rfl rfl rfl ?_
            refine g_aload_n (n := 85) X 2 dX12_chooses_84 rfl rfl rfl ?_
            refine gg_12_1 (n := 88) (z := 191) X (by decide) (gsz hsz (by decide)) lay_190 kw_6_27 dX12_chooses_85 rfl (rf_190_1 IM2 (gsz hsz (by decide))) (by decide) ?_
            refine g_iload_n (n := 89) X 1 dX12_chooses_88 rfl rfl rfl ?_
            obtain ⟨v204, hv204, rv204⟩ := gRd IM2 (by decide) (gsz hsz (by decide)) (rs_BED (k := v201 + 60) (by omega)).1
            refine g_iald2 (n := 90) (v := v204) X (by decide) (gsz hsz (by decide)) lay_191 (by omega) (by omega) (by decide) dX12_chooses_89 rfl hv204 ?_
            refine g_aload_n (n := 91) X 2 dX12_chooses_90 rfl rfl rfl ?_
            refine gg_12_1 (n := 94) (z := 191) X (by decide) (gsz hsz (by decide)) lay_190 kw_6_27 dX12_chooses_91 rfl (rf_190_1 IM2 (gsz hsz (by decide))) (by decide) ?_
            refine g_sipush (n := 97) X dX12_chooses_94 (by decide +kernel) rfl ?_
            refine g_iload_n (n := 98) X 4 dX12_chooses_97 rfl rfl rfl ?_
            refine g_iadd (n := 99) (z := v1 + 2566) X dX12_chooses_98 (by omega) rfl ?_
            obtain ⟨v205, hv205, rv205⟩ := gRd IM2 (by decide) (gsz hsz (by decide)) (rs_CN (k := v1 + 2566) (by omega)).1
            refine g_iald2 (n := 100) (v := v205) X (by decide) (gsz hsz (by decide)) lay_191 (by omega) (by omega) (by decide) dX12_chooses_99 rfl hv205 ?_
            refine g_iaddA (n := 101) X dX12_chooses_100 rfl (fun v206 rv206 xv206 => ?_)
            clear xv206
            refine g_iload (n := 103) X 0 dX12_chooses_101 rfl rfl ?_
            refine g_icmp_ge (n := 106) (tgt := 126) X dX12_chooses_103 (by decide) (by omega) (by omega) rfl (fun c207 => ?_) (fun c207 => ?_)
            · refine g_iload (n := 128) X 0 dX12_chooses_126 rfl rfl ?_
              refine g_iast (n := 129) X (by decide) (gsz hsz (by decide)) lay_191 (by omega) (by omega) (by decide) dX12_chooses_128 rfl ?_
              refine G.nm (fun M208 e209 => ?_)
              have IM208 : gI sz M208 := gI.set IM2 (rs_BED (k := v201 + 60) (by omega)).1 (by omega) e209
              have CM208 : gC sz M208 := gC.set CM2 (rs_BED (k := v201 + 60) (by omega)).2.1 e209
              refine g_iinc (n := 132) (w := v1 + 1) (L' := [(2, gJ (v1 + 1)), (4, gJ 99), (3, gJ (v201 + 60)), (0, gA n0 190), (1, gJ a)]) X 4 dX12_chooses_129 rfl rfl (by decide) rfl rfl ?_
              refine g_goto (tgt := 2) X dX12_chooses_132 (by decide) ?_
              refine G.sub (L' := [(0, gA n0 190), (1, gJ a), (2, gJ (v1 + 1))]) [3, 4, 0] rfl ?_
              exact ih194 (v1 + 1) M208 (by omega) IM208 CM208 (gFr.s (gFr.c gFr.rf FM2 rfl) e209 (rs_BED (k := v201 + 60) (by omega)).2.2 rfl) (by omega)
            · refine g_aload_n (n := 107) X 2 dX12_chooses_106 rfl rfl rfl ?_
              refine gg_12_1 (n := 110) (z := 191) X (by decide) (gsz hsz (by decide)) lay_190 kw_6_27 dX12_chooses_107 rfl (rf_190_1 IM2 (gsz hsz (by decide))) (by decide) ?_
              refine g_iload_n (n := 111) X 1 dX12_chooses_110 rfl rfl rfl ?_
              refine g_iald2 (n := 112) (v := v204) X (by decide) (gsz hsz (by decide)) lay_191 (by omega) (by omega) (by decide) dX12_chooses_111 rfl hv204 ?_
              refine g_aload_n (n := 113) X 2 dX12_chooses_112 rfl rfl rfl ?_
              refine gg_12_1 (n := 116) (z := 191) X (by decide) (gsz hsz (by decide)) lay_190 kw_6_27 dX12_chooses_113 rfl (rf_190_1 IM2 (gsz hsz (by decide))) (by decide) ?_
              refine g_sipush (n := 119) X dX12_chooses_116 (by decide +kernel) rfl ?_
              refine g_iload_n (n := 120) X 4 dX12_chooses_119 rfl rfl rfl ?_
              refine g_iadd (n := 121) (z := v1 + 2566) X dX12_chooses_120 (by omega) rfl ?_
              refine g_iald2 (n := 122) (v := v205) X (by decide) (gsz hsz (by decide)) lay_191 (by omega) (by omega) (by decide) dX12_chooses_121 rfl hv205 ?_
              refine g_iaddA (n := 123) X dX12_chooses_122 rfl (fun v210 rv210 xv210 => ?_)
              clear xv210
              refine g_goto (tgt := 128) X dX12_chooses_123 (by decide) ?_
              refine g_iast (n := 129) X (by decide) (gsz hsz (by decide)) lay_191 (by omega) (by omega) (by decide) dX12_chooses_128 rfl ?_
              refine G.nm (fun M211 e212 => ?_)
              have IM211 : gI sz M211 := gI.set IM2 (rs_BED (k := v201 + 60) (by omega)).1 (by omega) e212
              have CM211 : gC sz M211 := gC.set CM2 (rs_BED (k := v201 + 60) (by omega)).2.1 e212
              refine g_iinc (n := 132) (w := v1 + 1) (L' := [(2, gJ (v1 + 1)), (4, gJ 99), (3, gJ (v201 + 60)), (0, gA n0 190), (1, gJ a)]) X 4 dX12_chooses_129 rfl rfl (by decide) rfl rfl ?_
              refine g_goto (tgt := 2) X dX12_chooses_132 (by decide) ?_
              refine G.sub (L' := [(0, gA n0 190), (1, gJ a), (2, gJ (v1 + 1))]) [3, 4, 0] rfl ?_
              exact ih194 (v1 + 1) M211 (by omega) IM211 CM211 (gFr.s (gFr.c gFr.rf FM2 rfl) e212 (rs_BED (k := v201 + 60) (by omega)).2.2 rfl) (by omega)
          · refine g_bipush (n := 38) X dX12_chooses_36 (by decide +kernel) rfl ?_
            refine g_goto (tgt := 54) X dX12_chooses_38 (by decide) ?_
            refine g_istore_n (n := 55) (L' := [(3, gJ 8), (0, gA n0 190), (1, gJ a), (2, gJ v1)]) X dX12_chooses_54 rfl (by decide) rfl rfl ?_
            refine g_aload_n (n := 56) X 1 dX12_chooses_55 rfl rfl rfl ?_
            refine gg_12_1 (n := 59) (z := 191) X (by decide) (gsz hsz (by decide)) lay_190 kw_6_27 dX12_chooses_56 rfl (rf_190_1 IM2 (gsz hsz (by decide))) (by decide) ?_
            refine g_sipush (n := 62) X dX12_chooses_59 (by decide +kernel) rfl ?_
            refine g_iload_n (n := 63) X 3 dX12_chooses_62 rfl rfl rfl ?_
            refine g_iadd (n := 64) (z := v1 + 2560) X dX12_chooses_63 (by omega) rfl ?_
            refine g_iald2 (n := 65) (v := v201) X (by decide) (gsz hsz (by decide)) lay_191 (by omega) (by omega) (by decide) dX12_chooses_64 rfl hv201 ?_
            refine g_iconst (n := 66) X dX12_chooses_65 rfl ?_
            refine g_icmp_ne (n := 69) (tgt := 75) X dX12_chooses_66 (by decide) (by omega) (by omega) rfl (fun c213 => by exfalso; omega) (fun c213 => ?_)
            refine g_sipush (n := 72) X dX12_chooses_69 (by decide +kernel) rfl ?_
            refine g_goto (tgt := 77) X dX12_chooses_72 (by decide) ?_
            refine g_istore (n := 79) (L' := [(4, gJ 9999), (3, gJ 8), (0, gA n0 190), (1, gJ a), (2, gJ v1)]) X dX12_chooses_77 (by decide) rfl rfl ?_
            refine g_aload_n (n := 80) X 2 dX12_chooses_79 rfl rfl rfl ?_
            refine gg_12_1 (n := 83) (z := 191) X (by decide) (gsz hsz (by decide)) lay_190 kw_6_27 dX12_chooses_80 rfl (rf_190_1 IM2 (gsz hsz (by decide))) (by decide) ?_
            refine g_iload_n (n := 84) X 1 dX12_chooses_83 rfl rfl rfl ?_
            refine g_aload_n (n := 85) X 2 dX12_chooses_84 rfl rfl rfl ?_
            refine gg_12_1 (n := 88) (z := 191) X (by decide) (gsz hsz (by decide)) lay_190 kw_6_27 dX12_chooses_85 rfl (rf_190_1 IM2 (gsz hsz (by decide))) (by decide) ?_
            refine g_iload_n (n := 89) X 1 dX12_chooses_88 rfl rfl rfl ?_
            obtain ⟨v214, hv214, rv214⟩ := gRd IM2 (by decide) (gsz hsz (by decide)) (rs_STORE (k := 8) (by omega)).1
            refine g_iald2 (n := 90) (v := v214) X (by decide) (gsz hsz (by decide)) lay_191 (by omega) (by omega) (by decide) dX12_chooses_89 rfl hv214 ?_
            refine g_aload_n (n := 91) X 2 dX12_chooses_90 rfl rfl rfl ?_
            refine gg_12_1 (n := 94) (z := 191) X (by decide) (gsz hsz (by decide)) lay_190 kw_6_27 dX12_chooses_91 rfl (rf_190_1 IM2 (gsz hsz (by decide))) (by decide) ?_
            refine g_sipush (n := 97) X dX12_chooses_94 (by decide +kernel) rfl ?_
            refine g_iload_n (n := 98) X 4 dX12_chooses_97 rfl rfl rfl ?_
            refine g_iadd (n := 99) (z := v1 + 2566) X dX12_chooses_98 (by omega) rfl ?_
            obtain ⟨v215, hv215, rv215⟩ := gRd IM2 (by decide) (gsz hsz (by decide)) (rs_CN (k := v1 + 2566) (by omega)).1
            refine g_iald2 (n := 100) (v := v215) X (by decide) (gsz hsz (by decide)) lay_191 (by omega) (by omega) (by decide) dX12_chooses_99 rfl hv215 ?_
            refine g_iaddA (n := 101) X dX12_chooses_100 rfl (fun v216 rv216 xv216 => ?_)
            clear xv216
            refine g_iload (n := 103) X 0 dX12_chooses_101 rfl rfl ?_
            refine g_icmp_ge (n := 106) (tgt := 126) X dX12_chooses_103 (by decide) (by omega) (by omega) rfl (fun c217 => ?_) (fun c217 => ?_)
            · refine g_iload (n := 128) X 0 dX12_chooses_126 rfl rfl ?_
              refine g_iast (n := 129) X (by decide) (gsz hsz (by decide)) lay_191 (by omega) (by omega) (by decide) dX12_chooses_128 rfl ?_
              refine G.nm (fun M218 e219 => ?_)
              have IM218 : gI sz M218 := gI.set IM2 (rs_STORE (k := 8) (by omega)).1 (by omega) e219
              have CM218 : gC sz M218 := gC.set CM2 (rs_STORE (k := 8) (by omega)).2.1 e219
              refine g_iinc (n := 132) (w := v1 + 1) (L' := [(2, gJ (v1 + 1)), (4, gJ 9999), (3, gJ 8), (0, gA n0 190), (1, gJ a)]) X 4 dX12_chooses_129 rfl rfl (by decide) rfl rfl ?_
              refine g_goto (tgt := 2) X dX12_chooses_132 (by decide) ?_
              refine G.sub (L' := [(0, gA n0 190), (1, gJ a), (2, gJ (v1 + 1))]) [3, 4, 0] rfl ?_
              exact ih194 (v1 + 1) M218 (by omega) IM218 CM218 (gFr.s (gFr.c gFr.rf FM2 rfl) e219 (rs_STORE (k := 8) (by omega)).2.2 rfl) (by omega)
            · refine g_aload_n (n := 107) X 2 dX12_chooses_106 rfl rfl rfl ?_
              refine gg_12_1 (n := 110) (z := 191) X (by decide) (gsz hsz (by decide)) lay_190 kw_6_27 dX12_chooses_107 rfl (rf_190_1 IM2 (gsz hsz (by decide))) (by decide) ?_
              refine g_iload_n (n := 111) X 1 dX12_chooses_110 rfl rfl rfl ?_
              refine g_iald2 (n := 112) (v := v214) X (by decide) (gsz hsz (by decide)) lay_191 (by omega) (by omega) (by decide) dX12_chooses_111 rfl hv214 ?_
              refine g_aload_n (n := 113) X 2 dX12_chooses_112 rfl rfl rfl ?_
              refine gg_12_1 (n := 116) (z := 191) X (by decide) (gsz hsz (by decide)) lay_190 kw_6_27 dX12_chooses_113 rfl (rf_190_1 IM2 (gsz hsz (by decide))) (by decide) ?_
              refine g_sipush (n := 119) X dX12_chooses_116 (by decide +kernel) rfl ?_
              refine g_iload_n (n := 120) X 4 dX12_chooses_119 rfl rfl rfl ?_
              refine g_iadd (n := 121) (z := v1 + 2566) X dX12_chooses_120 (by omega) rfl ?_
              refine g_iald2 (n := 122) (v := v215) X (by decide) (gsz hsz (by decide)) lay_191 (by omega) (by omega) (by decide) dX12_chooses_121 rfl hv215 ?_
              refine g_iaddA (n := 123) X dX12_chooses_122 rfl (fun v220 rv220 xv220 => ?_)
              clear xv220
              refine g_goto (tgt := 128) X dX12_chooses_123 (by decide) ?_
              refine g_iast (n := 129) X (by decide) (gsz hsz (by decide)) lay_191 (by omega) (by omega) (by decide) dX12_chooses_128 rfl ?_
              refine G.nm (fun M221 e222 => ?_)
              have IM221 : gI sz M221 := gI.set IM2 (rs_STORE (k := 8) (by omega)).1 (by omega) e222
              have CM221 : gC sz M221 := gC.set CM2 (rs_STORE (k := 8) (by omega)).2.1 e222
              refine g_iinc (n := 132) (w := v1 + 1) (L' := [(2, gJ (v1 + 1)), (4, gJ 9999), (3, gJ 8), (0, gA n0 190), (1, gJ a)]) X 4 dX12_chooses_129 rfl rfl (by decide) rfl rfl ?_
              refine g_goto (tgt := 2) X dX12_chooses_132 (by decide) ?_
              refine G.sub (L' := [(0, gA n0 190), (1, gJ a), (2, gJ (v1 + 1))]) [3, 4, 0] rfl ?_
              exact ih194 (v1 + 1) M221 (by omega) IM221 CM221 (gFr.s (gFr.c gFr.rf FM2 rfl) e222 (rs_STORE (k := 8) (by omega)).2.2 rfl) (by omega)
  refine G.sub (L' := [(0, gA n0 190), (1, gJ a), (2, gJ 0)]) [1, 2, 0] rfl ?_
  exact j3 _ 0 M (by omega) I C gFr.rf (Nat.lt_succ_self _)
theorem dX12_taken_0 : decode cX12_taken 0 = .ok (.iload_n 1, 1) := dc_27 (by decide +kernel)
theorem dX12_taken_1 : decode cX12_taken 1 = .ok (.iconst 0, 1) := dc_3 (by decide +kernel)
theorem dX12_taken_2 : decode cX12_taken 2 = .ok (.aload_n 0, 1) := dc_42 (by decide +kernel)
theorem dX12_taken_3 : decode cX12_taken 3 = .ok (.getfield 7, 3) := dc_180 0 7 (by decide +kernel)
theorem dX12_taken_6 : decode cX12_taken 6 = .ok (.iconst 2, 1) := dc_5 (by decide +kernel)
theorem dX12_taken_7 : decode cX12_taken 7 = .ok (.iaload, 1) := dc_46 (by decide +kernel)
theorem dX12_taken_8 : decode cX12_taken 8 = .ok (.iconst 1, 1) := dc_4 (by decide +kernel)
theorem dX12_taken_9 : decode cX12_taken 9 = .ok (.isub, 1) := dc_100 (by decide +kernel)
theorem dX12_taken_10 : decode cX12_taken 10 = .ok (.invokestatic 64, 3) := dc_184 0 64 (by decide +kernel)
theorem dX12_taken_13 : decode cX12_taken 13 = .ok (.ifCond .eq 12, 3) := dc_153 0 12 12 (by decide +kernel)
theorem dX12_taken_25 : decode cX12_taken 25 = .ok (.iconst (-1), 1) := dc_2 (by decide +kernel)
theorem dX12_taken_26 : decode cX12_taken 26 = .ok (.ireturn, 1) := dc_172 (by decide +kernel)
theorem dX12_taken_16 : decode cX12_taken 16 = .ok (.iload_n 2, 1) := dc_28 (by decide +kernel)
theorem dX12_taken_17 : decode cX12_taken 17 = .ok (.iconst 0, 1) := dc_3 (by decide +kernel)
theorem dX12_taken_18 : decode cX12_taken 18 = .ok (.iconst 4, 1) := dc_7 (by decide +kernel)
theorem dX12_taken_19 : decode cX12_taken 19 = .ok (.invokestatic 64, 3) := dc_184 0 64 (by decide +kernel)
theorem dX12_taken_22 : decode cX12_taken 22 = .ok (.ifCond .ne 5, 3) := dc_154 0 5 5 (by decide +kernel)
theorem dX12_taken_27 : decode cX12_taken 27 = .ok (.aload_n 0, 1) := dc_42 (by decide +kernel)
theorem dX12_taken_28 : decode cX12_taken 28 = .ok (.getfield 7, 3) := dc_180 0 7 (by decide +kernel)
theorem dX12_taken_31 : decode cX12_taken 31 = .ok (.sipush 256, 3) := dc_17 1 0 256 (by decide +kernel)
theorem dX12_taken_34 : decode cX12_taken 34 = .ok (.iload_n 1, 1) := dc_27 (by decide +kernel)
theorem dX12_taken_35 : decode cX12_taken 35 = .ok (.iadd, 1) := dc_96 (by decide +kernel)
theorem dX12_taken_36 : decode cX12_taken 36 = .ok (.iaload, 1) := dc_46 (by decide +kernel)
theorem dX12_taken_37 : decode cX12_taken 37 = .ok (.istore_n 3, 1) := dc_62 (by decide +kernel)
theorem dX12_taken_38 : decode cX12_taken 38 = .ok (.iload_n 2, 1) := dc_28 (by decide +kernel)
theorem dX12_taken_39 : decode cX12_taken 39 = .ok (.ifCond .eq 18, 3) := dc_153 0 18 18 (by decide +kernel)
theorem dX12_taken_57 : decode cX12_taken 57 = .ok (.aload_n 0, 1) := dc_42 (by decide +kernel)
theorem dX12_taken_58 : decode cX12_taken 58 = .ok (.iload_n 1, 1) := dc_27 (by decide +kernel)
theorem dX12_taken_59 : decode cX12_taken 59 = .ok (.invokevirtual 97, 3) := dc_182 0 97 (by decide +kernel)
theorem kw_6_173 : (Jvm.Cond.methodLink "ParishUnionModel" (97 : Nat) ({ cls := "ParishUnionModel", name := "counted", desc := "(I)I" } : Jvm.MethodName)) ∈ gT := gT_of (tb_6 _ (List.mem_of_getElem? (i := 173) rfl)) rfl
theorem kw_6_176 : (Jvm.Cond.code ({ cls := "ParishUnionModel", name := "counted", desc := "(I)I" } : Jvm.MethodName) prog_14_method_24_code (2 : Nat) (Option.some Jvm.ClassFile.FieldType.int)) ∈ gT := gT_of (tb_6 _ (List.mem_of_getElem? (i := 176) rfl)) rfl
theorem okX12_counted : gQok yX12_counted cX12_counted 2 (Option.some Jvm.ClassFile.FieldType.int) 1 := ⟨kw_6_176, kw_1_13, by decide +kernel, by decide +kernel, by decide +kernel⟩
theorem kw_6_175 : (Jvm.Cond.instanceMethod ({ cls := "ParishUnionModel", name := "counted", desc := "(I)I" } : Jvm.MethodName)) ∈ gT := gT_of (tb_6 _ (List.mem_of_getElem? (i := 175) rfl)) rfl
theorem kw_0_45 : (Jvm.Cond.selects "ParishUnionModel" ({ cls := "ParishUnionModel", name := "counted", desc := "(I)I" } : Jvm.MethodName) ({ cls := "ParishUnionModel", name := "counted", desc := "(I)I" } : Jvm.MethodName)) ∈ gT := gT_of (tb_0 _ (List.mem_of_getElem? (i := 45) rfl)) rfl
theorem dX12_taken_62 : decode cX12_taken 62 = .ok (.goto 5, 3) := dc_167 0 5 5 (by decide +kernel)
theorem dX12_taken_67 : decode cX12_taken 67 = .ok (.ireturn, 1) := dc_172 (by decide +kernel)
theorem dX12_taken_42 : decode cX12_taken 42 = .ok (.iload_n 3, 1) := dc_29 (by decide +kernel)
theorem dX12_taken_43 : decode cX12_taken 43 = .ok (.iload_n 2, 1) := dc_28 (by decide +kernel)
theorem dX12_taken_44 : decode cX12_taken 44 = .ok (.if_icmp .eq 13, 3) := dc_159 0 13 13 (by decide +kernel)
theorem dX12_taken_47 : decode cX12_taken 47 = .ok (.iload_n 2, 1) := dc_28 (by decide +kernel)
theorem dX12_taken_48 : decode cX12_taken 48 = .ok (.iconst 1, 1) := dc_4 (by decide +kernel)
theorem dX12_taken_49 : decode cX12_taken 49 = .ok (.if_icmp .ne 16, 3) := dc_160 0 16 16 (by decide +kernel)
theorem dX12_taken_65 : decode cX12_taken 65 = .ok (.bipush (-6), 2) := dc_16 250 (-6) (by decide +kernel)
theorem dX12_taken_52 : decode cX12_taken 52 = .ok (.iload_n 3, 1) := dc_29 (by decide +kernel)
theorem dX12_taken_53 : decode cX12_taken 53 = .ok (.iconst 4, 1) := dc_7 (by decide +kernel)
theorem dX12_taken_54 : decode cX12_taken 54 = .ok (.if_icmp .ne 11, 3) := dc_160 0 11 11 (by decide +kernel)
abbrev R_X12_taken : Room := { frames := 1, cells := 0, slots := 0, locals := 22 }
set_option maxRecDepth 100000 in
set_option maxHeartbeats 4000000 in
theorem s_X12_taken {l : Launch} {n0 : Nat} {D : va_G} {cA : Nat → ClassId} {M : gM} (a : Int) (r_a : -2147483648 ≤ a ∧ a ≤ 2147483647) (b : Int) (r_b : -2147483648 ≤ b ∧ b ≤ 2147483647) {sz : Nat} (hsz : 206 ≤ sz) (I : gI sz M) (C : gC sz M)   : Met l yX12_taken (gWsOf yX12_taken cX12_taken 4 (Option.some Jvm.ClassFile.FieldType.int)) R_X12_taken (gPc n0 D cA [gA n0 190, gJ a, gJ b] M sz) (gQi n0 D cA sz (fun z M1 => M = M1 ∧ (-6 ≤ z ∧ z ≤ 19998) ∧ (((¬ (0 ≤ a ∧ a < M 191 2) ∨ ¬ (0 ≤ b ∧ b ≤ 4)) ∧ z = -1) ∨ (¬ (¬ (0 ≤ a ∧ a < M 191 2) ∨ ¬ (0 ≤ b ∧ b ≤ 4)) ∧ ((¬ (b = 0 ∨ b = M 191 (a + 256) ∨ (M 191 (a + 256) = 4 ∧ b = 1)) ∧ z = -6) ∨ ((b = 0 ∨ b = M 191 (a + 256) ∨ (M 191 (a + 256) = 4 ∧ b = 1)) ∧ ((M 191 (a + 256) = 4 ∧ z = 2 * M 191 (a + 376)) ∨ (¬ M 191 (a + 256) = 4 ∧ z = M 191 (a + 376))))))))) 0 0 (fun q => n0 ≤ q) := by
  refine gMetI [gA n0 190, gJ a, gJ b] (by decide) (Nat.le_of_ble_eq_true rfl) ⟨rfl, rfl⟩ ?_
  intro p e s m args below meth cd Q X hq
  have X : gCx p s m args meth cd n0 D cA "ParishUnionModel" cX12_taken 4 := X
  show G p l e R_X12_taken s m args below meth cd n0 D cA 4 Q 0 0 M sz 0 [(0, gA n0 190), (1, gJ a), (2, gJ b)] []
  obtain ⟨v1, hv1, rv1⟩ := gRd I (by decide) (gsz hsz (by decide)) (rs_NR (k := 2) (by omega)).1
  refine g_iload_n (n := 1) X 1 dX12_taken_0 rfl rfl rfl ?_
  refine g_iconst (n := 2) X dX12_taken_1 rfl ?_
  refine g_aload_n (n := 3) X 0 dX12_taken_2 rfl rfl rfl ?_
  refine gg_12_1 (n := 6) (z := 191) X (by decide) (gsz hsz (by decide)) lay_190 kw_6_27 dX12_taken_3 rfl (rf_190_1 I (gsz hsz (by decide))) (by decide) ?_
  refine g_iconst (n := 7) X dX12_taken_6 rfl ?_
  refine g_iald2 (n := 8) (v := v1) X (by decide) (gsz hsz (by decide)) lay_191 (by omega) (by omega) (by decide) dX12_taken_7 rfl hv1 ?_
  refine g_iconst (n := 9) X dX12_taken_8 rfl ?_
  refine g_isub (n := 10) (z := v1 - 1) X dX12_taken_9 (by omega) rfl ?_
  refine g_callSi (n := 13) (As := [gJ a, gJ 0, gJ (v1 - 1)]) (rest := []) (cs1 := 0) (ss1 := 0) X (s_X12_in a (by omega) 0 (by omega) (v1 - 1) (by omega) hsz I C ) okX12_in kw_6_106 kw_6_107 ⟨rfl, rfl⟩ ⟨Nat.le_of_ble_eq_true rfl, Nat.le_of_ble_eq_true rfl⟩ rfl rfl (Nat.le_of_ble_eq_true rfl) ⟨Nat.le_of_ble_eq_true rfl, Nat.le_of_ble_eq_true rfl⟩ rfl rfl dX12_taken_10 rfl (fun v2 M3 P4 => ?_)
  obtain ⟨rfl, rv2, xv2⟩ := P4
  refine g_if_eq (n := 16) (tgt := 25) X dX12_taken_13 (by decide) (by omega) rfl (fun c5 => ?_) (fun c5 => ?_)
  · refine g_iconst (n := 26) X dX12_taken_25 rfl ?_
    exact hq _ _ _ _ dX12_taken_26 ⟨rfl, by omega, by omega⟩
  · refine g_iload_n (n := 17) X 2 dX12_taken_16 rfl rfl rfl ?_
    refine g_iconst (n := 18) X dX12_taken_17 rfl ?_
    refine g_iconst (n := 19) X dX12_taken_18 rfl ?_
    refine g_callSi (n := 22) (As := [gJ b, gJ 0, gJ 4]) (rest := []) (cs1 := 0) (ss1 := 0) X (s_X12_in b (by omega) 0 (by omega) 4 (by omega) hsz I C ) okX12_in kw_6_106 kw_6_107 ⟨rfl, rfl⟩ ⟨Nat.le_of_ble_eq_true rfl, Nat.le_of_ble_eq_true rfl⟩ rfl rfl (Nat.le_of_ble_eq_true rfl) ⟨Nat.le_of_ble_eq_true rfl, Nat.le_of_ble_eq_true rfl⟩ rfl rfl dX12_taken_19 rfl (fun v6 M7 P8 => ?_)
    obtain ⟨rfl, rv6, xv6⟩ := P8
    refine g_if_ne (n := 25) (tgt := 27) X dX12_taken_22 (by decide) (by omega) rfl (fun c9 => ?_) (fun c9 => ?_)
    · refine g_aload_n (n := 28) X 0 dX12_taken_27 rfl rfl rfl ?_
      refine gg_12_1 (n := 31) (z := 191) X (by decide) (gsz hsz (by decide)) lay_190 kw_6_27 dX12_taken_28 rfl (rf_190_1 I (gsz hsz (by decide))) (by decide) ?_
      refine g_sipush (n := 34) X dX12_taken_31 (by decide +kernel) rfl ?_
      refine g_iload_n (n := 35) X 1 dX12_taken_34 rfl rfl rfl ?_
      refine g_iadd (n := 36) (z := a + 256) X dX12_taken_35 (by omega) rfl ?_
      obtain ⟨v10, hv10, rv10⟩ := gRd I (by decide) (gsz hsz (by decide)) (rs_RKIND (k := a + 256) (by omega)).1
      refine g_iald2 (n := 37) (v := v10) X (by decide) (gsz hsz (by decide)) lay_191 (by omega) (by omega) (by decide) dX12_taken_36 rfl hv10 ?_
      refine g_istore_n (n := 38) (L' := [(3, gJ v10), (0, gA n0 190), (1, gJ a), (2, gJ b)]) X dX12_taken_37 rfl (by decide) rfl rfl ?_
      refine g_iload_n (n := 39) X 3 dX12_taken_38 rfl rfl rfl ?_
      refine g_if_eq (n := 42) (tgt := 57) X dX12_taken_39 (by decide) (by omega) rfl (fun c11 => ?_) (fun c11 => ?_)
      · refine g_aload_n (n := 58) X 1 dX12_taken_57 rfl rfl rfl ?_
        refine g_iload_n (n := 59) X 2 dX12_taken_58 rfl rfl rfl ?_
        refine g_callVi (n := 62) (As := [gJ a]) (rest := []) (cs1 := 0) (ss1 := 0) X (s_X12_counted a (by omega) hsz I C ) okX12_counted kw_6_173 ⟨kw_6_175, kw_0_45⟩ ⟨rfl, rfl⟩ ⟨Nat.le_of_ble_eq_true rfl, Nat.le_of_ble_eq_true rfl⟩ rfl (by decide) (gsz hsz (by decide)) lay_190 rfl rfl (Nat.le_of_ble_eq_true rfl) ⟨Nat.le_of_ble_eq_true rfl, Nat.le_of_ble_eq_true rfl⟩ rfl rfl dX12_taken_59 rfl (fun v12 M13 P14 => ?_)
        obtain ⟨rfl, rv12, xv12⟩ := P14
        refine g_goto (tgt := 67) X dX12_taken_62 (by decide) ?_
        exact hq _ _ _ _ dX12_taken_67 ⟨rfl, by omega, by omega⟩
      · refine g_iload_n (n := 43) X 0 dX12_taken_42 rfl rfl rfl ?_
        refine g_iload_n (n := 44) X 3 dX12_taken_43 rfl rfl rfl ?_
        refine g_icmp_eq (n := 47) (tgt := 57) X dX12_taken_44 (by decide) (by omega) (by omega) rfl (fun c15 => ?_) (fun c15 => ?_)
        · refine g_aload_n (n := 58) X 1 dX12_taken_57 rfl rfl rfl ?_
          refine g_iload_n (n := 59) X 2 dX12_taken_58 rfl rfl rfl ?_
          refine g_callVi (n := 62) (As := [gJ a]) (rest := []) (cs1 := 0) (ss1 := 0) X (s_X12_counted a (by omega) hsz I C ) okX12_counted kw_6_173 ⟨kw_6_175, kw_0_45⟩ ⟨rfl, rfl⟩ ⟨Nat.le_of_ble_eq_true rfl, Nat.le_of_ble_eq_true rfl⟩ rfl (by decide) (gsz hsz (by decide)) lay_190 rfl rfl (Nat.le_of_ble_eq_true rfl) ⟨Nat.le_of_ble_eq_true rfl, Nat.le_of_ble_eq_true rfl⟩ rfl rfl dX12_taken_59 rfl (fun v16 M17 P18 => ?_)
          obtain ⟨rfl, rv16, xv16⟩ := P18
          refine g_goto (tgt := 67) X dX12_taken_62 (by decide) ?_
          exact hq _ _ _ _ dX12_taken_67 ⟨rfl, by omega, by omega⟩
        · refine g_iload_n (n := 48) X 3 dX12_taken_47 rfl rfl rfl ?_
          refine g_iconst (n := 49) X dX12_taken_48 rfl ?_
          refine g_icmp_ne (n := 52) (tgt := 65) X dX12_taken_49 (by decide) (by omega) (by omega) rfl (fun c19 => ?_) (fun c19 => ?_)
          · refine g_bipush (n := 67) X dX12_taken_65 (by decide +kernel) rfl ?_
            exact hq _ _ _ _ dX12_taken_67 ⟨rfl, by omega, by omega⟩
          · refine g_iload_n (n := 53) X 0 dX12_taken_52 rfl rfl rfl ?_
            refine g_iconst (n := 54) X dX12_taken_53 rfl ?_
            refine g_icmp_ne (n := 57) (tgt := 65) X dX12_taken_54 (by decide) (by omega) (by omega) rfl (fun c20 => ?_) (fun c20 => ?_)
            · refine g_bipush (n := 67) X dX12_taken_65 (by decide +kernel) rfl ?_
              exact hq _ _ _ _ dX12_taken_67 ⟨rfl, by omega, by omega⟩
            · refine g_aload_n (n := 58) X 1 dX12_taken_57 rfl rfl rfl ?_
              refine g_iload_n (n := 59) X 2 dX12_taken_58 rfl rfl rfl ?_
              refine g_callVi (n := 62) (As := [gJ a]) (rest := []) (cs1 := 0) (ss1 := 0) X (s_X12_counted a (by omega) hsz I C ) okX12_counted kw_6_173 ⟨kw_6_175, kw_0_45⟩ ⟨rfl, rfl⟩ ⟨Nat.le_of_ble_eq_true rfl, Nat.le_of_ble_eq_true rfl⟩ rfl (by decide) (gsz hsz (by decide)) lay_190 rfl rfl (Nat.le_of_ble_eq_true rfl) ⟨Nat.le_of_ble_eq_true rfl, Nat.le_of_ble_eq_true rfl⟩ rfl rfl dX12_taken_59 rfl (fun v21 M22 P23 => ?_)
              obtain ⟨rfl, rv21, xv21⟩ := P23
              refine g_goto (tgt := 67) X dX12_taken_62 (by decide) ?_
              exact hq _ _ _ _ dX12_taken_67 ⟨rfl, by omega, by omega⟩
    · refine g_iconst (n := 26) X dX12_taken_25 rfl ?_
      exact hq _ _ _ _ dX12_taken_26 ⟨rfl, by omega, by omega⟩
theorem dX12_person_0 : decode cX12_person 0 = .ok (.iload_n 3, 1) := dc_29 (by decide +kernel)
theorem dX12_person_1 : decode cX12_person 1 = .ok (.invokestatic 68, 3) := dc_184 0 68 (by decide +kernel)
theorem dX12_person_4 : decode cX12_person 4 = .ok (.ifCond .eq 18, 3) := dc_153 0 18 18 (by decide +kernel)
theorem dX12_person_22 : decode cX12_person 22 = .ok (.iconst (-1), 1) := dc_2 (by decide +kernel)
theorem dX12_person_23 : decode cX12_person 23 = .ok (.ireturn, 1) := dc_172 (by decide +kernel)
theorem dX12_person_7 : decode cX12_person 7 = .ok (.iload 4, 2) := dc_21 4 (by decide +kernel)
theorem dX12_person_9 : decode cX12_person 9 = .ok (.iconst (-1), 1) := dc_2 (by decide +kernel)
theorem dX12_person_10 : decode cX12_person 10 = .ok (.if_icmp .eq 14, 3) := dc_159 0 14 14 (by decide +kernel)
theorem dX12_person_24 : decode cX12_person 24 = .ok (.iload 4, 2) := dc_21 4 (by decide +kernel)
theorem dX12_person_26 : decode cX12_person 26 = .ok (.iconst (-1), 1) := dc_2 (by decide +kernel)
theorem dX12_person_27 : decode cX12_person 27 = .ok (.if_icmp .eq 30, 3) := dc_159 0 30 30 (by decide +kernel)
theorem dX12_person_57 : decode cX12_person 57 = .ok (.iconst 1, 1) := dc_4 (by decide +kernel)
theorem dX12_person_58 : decode cX12_person 58 = .ok (.goto 4, 3) := dc_167 0 4 4 (by decide +kernel)
theorem dX12_person_62 : decode cX12_person 62 = .ok (.istore 6, 2) := dc_54 6 (by decide +kernel)
theorem dX12_person_64 : decode cX12_person 64 = .ok (.iload_n 1, 1) := dc_27 (by decide +kernel)
theorem dX12_person_65 : decode cX12_person 65 = .ok (.iconst 0, 1) := dc_3 (by decide +kernel)
theorem dX12_person_66 : decode cX12_person 66 = .ok (.iconst 1, 1) := dc_4 (by decide +kernel)
theorem dX12_person_67 : decode cX12_person 67 = .ok (.invokestatic 64, 3) := dc_184 0 64 (by decide +kernel)
theorem dX12_person_70 : decode cX12_person 70 = .ok (.ifCond .eq 35, 3) := dc_153 0 35 35 (by decide +kernel)
theorem dX12_person_105 : decode cX12_person 105 = .ok (.bipush (-2), 2) := dc_16 254 (-2) (by decide +kernel)
theorem dX12_person_107 : decode cX12_person 107 = .ok (.ireturn, 1) := dc_172 (by decide +kernel)
theorem dX12_person_73 : decode cX12_person 73 = .ok (.iload_n 2, 1) := dc_28 (by decide +kernel)
theorem dX12_person_74 : decode cX12_person 74 = .ok (.sipush (-3000), 3) := dc_17 244 72 (-3000) (by decide +kernel)
theorem dX12_person_77 : decode cX12_person 77 = .ok (.aload_n 0, 1) := dc_42 (by decide +kernel)
theorem dX12_person_78 : decode cX12_person 78 = .ok (.getfield 7, 3) := dc_180 0 7 (by decide +kernel)
theorem dX12_person_81 : decode cX12_person 81 = .ok (.iconst 0, 1) := dc_3 (by decide +kernel)
theorem dX12_person_82 : decode cX12_person 82 = .ok (.iaload, 1) := dc_46 (by decide +kernel)
theorem dX12_person_83 : decode cX12_person 83 = .ok (.invokestatic 64, 3) := dc_184 0 64 (by decide +kernel)
theorem dX12_person_86 : decode cX12_person 86 = .ok (.ifCond .eq 19, 3) := dc_153 0 19 19 (by decide +kernel)
theorem dX12_person_89 : decode cX12_person 89 = .ok (.iload 6, 2) := dc_21 6 (by decide +kernel)
theorem dX12_person_91 : decode cX12_person 91 = .ok (.ifCond .eq 14, 3) := dc_153 0 14 14 (by decide +kernel)
theorem dX12_person_94 : decode cX12_person 94 = .ok (.iload 5, 2) := dc_21 5 (by decide +kernel)
theorem dX12_person_96 : decode cX12_person 96 = .ok (.iconst 0, 1) := dc_3 (by decide +kernel)
theorem dX12_person_97 : decode cX12_person 97 = .ok (.bipush 9, 2) := dc_16 9 9 (by decide +kernel)
theorem dX12_person_99 : decode cX12_person 99 = .ok (.invokestatic 64, 3) := dc_184 0 64 (by decide +kernel)
theorem dX12_person_102 : decode cX12_person 102 = .ok (.ifCond .ne 6, 3) := dc_154 0 6 6 (by decide +kernel)
theorem dX12_person_108 : decode cX12_person 108 = .ok (.aload_n 0, 1) := dc_42 (by decide +kernel)
theorem dX12_person_109 : decode cX12_person 109 = .ok (.getfield 7, 3) := dc_180 0 7 (by decide +kernel)
theorem dX12_person_112 : decode cX12_person 112 = .ok (.iconst 1, 1) := dc_4 (by decide +kernel)
theorem dX12_person_113 : decode cX12_person 113 = .ok (.iaload, 1) := dc_46 (by decide +kernel)
theorem dX12_person_114 : decode cX12_person 114 = .ok (.bipush 16, 2) := dc_16 16 16 (by decide +kernel)
theorem dX12_person_116 : decode cX12_person 116 = .ok (.if_icmp .ne 6, 3) := dc_160 0 6 6 (by decide +kernel)
theorem dX12_person_122 : decode cX12_person 122 = .ok (.aload_n 0, 1) := dc_42 (by decide +kernel)
theorem dX12_person_123 : decode cX12_person 123 = .ok (.getfield 7, 3) := dc_180 0 7 (by decide +kernel)
theorem dX12_person_126 : decode cX12_person 126 = .ok (.iconst 1, 1) := dc_4 (by decide +kernel)
theorem dX12_person_127 : decode cX12_person 127 = .ok (.iaload, 1) := dc_46 (by decide +kernel)
theorem dX12_person_128 : decode cX12_person 128 = .ok (.istore 7, 2) := dc_54 7 (by decide +kernel)
theorem dX12_person_130 : decode cX12_person 130 = .ok (.aload_n 0, 1) := dc_42 (by decide +kernel)
theorem dX12_person_131 : decode cX12_person 131 = .ok (.getfield 7, 3) := dc_180 0 7 (by decide +kernel)
theorem dX12_person_134 : decode cX12_person 134 = .ok (.bipush 80, 2) := dc_16 80 80 (by decide +kernel)
theorem dX12_person_136 : decode cX12_person 136 = .ok (.iload 7, 2) := dc_21 7 (by decide +kernel)
theorem dX12_person_138 : decode cX12_person 138 = .ok (.iadd, 1) := dc_96 (by decide +kernel)
theorem dX12_person_139 : decode cX12_person 139 = .ok (.iload_n 1, 1) := dc_27 (by decide +kernel)
theorem dX12_person_140 : decode cX12_person 140 = .ok (.iastore, 1) := dc_79 (by decide +kernel)
theorem dX12_person_141 : decode cX12_person 141 = .ok (.aload_n 0, 1) := dc_42 (by decide +kernel)
theorem dX12_person_142 : decode cX12_person 142 = .ok (.getfield 7, 3) := dc_180 0 7 (by decide +kernel)
theorem dX12_person_145 : decode cX12_person 145 = .ok (.bipush 96, 2) := dc_16 96 96 (by decide +kernel)
theorem dX12_person_147 : decode cX12_person 147 = .ok (.iload 7, 2) := dc_21 7 (by decide +kernel)
theorem dX12_person_149 : decode cX12_person 149 = .ok (.iadd, 1) := dc_96 (by decide +kernel)
theorem dX12_person_150 : decode cX12_person 150 = .ok (.iload_n 2, 1) := dc_28 (by decide +kernel)
theorem dX12_person_151 : decode cX12_person 151 = .ok (.iastore, 1) := dc_79 (by decide +kernel)
theorem dX12_person_152 : decode cX12_person 152 = .ok (.aload_n 0, 1) := dc_42 (by decide +kernel)
theorem dX12_person_153 : decode cX12_person 153 = .ok (.getfield 7, 3) := dc_180 0 7 (by decide +kernel)
theorem dX12_person_156 : decode cX12_person 156 = .ok (.bipush 112, 2) := dc_16 112 112 (by decide +kernel)
theorem dX12_person_158 : decode cX12_person 158 = .ok (.iload 7, 2) := dc_21 7 (by decide +kernel)
theorem dX12_person_160 : decode cX12_person 160 = .ok (.iadd, 1) := dc_96 (by decide +kernel)
theorem dX12_person_161 : decode cX12_person 161 = .ok (.iload_n 3, 1) := dc_29 (by decide +kernel)
theorem dX12_person_162 : decode cX12_person 162 = .ok (.iastore, 1) := dc_79 (by decide +kernel)
theorem dX12_person_163 : decode cX12_person 163 = .ok (.aload_n 0, 1) := dc_42 (by decide +kernel)
theorem dX12_person_164 : decode cX12_person 164 = .ok (.getfield 7, 3) := dc_180 0 7 (by decide +kernel)
theorem dX12_person_167 : decode cX12_person 167 = .ok (.sipush 128, 3) := dc_17 0 128 128 (by decide +kernel)
theorem dX12_person_170 : decode cX12_person 170 = .ok (.iload 7, 2) := dc_21 7 (by decide +kernel)
theorem dX12_person_172 : decode cX12_person 172 = .ok (.iadd, 1) := dc_96 (by decide +kernel)
theorem dX12_person_173 : decode cX12_person 173 = .ok (.iload 4, 2) := dc_21 4 (by decide +kernel)
theorem dX12_person_175 : decode cX12_person 175 = .ok (.iastore, 1) := dc_79 (by decide +kernel)
theorem dX12_person_176 : decode cX12_person 176 = .ok (.aload_n 0, 1) := dc_42 (by decide +kernel)
theorem dX12_person_177 : decode cX12_person 177 = .ok (.getfield 7, 3) := dc_180 0 7 (by decide +kernel)
theorem dX12_person_180 : decode cX12_person 180 = .ok (.sipush 144, 3) := dc_17 0 144 144 (by decide +kernel)
theorem dX12_person_183 : decode cX12_person 183 = .ok (.iload 7, 2) := dc_21 7 (by decide +kernel)
theorem dX12_person_185 : decode cX12_person 185 = .ok (.iadd, 1) := dc_96 (by decide +kernel)
theorem dX12_person_186 : decode cX12_person 186 = .ok (.iload 5, 2) := dc_21 5 (by decide +kernel)
theorem dX12_person_188 : decode cX12_person 188 = .ok (.iastore, 1) := dc_79 (by decide +kernel)
theorem dX12_person_189 : decode cX12_person 189 = .ok (.aload_n 0, 1) := dc_42 (by decide +kernel)
theorem dX12_person_190 : decode cX12_person 190 = .ok (.getfield 7, 3) := dc_180 0 7 (by decide +kernel)
theorem dX12_person_193 : decode cX12_person 193 = .ok (.sipush 160, 3) := dc_17 0 160 160 (by decide +kernel)
theorem dX12_person_196 : decode cX12_person 196 = .ok (.iload 7, 2) := dc_21 7 (by decide +kernel)
theorem dX12_person_198 : decode cX12_person 198 = .ok (.iadd, 1) := dc_96 (by decide +kernel)
theorem dX12_person_199 : decode cX12_person 199 = .ok (.iload_n 3, 1) := dc_29 (by decide +kernel)
theorem dX12_person_200 : decode cX12_person 200 = .ok (.iastore, 1) := dc_79 (by decide +kernel)
theorem dX12_person_201 : decode cX12_person 201 = .ok (.aload_n 0, 1) := dc_42 (by decide +kernel)
theorem dX12_person_202 : decode cX12_person 202 = .ok (.getfield 7, 3) := dc_180 0 7 (by decide +kernel)
theorem dX12_person_205 : decode cX12_person 205 = .ok (.sipush 176, 3) := dc_17 0 176 176 (by decide +kernel)
theorem dX12_person_208 : decode cX12_person 208 = .ok (.iload 7, 2) := dc_21 7 (by decide +kernel)
theorem dX12_person_210 : decode cX12_person 210 = .ok (.iadd, 1) := dc_96 (by decide +kernel)
theorem dX12_person_211 : decode cX12_person 211 = .ok (.iconst 0, 1) := dc_3 (by decide +kernel)
theorem dX12_person_212 : decode cX12_person 212 = .ok (.iastore, 1) := dc_79 (by decide +kernel)
theorem dX12_person_213 : decode cX12_person 213 = .ok (.aload_n 0, 1) := dc_42 (by decide +kernel)
theorem dX12_person_214 : decode cX12_person 214 = .ok (.getfield 7, 3) := dc_180 0 7 (by decide +kernel)
theorem dX12_person_217 : decode cX12_person 217 = .ok (.sipush 192, 3) := dc_17 0 192 192 (by decide +kernel)
theorem dX12_person_220 : decode cX12_person 220 = .ok (.iload 7, 2) := dc_21 7 (by decide +kernel)
theorem dX12_person_222 : decode cX12_person 222 = .ok (.iadd, 1) := dc_96 (by decide +kernel)
theorem dX12_person_223 : decode cX12_person 223 = .ok (.iconst 0, 1) := dc_3 (by decide +kernel)
theorem dX12_person_224 : decode cX12_person 224 = .ok (.iastore, 1) := dc_79 (by decide +kernel)
theorem dX12_person_225 : decode cX12_person 225 = .ok (.aload_n 0, 1) := dc_42 (by decide +kernel)
theorem dX12_person_226 : decode cX12_person 226 = .ok (.getfield 7, 3) := dc_180 0 7 (by decide +kernel)
theorem dX12_person_229 : decode cX12_person 229 = .ok (.sipush 208, 3) := dc_17 0 208 208 (by decide +kernel)
theorem dX12_person_232 : decode cX12_person 232 = .ok (.iload 7, 2) := dc_21 7 (by decide +kernel)
theorem dX12_person_234 : decode cX12_person 234 = .ok (.iadd, 1) := dc_96 (by decide +kernel)
theorem dX12_person_235 : decode cX12_person 235 = .ok (.iconst (-1), 1) := dc_2 (by decide +kernel)
theorem dX12_person_236 : decode cX12_person 236 = .ok (.iastore, 1) := dc_79 (by decide +kernel)
theorem dX12_person_237 : decode cX12_person 237 = .ok (.aload_n 0, 1) := dc_42 (by decide +kernel)
theorem dX12_person_238 : decode cX12_person 238 = .ok (.getfield 7, 3) := dc_180 0 7 (by decide +kernel)
theorem dX12_person_241 : decode cX12_person 241 = .ok (.sipush 224, 3) := dc_17 0 224 224 (by decide +kernel)
theorem dX12_person_244 : decode cX12_person 244 = .ok (.iload 7, 2) := dc_21 7 (by decide +kernel)
theorem dX12_person_246 : decode cX12_person 246 = .ok (.iadd, 1) := dc_96 (by decide +kernel)
theorem dX12_person_247 : decode cX12_person 247 = .ok (.iconst (-1), 1) := dc_2 (by decide +kernel)
theorem dX12_person_248 : decode cX12_person 248 = .ok (.iastore, 1) := dc_79 (by decide +kernel)
theorem dX12_person_249 : decode cX12_person 249 = .ok (.aload_n 0, 1) := dc_42 (by decide +kernel)
theorem dX12_person_250 : decode cX12_person 250 = .ok (.getfield 7, 3) := dc_180 0 7 (by decide +kernel)
theorem dX12_person_253 : decode cX12_person 253 = .ok (.sipush 240, 3) := dc_17 0 240 240 (by decide +kernel)
theorem dX12_person_256 : decode cX12_person 256 = .ok (.iload 7, 2) := dc_21 7 (by decide +kernel)
theorem dX12_person_258 : decode cX12_person 258 = .ok (.iadd, 1) := dc_96 (by decide +kernel)
theorem dX12_person_259 : decode cX12_person 259 = .ok (.iconst (-1), 1) := dc_2 (by decide +kernel)
theorem dX12_person_260 : decode cX12_person 260 = .ok (.iastore, 1) := dc_79 (by decide +kernel)
theorem dX12_person_261 : decode cX12_person 261 = .ok (.aload_n 0, 1) := dc_42 (by decide +kernel)
theorem dX12_person_262 : decode cX12_person 262 = .ok (.getfield 7, 3) := dc_180 0 7 (by decide +kernel)
theorem dX12_person_265 : decode cX12_person 265 = .ok (.iconst 1, 1) := dc_4 (by decide +kernel)
theorem dX12_person_266 : decode cX12_person 266 = .ok (.dup2, 1) := dc_92 (by decide +kernel)
theorem dX12_person_267 : decode cX12_person 267 = .ok (.iaload, 1) := dc_46 (by decide +kernel)
theorem dX12_person_268 : decode cX12_person 268 = .ok (.iconst 1, 1) := dc_4 (by decide +kernel)
theorem dX12_person_269 : decode cX12_person 269 = .ok (.iadd, 1) := dc_96 (by decide +kernel)
theorem dX12_person_270 : decode cX12_person 270 = .ok (.iastore, 1) := dc_79 (by decide +kernel)
theorem dX12_person_271 : decode cX12_person 271 = .ok (.aload_n 0, 1) := dc_42 (by decide +kernel)
theorem dX12_person_272 : decode cX12_person 272 = .ok (.dup, 1) := dc_89 (by decide +kernel)
theorem dX12_person_273 : decode cX12_person 273 = .ok (.getfield 44, 3) := dc_180 0 44 (by decide +kernel)
theorem kw_6_45 : (Jvm.Cond.fieldLink "ParishUnionModel" (44 : Nat) "ParishUnionModel" "stamp" "I") ∈ gT := gT_of (tb_6 _ (List.mem_of_getElem? (i := 45) rfl)) rfl
theorem rc_190_19 : gRg 190 19 = (-2147483648, 2147483647) ∧ gCr 190 19 = false ∧ gG 190 19 = 69 := by decide +kernel
theorem dX12_person_276 : decode cX12_person 276 = .ok (.iconst 1, 1) := dc_4 (by decide +kernel)
theorem dX12_person_277 : decode cX12_person 277 = .ok (.iadd, 1) := dc_96 (by decide +kernel)
theorem dX12_person_278 : decode cX12_person 278 = .ok (.putfield 44, 3) := dc_181 0 44 (by decide +kernel)
theorem dX12_person_281 : decode cX12_person 281 = .ok (.iload 7, 2) := dc_21 7 (by decide +kernel)
theorem dX12_person_283 : decode cX12_person 283 = .ok (.ireturn, 1) := dc_172 (by decide +kernel)
theorem dX12_person_119 : decode cX12_person 119 = .ok (.bipush (-4), 2) := dc_16 252 (-4) (by decide +kernel)
theorem dX12_person_121 : decode cX12_person 121 = .ok (.ireturn, 1) := dc_172 (by decide +kernel)
theorem dX12_person_13 : decode cX12_person 13 = .ok (.aload_n 0, 1) := dc_42 (by decide +kernel)
theorem dX12_person_14 : decode cX12_person 14 = .ok (.iload 4, 2) := dc_21 4 (by decide +kernel)
theorem dX12_person_16 : decode cX12_person 16 = .ok (.invokevirtual 76, 3) := dc_182 0 76 (by decide +kernel)
theorem dX12_person_19 : decode cX12_person 19 = .ok (.ifCond .ne 5, 3) := dc_154 0 5 5 (by decide +kernel)
theorem dX12_person_30 : decode cX12_person 30 = .ok (.aload_n 0, 1) := dc_42 (by decide +kernel)
theorem dX12_person_31 : decode cX12_person 31 = .ok (.getfield 7, 3) := dc_180 0 7 (by decide +kernel)
theorem dX12_person_34 : decode cX12_person 34 = .ok (.bipush 80, 2) := dc_16 80 80 (by decide +kernel)
theorem dX12_person_36 : decode cX12_person 36 = .ok (.iload 4, 2) := dc_21 4 (by decide +kernel)
theorem dX12_person_38 : decode cX12_person 38 = .ok (.iadd, 1) := dc_96 (by decide +kernel)
theorem dX12_person_39 : decode cX12_person 39 = .ok (.iaload, 1) := dc_46 (by decide +kernel)
theorem dX12_person_40 : decode cX12_person 40 = .ok (.ifCond .ne 21, 3) := dc_154 0 21 21 (by decide +kernel)
theorem dX12_person_61 : decode cX12_person 61 = .ok (.iconst 0, 1) := dc_3 (by decide +kernel)
theorem dX12_person_43 : decode cX12_person 43 = .ok (.aload_n 0, 1) := dc_42 (by decide +kernel)
theorem dX12_person_44 : decode cX12_person 44 = .ok (.getfield 7, 3) := dc_180 0 7 (by decide +kernel)
theorem dX12_person_47 : decode cX12_person 47 = .ok (.bipush 96, 2) := dc_16 96 96 (by decide +kernel)
theorem dX12_person_49 : decode cX12_person 49 = .ok (.iload 4, 2) := dc_21 4 (by decide +kernel)
theorem dX12_person_51 : decode cX12_person 51 = .ok (.iadd, 1) := dc_96 (by decide +kernel)
theorem dX12_person_52 : decode cX12_person 52 = .ok (.iaload, 1) := dc_46 (by decide +kernel)
theorem dX12_person_53 : decode cX12_person 53 = .ok (.iload_n 2, 1) := dc_28 (by decide +kernel)
theorem dX12_person_54 : decode cX12_person 54 = .ok (.if_icmp .ge 7, 3) := dc_162 0 7 7 (by decide +kernel)
abbrev R_X12_person : Room := { frames := 2, cells := 0, slots := 0, locals := 43 }
set_option maxRecDepth 100000 in
set_option maxHeartbeats 4000000 in
theorem s_X12_person {l : Launch} {n0 : Nat} {D : va_G} {cA : Nat → ClassId} {M : gM} (a : Int) (r_a : -2147483648 ≤ a ∧ a ≤ 2147483647) (b : Int) (r_b : -2147483648 ≤ b ∧ b ≤ 2147483647) (c : Int) (r_c : -2147483648 ≤ c ∧ c ≤ 2147483647) (d : Int) (r_d : -2147483648 ≤ d ∧ d ≤ 2147483647) (f : Int) (r_f : -2147483648 ≤ f ∧ f ≤ 2147483647) {sz : Nat} (hsz : 206 ≤ sz) (I : gI sz M) (C : gC sz M) (W : gW 191 M)  : Met l yX12_person (gWsOf yX12_person cX12_person 8 (Option.some Jvm.ClassFile.FieldType.int)) R_X12_person (gPc n0 D cA [gA n0 190, gJ a, gJ b, gJ c, gJ d, gJ f] M sz) (gQi n0 D cA sz (fun z M1 => (-4 ≤ z ∧ z ≤ 15) ∧ gI sz M1 ∧ gC sz M1 ∧ gFr 590297499277285392384 M M1 ∧ (gW 191 M1 ∧ (((((¬ (0 ≤ c ∧ c ≤ 5) ∨ (¬ d = -1 ∧ ¬ (0 ≤ d ∧ d < M 191 1))) ∧ z = -1) ∨ (¬ (¬ (0 ≤ c ∧ c ≤ 5) ∨ (¬ d = -1 ∧ ¬ (0 ≤ d ∧ d < M 191 1))) ∧ (¬ (0 ≤ a ∧ a ≤ 1) ∨ ¬ (-3000 ≤ b ∧ b ≤ M 191 0) ∨ ¬ (0 ≤ f ∧ f ≤ 9) ∨ (¬ d = -1 ∧ (¬ M 191 (d + 80) = 0 ∨ b ≤ M 191 (d + 96)))) ∧ z = -2) ∨ (¬ (¬ (0 ≤ c ∧ c ≤ 5) ∨ (¬ d = -1 ∧ ¬ (0 ≤ d ∧ d < M 191 1))) ∧ ¬ (¬ (0 ≤ a ∧ a ≤ 1) ∨ ¬ (-3000 ≤ b ∧ b ≤ M 191 0) ∨ ¬ (0 ≤ f ∧ f ≤ 9) ∨ (¬ d = -1 ∧ (¬ M 191 (d + 80) = 0 ∨ b ≤ M 191 (d + 96)))) ∧ M 191 1 = 16 ∧ z = -4)) ∧ M1 191 1 = M 191 1 ∧ (∀ p : Int, 0 ≤ p → p < 16 → M1 191 (p + 80) = M 191 (p + 80)) ∧ (∀ p : Int, 0 ≤ p → p < 16 → M1 191 (p + 96) = M 191 (p + 96)) ∧ (∀ p : Int, 0 ≤ p → p < 16 → M1 191 (p + 2770) = M 191 (p + 2770))) ∨ ((¬ (¬ (0 ≤ c ∧ c ≤ 5) ∨ (¬ d = -1 ∧ ¬ (0 ≤ d ∧ d < M 191 1))) ∧ ¬ (¬ (0 ≤ a ∧ a ≤ 1) ∨ ¬ (-3000 ≤ b ∧ b ≤ M 191 0) ∨ ¬ (0 ≤ f ∧ f ≤ 9) ∨ (¬ d = -1 ∧ (¬ M 191 (d + 80) = 0 ∨ b ≤ M 191 (d + 96)))) ∧ M 191 1 < 16 ∧ z = M 191 1) ∧ M1 191 1 = M 191 1 + 1 ∧ (∀ p : Int, 0 ≤ p → p < 16 → ¬ p = M 191 1 → M1 191 (p + 80) = M 191 (p + 80)) ∧ (∀ p : Int, 0 ≤ p → p < 16 → ¬ p = M 191 1 → M1 191 (p + 96) = M 191 (p + 96)) ∧ (∀ p : Int, 0 ≤ p → p < 16 → ¬ p = M 191 1 → M1 191 (p + 2770) = M 191 (p + 2770)) ∧ M1 191 (M 191 1 + 80) = a ∧ M1 191 (M 191 1 + 96) = b))))) 0 0 (fun q => n0 ≤ q) := by
  refine gMetI [gA n0 190, gJ a, gJ b, gJ c, gJ d, gJ f] (by decide) (Nat.le_of_ble_eq_true rfl) ⟨rfl, rfl⟩ ?_
  intro p e s m args below meth cd Q X hq
  have X : gCx p s m args meth cd n0 D cA "ParishUnionModel" cX12_person 8 := X
  show G p l e R_X12_person s m args below meth cd n0 D cA 8 Q 0 0 M sz 0 [(0, gA n0 190), (1, gJ a), (2, gJ b), (3, gJ c), (4, gJ d), (5, gJ f)] []
  obtain ⟨v1, hv1, rv1⟩ := gRd I (by decide) (gsz hsz (by decide)) (rs_PERS (k := 1) (by omega)).1
  obtain ⟨v2, hv2, rv2⟩ := gRd I (by decide) (gsz hsz (by decide)) (rs_NOW (k := 0) (by omega)).1
  refine g_iload_n (n := 1) X 3 dX12_person_0 rfl rfl rfl ?_
  refine g_callSi (n := 4) (As := [gJ c]) (rest := []) (cs1 := 0) (ss1 := 0) X (s_X12_isParish c (by omega) hsz I C ) okX12_isParish kw_6_103 kw_6_104 ⟨rfl, rfl⟩ ⟨Nat.le_of_ble_eq_true rfl, Nat.le_of_ble_eq_true rfl⟩ rfl rfl (Nat.le_of_ble_eq_true rfl) ⟨Nat.le_of_ble_eq_true rfl, Nat.le_of_ble_eq_true rfl⟩ rfl rfl dX12_person_1 rfl (fun v3 M4 P5 => ?_)
  obtain ⟨rfl, rv3, xv3⟩ := P5
  refine g_if_eq (n := 7) (tgt := 22) X dX12_person_4 (by decide) (by omega) rfl (fun c6 => ?_) (fun c6 => ?_)
  · refine g_iconst (n := 23) X dX12_person_22 rfl ?_
    exact hq _ _ _ _ dX12_person_23 ⟨by omega, I, C, gFr.rf, ⟨W, Or.inl ⟨by omega, rfl, fun p h0 h1 => rfl, fun p h0 h1 => rfl, fun p h0 h1 => rfl⟩⟩⟩
  · refine g_iload (n := 9) X 4 dX12_person_7 rfl rfl ?_
    refine g_iconst (n := 10) X dX12_person_9 rfl ?_
    refine g_icmp_eq (n := 13) (tgt := 24) X dX12_person_10 (by decide) (by omega) (by omega) rfl (fun c7 => ?_) (fun c7 => ?_)
    · refine g_iload (n := 26) X 4 dX12_person_24 rfl rfl ?_
      refine g_iconst (n := 27) X dX12_person_26 rfl ?_
      refine g_icmp_eq (n := 30) (tgt := 57) X dX12_person_27 (by decide) (by omega) (by omega) rfl (fun c8 => ?_) (fun c8 => by exfalso; omega)
      refine g_iconst (n := 58) X dX12_person_57 rfl ?_
      refine g_goto (tgt := 62) X dX12_person_58 (by decide) ?_
      refine g_istore (n := 64) (L' := [(6, gJ 1), (0, gA n0 190), (1, gJ a), (2, gJ b), (3, gJ c), (4, gJ d), (5, gJ f)]) X dX12_person_62 (by decide) rfl rfl ?_
      refine g_iload_n (n := 65) X 2 dX12_person_64 rfl rfl rfl ?_
      refine g_iconst (n := 66) X dX12_person_65 rfl ?_
      refine g_iconst (n := 67) X dX12_person_66 rfl ?_
      refine g_callSi (n := 70) (As := [gJ a, gJ 0, gJ 1]) (rest := []) (cs1 := 0) (ss1 := 0) X (s_X12_in a (by omega) 0 (by omega) 1 (by omega) hsz I C ) okX12_in kw_6_106 kw_6_107 ⟨rfl, rfl⟩ ⟨Nat.le_of_ble_eq_true rfl, Nat.le_of_ble_eq_true rfl⟩ rfl rfl (Nat.le_of_ble_eq_true rfl) ⟨Nat.le_of_ble_eq_true rfl, Nat.le_of_ble_eq_true rfl⟩ rfl rfl dX12_person_67 rfl (fun v9 M10 P11 => ?_)
      obtain ⟨rfl, rv9, xv9⟩ := P11
      refine g_if_eq (n := 73) (tgt := 105) X dX12_person_70 (by decide) (by omega) rfl (fun c12 => ?_) (fun c12 => ?_)
      · refine g_bipush (n := 107) X dX12_person_105 (by decide +kernel) rfl ?_
        exact hq _ _ _ _ dX12_person_107 ⟨by omega, I, C, gFr.rf, ⟨W, Or.inl ⟨by omega, rfl, fun p h0 h1 => rfl, fun p h0 h1 => rfl, fun p h0 h1 => rfl⟩⟩⟩
      · refine g_iload_n (n := 74) X 3 dX12_person_73 rfl rfl rfl ?_
        refine g_sipush (n := 77) X dX12_person_74 (by decide +kernel) rfl ?_
        refine g_aload_n (n := 78) X 1 dX12_person_77 rfl rfl rfl ?_
        refine gg_12_1 (n := 81) (z := 191) X (by decide) (gsz hsz (by decide)) lay_190 kw_6_27 dX12_person_78 rfl (rf_190_1 I (gsz hsz (by decide))) (by decide) ?_
        refine g_iconst (n := 82) X dX12_person_81 rfl ?_
        refine g_iald2 (n := 83) (v := v2) X (by decide) (gsz hsz (by decide)) lay_191 (by omega) (by omega) (by decide) dX12_person_82 rfl hv2 ?_
        refine g_callSi (n := 86) (As := [gJ b, gJ (-3000), gJ v2]) (rest := []) (cs1 := 0) (ss1 := 0) X (s_X12_in b (by omega) (-3000) (by omega) v2 (by omega) hsz I C ) okX12_in kw_6_106 kw_6_107 ⟨rfl, rfl⟩ ⟨Nat.le_of_ble_eq_true rfl, Nat.le_of_ble_eq_true rfl⟩ rfl rfl (Nat.le_of_ble_eq_true rfl) ⟨Nat.le_of_ble_eq_true rfl, Nat.le_of_ble_eq_true rfl⟩ rfl rfl dX12_person_83 rfl (fun v13 M14 P15 => ?_)
        obtain ⟨rfl, rv13, xv13⟩ := P15
        refine g_if_eq (n := 89) (tgt := 105) X dX12_person_86 (by decide) (by omega) rfl (fun c16 => ?_) (fun c16 => ?_)
        · refine g_bipush (n := 107) X dX12_person_105 (by decide +kernel) rfl ?_
          exact hq _ _ _ _ dX12_person_107 ⟨by omega, I, C, gFr.rf, ⟨W, Or.inl ⟨by omega, rfl, fun p h0 h1 => rfl, fun p h0 h1 => rfl, fun p h0 h1 => rfl⟩⟩⟩
        · refine g_iload (n := 91) X 0 dX12_person_89 rfl rfl ?_
          refine g_if_eq (n := 94) (tgt := 105) X dX12_person_91 (by decide) (by omega) rfl (fun c17 => by exfalso; omega) (fun c17 => ?_)
          refine g_iload (n := 96) X 6 dX12_person_94 rfl rfl ?_
          refine g_iconst (n := 97) X dX12_person_96 rfl ?_
          refine g_bipush (n := 99) X dX12_person_97 (by decide +kernel) rfl ?_
          refine g_callSi (n := 102) (As := [gJ f, gJ 0, gJ 9]) (rest := []) (cs1 := 0) (ss1 := 0) X (s_X12_in f (by omega) 0 (by omega) 9 (by omega) hsz I C ) okX12_in kw_6_106 kw_6_107 ⟨rfl, rfl⟩ ⟨Nat.le_of_ble_eq_true rfl, Nat.le_of_ble_eq_true rfl⟩ rfl rfl (Nat.le_of_ble_eq_true rfl) ⟨Nat.le_of_ble_eq_true rfl, Nat.le_of_ble_eq_true rfl⟩ rfl rfl dX12_person_99 rfl (fun v18 M19 P20 => ?_)
          obtain ⟨rfl, rv18, xv18⟩ := P20
          refine g_if_ne (n := 105) (tgt := 108) X dX12_person_102 (by decide) (by omega) rfl (fun c21 => ?_) (fun c21 => ?_)
          · refine g_aload_n (n := 109) X 1 dX12_person_108 rfl rfl rfl ?_
            refine gg_12_1 (n := 112) (z := 191) X (by decide) (gsz hsz (by decide)) lay_190 kw_6_27 dX12_person_109 rfl (rf_190_1 I (gsz hsz (by decide))) (by decide) ?_
            refine g_iconst (n := 113) X dX12_person_112 rfl ?_
            refine g_iald2 (n := 114) (v := v1) X (by decide) (gsz hsz (by decide)) lay_191 (by omega) (by omega) (by decide) dX12_person_113 rfl hv1 ?_
            refine g_bipush (n := 116) X dX12_person_114 (by decide +kernel) rfl ?_
            refine g_icmp_ne (n := 119) (tgt := 122) X dX12_person_116 (by decide) (by omega) (by omega) rfl (fun c22 => ?_) (fun c22 => ?_)
            · refine g_aload_n (n := 123) X 1 dX12_person_122 rfl rfl rfl ?_
              refine gg_12_1 (n := 126) (z := 191) X (by decide) (gsz hsz (by decide)) lay_190 kw_6_27 dX12_person_123 rfl (rf_190_1 I (gsz hsz (by decide))) (by decide) ?_
              refine g_iconst (n := 127) X dX12_person_126 rfl ?_
              refine g_iald2 (n := 128) (v := v1) X (by decide) (gsz hsz (by decide)) lay_191 (by omega) (by omega) (by decide) dX12_person_127 rfl hv1 ?_
              refine g_istore (n := 130) (L' := [(7, gJ v1), (6, gJ 1), (0, gA n0 190), (1, gJ a), (2, gJ b), (3, gJ c), (4, gJ d), (5, gJ f)]) X dX12_person_128 (by decide) rfl rfl ?_
              refine g_aload_n (n := 131) X 2 dX12_person_130 rfl rfl rfl ?_
              refine gg_12_1 (n := 134) (z := 191) X (by decide) (gsz hsz (by decide)) lay_190 kw_6_27 dX12_person_131 rfl (rf_190_1 I (gsz hsz (by decide))) (by decide) ?_
              refine g_bipush (n := 136) X dX12_person_134 (by decide +kernel) rfl ?_
              refine g_iload (n := 138) X 0 dX12_person_136 rfl rfl ?_
              refine g_iadd (n := 139) (z := v1 + 80) X dX12_person_138 (by omega) rfl ?_
              refine g_iload_n (n := 140) X 3 dX12_person_139 rfl rfl rfl ?_
              refine g_iast (n := 141) X (by decide) (gsz hsz (by decide)) lay_191 (by omega) (by omega) (by decide) dX12_person_140 rfl ?_
              refine G.nm (fun M23 e24 => ?_)
              have IM23 : gI sz M23 := gI.set I (rs_SEX (k := v1 + 80) (by omega)).1 (by omega) e24
              have CM23 : gC sz M23 := gC.set C (rs_SEX (k := v1 + 80) (by omega)).2.1 e24
              refine g_aload_n (n := 142) X 2 dX12_person_141 rfl rfl rfl ?_
              refine gg_12_1 (n := 145) (z := 191) X (by decide) (gsz hsz (by decide)) lay_190 kw_6_27 dX12_person_142 rfl (rf_190_1 IM23 (gsz hsz (by decide))) (by decide) ?_
              refine g_bipush (n := 147) X dX12_person_145 (by decide +kernel) rfl ?_
              refine g_iload (n := 149) X 0 dX12_person_147 rfl rfl ?_
              refine g_iadd (n := 150) (z := v1 + 96) X dX12_person_149 (by omega) rfl ?_
              refine g_iload_n (n := 151) X 4 dX12_person_150 rfl rfl rfl ?_
              refine g_iast (n := 152) X (by decide) (gsz hsz (by decide)) lay_191 (by omega) (by omega) (by decide) dX12_person_151 rfl ?_
              refine G.nm (fun M25 e26 => ?_)
              have IM25 : gI sz M25 := gI.set IM23 (rs_BORN (k := v1 + 96) (by omega)).1 (by omega) e26
              have CM25 : gC sz M25 := gC.set CM23 (rs_BORN (k := v1 + 96) (by omega)).2.1 e26
              refine g_aload_n (n := 153) X 2 dX12_person_152 rfl rfl rfl ?_
              refine gg_12_1 (n := 156) (z := 191) X (by decide) (gsz hsz (by decide)) lay_190 kw_6_27 dX12_person_153 rfl (rf_190_1 IM25 (gsz hsz (by decide))) (by decide) ?_
              refine g_bipush (n := 158) X dX12_person_156 (by decide +kernel) rfl ?_
              refine g_iload (n := 160) X 0 dX12_person_158 rfl rfl ?_
              refine g_iadd (n := 161) (z := v1 + 112) X dX12_person_160 (by omega) rfl ?_
              refine g_iload_n (n := 162) X 5 dX12_person_161 rfl rfl rfl ?_
              refine g_iast (n := 163) X (by decide) (gsz hsz (by decide)) lay_191 (by omega) (by omega) (by decide) dX12_person_162 rfl ?_
              refine G.nm (fun M27 e28 => ?_)
              have IM27 : gI sz M27 := gI.set IM25 (rs_HOME (k := v1 + 112) (by omega)).1 (by omega) e28
              have CM27 : gC sz M27 := gC.set CM25 (rs_HOME (k := v1 + 112) (by omega)).2.1 e28
              refine g_aload_n (n := 164) X 2 dX12_person_163 rfl rfl rfl ?_
              refine gg_12_1 (n := 167) (z := 191) X (by decide) (gsz hsz (by decide)) lay_190 kw_6_27 dX12_person_164 rfl (rf_190_1 IM27 (gsz hsz (by decide))) (by decide) ?_
              refine g_sipush (n := 170) X dX12_person_167 (by decide +kernel) rfl ?_
              refine g_iload (n := 172) X 0 dX12_person_170 rfl rfl ?_
              refine g_iadd (n := 173) (z := v1 + 128) X dX12_person_172 (by omega) rfl ?_
              refine g_iload (n := 175) X 6 dX12_person_173 rfl rfl ?_
              refine g_iast (n := 176) X (by decide) (gsz hsz (by decide)) lay_191 (by omega) (by omega) (by decide) dX12_person_175 rfl ?_
              refine G.nm (fun M29 e30 => ?_)
              have IM29 : gI sz M29 := gI.set IM27 (rs_FATHER (k := v1 + 128) (by omega)).1 (by omega) e30
              have CM29 : gC sz M29 := gC.set CM27 (rs_FATHER (k := v1 + 128) (by omega)).2.1 e30
              refine g_aload_n (n := 177) X 2 dX12_person_176 rfl rfl rfl ?_
              refine gg_12_1 (n := 180) (z := 191) X (by decide) (gsz hsz (by decide)) lay_190 kw_6_27 dX12_person_177 rfl (rf_190_1 IM29 (gsz hsz (by decide))) (by decide) ?_
              refine g_sipush (n := 183) X dX12_person_180 (by decide +kernel) rfl ?_
              refine g_iload (n := 185) X 0 dX12_person_183 rfl rfl ?_
              refine g_iadd (n := 186) (z := v1 + 144) X dX12_person_185 (by omega) rfl ?_
              refine g_iload (n := 188) X 7 dX12_person_186 rfl rfl ?_
              refine g_iast (n := 189) X (by decide) (gsz hsz (by decide)) lay_191 (by omega) (by omega) (by decide) dX12_person_188 rfl ?_
              refine G.nm (fun M31 e32 => ?_)
              have IM31 : gI sz M31 := gI.set IM29 (rs_STRONG (k := v1 + 144) (by omega)).1 (by omega) e32
              have CM31 : gC sz M31 := gC.set CM29 (rs_STRONG (k := v1 + 144) (by omega)).2.1 e32
              refine g_aload_n (n := 190) X 2 dX12_person_189 rfl rfl rfl ?_
              refine gg_12_1 (n := 193) (z := 191) X (by decide) (gsz hsz (by decide)) lay_190 kw_6_27 dX12_person_190 rfl (rf_190_1 IM31 (gsz hsz (by decide))) (by decide) ?_
              refine g_sipush (n := 196) X dX12_person_193 (by decide +kernel) rfl ?_
              refine g_iload (n := 198) X 0 dX12_person_196 rfl rfl ?_
              refine g_iadd (n := 199) (z := v1 + 160) X dX12_person_198 (by omega) rfl ?_
              refine g_iload_n (n := 200) X 5 dX12_person_199 rfl rfl rfl ?_
              refine g_iast (n := 201) X (by decide) (gsz hsz (by decide)) lay_191 (by omega) (by omega) (by decide) dX12_person_200 rfl ?_
              refine G.nm (fun M33 e34 => ?_)
              have IM33 : gI sz M33 := gI.set IM31 (rs_AT (k := v1 + 160) (by omega)).1 (by omega) e34
              have CM33 : gC sz M33 := gC.set CM31 (rs_AT (k := v1 + 160) (by omega)).2.1 e34
              refine g_aload_n (n := 202) X 2 dX12_person_201 rfl rfl rfl ?_
              refine gg_12_1 (n := 205) (z := 191) X (by decide) (gsz hsz (by decide)) lay_190 kw_6_27 dX12_person_202 rfl (rf_190_1 IM33 (gsz hsz (by decide))) (by decide) ?_
              refine g_sipush (n := 208) X dX12_person_205 (by decide +kernel) rfl ?_
              refine g_iload (n := 210) X 0 dX12_person_208 rfl rfl ?_
              refine g_iadd (n := 211) (z := v1 + 176) X dX12_person_210 (by omega) rfl ?_
              refine g_iconst (n := 212) X dX12_person_211 rfl ?_
              refine g_iast (n := 213) X (by decide) (gsz hsz (by decide)) lay_191 (by omega) (by omega) (by decide) dX12_person_212 rfl ?_
              refine G.nm (fun M35 e36 => ?_)
              have IM35 : gI sz M35 := gI.set IM33 (rs_HUNGER (k := v1 + 176) (by omega)).1 (by omega) e36
              have CM35 : gC sz M35 := gC.set CM33 (rs_HUNGER (k := v1 + 176) (by omega)).2.1 e36
              refine g_aload_n (n := 214) X 2 dX12_person_213 rfl rfl rfl ?_
              refine gg_12_1 (n := 217) (z := 191) X (by decide) (gsz hsz (by decide)) lay_190 kw_6_27 dX12_person_214 rfl (rf_190_1 IM35 (gsz hsz (by decide))) (by decide) ?_
              refine g_sipush (n := 220) X dX12_person_217 (by decide +kernel) rfl ?_
              refine g_iload (n := 222) X 0 dX12_person_220 rfl rfl ?_
              refine g_iadd (n := 223) (z := v1 + 192) X dX12_person_222 (by omega) rfl ?_
              refine g_iconst (n := 224) X dX12_person_223 rfl ?_
              refine g_iast (n := 225) X (by decide) (gsz hsz (by decide)) lay_191 (by omega) (by omega) (by decide) dX12_person_224 rfl ?_
              refine G.nm (fun M37 e38 => ?_)
              have IM37 : gI sz M37 := gI.set IM35 (rs_HUNGER (k := v1 + 192) (by omega)).1 (by omega) e38
              have CM37 : gC sz M37 := gC.set CM35 (rs_HUNGER (k := v1 + 192) (by omega)).2.1 e38
              refine g_aload_n (n := 226) X 2 dX12_person_225 rfl rfl rfl ?_
              refine gg_12_1 (n := 229) (z := 191) X (by decide) (gsz hsz (by decide)) lay_190 kw_6_27 dX12_person_226 rfl (rf_190_1 IM37 (gsz hsz (by decide))) (by decide) ?_
              refine g_sipush (n := 232) X dX12_person_229 (by decide +kernel) rfl ?_
              refine g_iload (n := 234) X 0 dX12_person_232 rfl rfl ?_
              refine g_iadd (n := 235) (z := v1 + 208) X dX12_person_234 (by omega) rfl ?_
              refine g_iconst (n := 236) X dX12_person_235 rfl ?_
              refine g_iast (n := 237) X (by decide) (gsz hsz (by decide)) lay_191 (by omega) (by omega) (by decide) dX12_person_236 rfl ?_
              refine G.nm (fun M39 e40 => ?_)
              have IM39 : gI sz M39 := gI.set IM37 (rs_WARD (k := v1 + 208) (by omega)).1 (by omega) e40
              have CM39 : gC sz M39 := gC.set CM37 (rs_WARD (k := v1 + 208) (by omega)).2.1 e40
              refine g_aload_n (n := 238) X 2 dX12_person_237 rfl rfl rfl ?_
              refine gg_12_1 (n := 241) (z := 191) X (by decide) (gsz hsz (by decide)) lay_190 kw_6_27 dX12_person_238 rfl (rf_190_1 IM39 (gsz hsz (by decide))) (by decide) ?_
              refine g_sipush (n := 244) X dX12_person_241 (by decide +kernel) rfl ?_
              refine g_iload (n := 246) X 0 dX12_person_244 rfl rfl ?_
              refine g_iadd (n := 247) (z := v1 + 224) X dX12_person_246 (by omega) rfl ?_
              refine g_iconst (n := 248) X dX12_person_247 rfl ?_
              refine g_iast (n := 249) X (by decide) (gsz hsz (by decide)) lay_191 (by omega) (by omega) (by decide) dX12_person_248 rfl ?_
              refine G.nm (fun M41 e42 => ?_)
              have IM41 : gI sz M41 := gI.set IM39 (rs_MASTER (k := v1 + 224) (by omega)).1 (by omega) e42
              have CM41 : gC sz M41 := gC.set CM39 (rs_MASTER (k := v1 + 224) (by omega)).2.1 e42
              refine g_aload_n (n := 250) X 2 dX12_person_249 rfl rfl rfl ?_
              refine gg_12_1 (n := 253) (z := 191) X (by decide) (gsz hsz (by decide)) lay_190 kw_6_27 dX12_person_250 rfl (rf_190_1 IM41 (gsz hsz (by decide))) (by decide) ?_
              refine g_sipush (n := 256) X dX12_person_253 (by decide +kernel) rfl ?_
              refine g_iload (n := 258) X 0 dX12_person_256 rfl rfl ?_
              refine g_iadd (n := 259) (z := v1 + 240) X dX12_person_258 (by omega) rfl ?_
              refine g_iconst (n := 260) X dX12_person_259 rfl ?_
              refine g_iast (n := 261) X (by decide) (gsz hsz (by decide)) lay_191 (by omega) (by omega) (by decide) dX12_person_260 rfl ?_
              refine G.nm (fun M43 e44 => ?_)
              have IM43 : gI sz M43 := gI.set IM41 (rs_CAME (k := v1 + 240) (by omega)).1 (by omega) e44
              have CM43 : gC sz M43 := gC.set CM41 (rs_CAME (k := v1 + 240) (by omega)).2.1 e44
              refine g_aload_n (n := 262) X 2 dX12_person_261 rfl rfl rfl ?_
              refine gg_12_1 (n := 265) (z := 191) X (by decide) (gsz hsz (by decide)) lay_190 kw_6_27 dX12_person_262 rfl (rf_190_1 IM43 (gsz hsz (by decide))) (by decide) ?_
              refine g_iconst (n := 266) X dX12_person_265 rfl ?_
              refine g_dup2 (n := 267) X dX12_person_266 rfl rfl rfl ?_
              refine g_iald2 (n := 268) (v := v1) X (by decide) (gsz hsz (by decide)) lay_191 (by omega) (by omega) (by decide) dX12_person_267 rfl ((congrFun (congrFun e44 _) _).trans ((gset_ne (by omega)).trans ((congrFun (congrFun e42 _) _).trans ((gset_ne (by omega)).trans ((congrFun (congrFun e40 _) _).trans ((gset_ne (by omega)).trans ((congrFun (congrFun e38 _) _).trans ((gset_ne (by omega)).trans ((congrFun (congrFun e36 _) _).trans ((gset_ne (by omega)).trans ((congrFun (congrFun e34 _) _).trans ((gset_ne (by omega)).trans ((congrFun (congrFun e32 _) _).trans ((gset_ne (by omega)).trans ((congrFun (congrFun e30 _) _).trans ((gset_ne (by omega)).trans ((congrFun (congrFun e28 _) _).trans ((gset_ne (by omega)).trans ((congrFun (congrFun e26 _) _).trans ((gset_ne (by omega)).trans ((congrFun (congrFun e24 _) _).trans ((gset_ne (by omega)).trans hv1)))))))))))))))))))))) ?_
              refine g_iconst (n := 269) X dX12_person_268 rfl ?_
              refine g_iadd (n := 270) (z := v1 + 1) X dX12_person_269 (by omega) rfl ?_
              refine g_iast (n := 271) X (by decide) (gsz hsz (by decide)) lay_191 (by omega) (by omega) (by decide) dX12_person_270 rfl ?_
              refine G.nm (fun M45 e46 => ?_)
              have IM45 : gI sz M45 := gI.set IM43 (rs_PERS (k := 1) (by omega)).1 (by omega) e46
              have CM45 : gC sz M45 := gC.set CM43 (rs_PERS (k := 1) (by omega)).2.1 e46
              refine g_aload_n (n := 272) X 2 dX12_person_271 rfl rfl rfl ?_
              refine g_dup (n := 273) X dX12_person_272 rfl rfl ?_
              obtain ⟨v47, hv47, rv47⟩ := gRd IM45 (by decide) (gsz hsz (by decide)) rc_190_19.1
              refine gg_12_19 (n := 276) (z := v47) X (by decide) (gsz hsz (by decide)) lay_190 kw_6_45 dX12_person_273 rfl hv47 ?_
              refine g_iconst (n := 277) X dX12_person_276 rfl ?_
              refine g_iaddA (n := 278) X dX12_person_277 rfl (fun v48 rv48 xv48 => ?_)
              clear xv48
              refine gp_12_19 (n := 281) X (by decide) (gsz hsz (by decide)) lay_190 kw_6_45 dX12_person_278 rfl ?_
              refine G.nm (fun M49 e50 => ?_)
              have IM49 : gI sz M49 := gI.set IM45 rc_190_19.1 (by omega) e50
              have CM49 : gC sz M49 := gC.set CM45 rc_190_19.2.1 e50
              refine g_iload (n := 283) X 0 dX12_person_281 rfl rfl ?_
              have WR : gW 191 M45 := gW.person (p := v1) (f := d) W I hsz hv1 (by omega) ⟨by omega, fun h => by exfalso; omega⟩ ((congrFun (congrFun e46 _) _).trans (gset_eq _ _ _ _)) ((congrFun (congrFun e46 _) _).trans ((gset_ne (by omega)).trans ((congrFun (congrFun e44 _) _).trans ((gset_ne (by omega)).trans ((congrFun (congrFun e42 _) _).trans ((gset_ne (by omega)).trans ((congrFun (congrFun e40 _) _).trans ((gset_ne (by omega)).trans ((congrFun (congrFun e38 _) _).trans ((gset_ne (by omega)).trans ((congrFun (congrFun e36 _) _).trans ((gset_ne (by omega)).trans ((congrFun (congrFun e34 _) _).trans ((gset_ne (by omega)).trans ((congrFun (congrFun e32 _) _).trans ((gset_ne (by omega)).trans ((congrFun (congrFun e30 _) _).trans (gset_eq _ _ _ _)))))))))))))))))) (fun k hk g0 g1 => ((congrFun (congrFun e46 _) _).trans ((gset_ne (by unfold gWu at hk; omega)).trans ((congrFun (congrFun e44 _) _).trans ((gset_ne (by unfold gWu at hk; omega)).trans ((congrFun (congrFun e42 _) _).trans ((gset_ne (by unfold gWu at hk; omega)).trans ((congrFun (congrFun e40 _) _).trans ((gset_ne (by unfold gWu at hk; omega)).trans ((congrFun (congrFun e38 _) _).trans ((gset_ne (by unfold gWu at hk; omega)).trans ((congrFun (congrFun e36 _) _).trans ((gset_ne (by unfold gWu at hk; omega)).trans ((congrFun (congrFun e34 _) _).trans ((gset_ne (by unfold gWu at hk; omega)).trans ((congrFun (congrFun e32 _) _).trans ((gset_ne (by unfold gWu at hk; omega)).trans ((congrFun (congrFun e30 _) _).trans ((gset_ne (by unfold gWu at hk; omega)).trans ((congrFun (congrFun e28 _) _).trans ((gset_ne (by unfold gWu at hk; omega)).trans ((congrFun (congrFun e26 _) _).trans ((gset_ne (by unfold gWu at hk; omega)).trans ((congrFun (congrFun e24 _) _).trans ((gset_ne (by unfold gWu at hk; omega)).trans rfl)))))))))))))))))))))))))
              exact hq _ _ _ _ dX12_person_283 ⟨by omega, IM49, CM49, (gFr.s (gFr.s (gFr.s (gFr.s (gFr.s (gFr.s (gFr.s (gFr.s (gFr.s (gFr.s (gFr.s (gFr.s (gFr.s gFr.rf e24 (rs_SEX (k := v1 + 80) (by omega)).2.2 rfl) e26 (rs_BORN (k := v1 + 96) (by omega)).2.2 rfl) e28 (rs_HOME (k := v1 + 112) (by omega)).2.2 rfl) e30 (rs_FATHER (k := v1 + 128) (by omega)).2.2 rfl) e32 (rs_STRONG (k := v1 + 144) (by omega)).2.2 rfl) e34 (rs_AT (k := v1 + 160) (by omega)).2.2 rfl) e36 (rs_HUNGER (k := v1 + 176) (by omega)).2.2 rfl) e38 (rs_HUNGER (k := v1 + 192) (by omega)).2.2 rfl) e40 (rs_WARD (k := v1 + 208) (by omega)).2.2 rfl) e42 (rs_MASTER (k := v1 + 224) (by omega)).2.2 rfl) e44 (rs_CAME (k := v1 + 240) (by omega)).2.2 rfl) e46 (rs_PERS (k := 1) (by omega)).2.2 rfl) e50 rc_190_19.2.2 rfl), ⟨(gW.fr (S := 590295810358705651712) WR ⟨sz, hsz, IM45⟩ (gFr.s gFr.rf e50 rc_190_19.2.2 rfl) rfl), Or.inr ⟨⟨by omega, by omega, by omega, by omega⟩, (by have q := ((congrFun (congrFun e50 _) _).trans ((gset_ne (by omega)).trans ((congrFun (congrFun e46 _) _).trans (gset_eq _ _ _ _)))); omega), (fun p h0 h1 hp => ((congrFun (congrFun e50 _) _).trans ((gset_ne (by omega)).trans ((congrFun (congrFun e46 _) _).trans ((gset_ne (by omega)).trans ((congrFun (congrFun e44 _) _).trans ((gset_ne (by omega)).trans ((congrFun (congrFun e42 _) _).trans ((gset_ne (by omega)).trans ((congrFun (congrFun e40 _) _).trans ((gset_ne (by omega)).trans ((congrFun (congrFun e38 _) _).trans ((gset_ne (by omega)).trans ((congrFun (congrFun e36 _) _).trans ((gset_ne (by omega)).trans ((congrFun (congrFun e34 _) _).trans ((gset_ne (by omega)).trans ((congrFun (congrFun e32 _) _).trans ((gset_ne (by omega)).trans ((congrFun (congrFun e30 _) _).trans ((gset_ne (by omega)).trans ((congrFun (congrFun e28 _) _).trans ((gset_ne (by omega)).trans ((congrFun (congrFun e26 _) _).trans ((gset_ne (by omega)).trans ((congrFun (congrFun e24 _) _).trans ((gset_ne (by omega)).trans rfl))))))))))))))))))))))))))), (fun p h0 h1 hp => ((congrFun (congrFun e50 _) _).trans ((gset_ne (by omega)).trans ((congrFun (congrFun e46 _) _).trans ((gset_ne (by omega)).trans ((congrFun (congrFun e44 _) _).trans ((gset_ne (by omega)).trans ((congrFun (congrFun e42 _) _).trans ((gset_ne (by omega)).trans ((congrFun (congrFun e40 _) _).trans ((gset_ne (by omega)).trans ((congrFun (congrFun e38 _) _).trans ((gset_ne (by omega)).trans ((congrFun (congrFun e36 _) _).trans ((gset_ne (by omega)).trans ((congrFun (congrFun e34 _) _).trans ((gset_ne (by omega)).trans ((congrFun (congrFun e32 _) _).trans ((gset_ne (by omega)).trans ((congrFun (congrFun e30 _) _).trans ((gset_ne (by omega)).trans ((congrFun (congrFun e28 _) _).trans ((gset_ne (by omega)).trans ((congrFun (congrFun e26 _) _).trans ((gset_ne (by omega)).trans ((congrFun (congrFun e24 _) _).trans ((gset_ne (by omega)).trans rfl))))))))))))))))))))))))))), (fun p h0 h1 hp => ((congrFun (congrFun e50 _) _).trans ((gset_ne (by omega)).trans ((congrFun (congrFun e46 _) _).trans ((gset_ne (by omega)).trans ((congrFun (congrFun e44 _) _).trans ((gset_ne (by omega)).trans ((congrFun (congrFun e42 _) _).trans ((gset_ne (by omega)).trans ((congrFun (congrFun e40 _) _).trans ((gset_ne (by omega)).trans ((congrFun (congrFun e38 _) _).trans ((gset_ne (by omega)).trans ((congrFun (congrFun e36 _) _).trans ((gset_ne (by omega)).trans ((congrFun (congrFun e34 _) _).trans ((gset_ne (by omega)).trans ((congrFun (congrFun e32 _) _).trans ((gset_ne (by omega)).trans ((congrFun (congrFun e30 _) _).trans ((gset_ne (by omega)).trans ((congrFun (congrFun e28 _) _).trans ((gset_ne (by omega)).trans ((congrFun (congrFun e26 _) _).trans ((gset_ne (by omega)).trans ((congrFun (congrFun e24 _) _).trans ((gset_ne (by omega)).trans rfl))))))))))))))))))))))))))), (by rw [hv1]; exact ((congrFun (congrFun e50 _) _).trans ((gset_ne (by omega)).trans ((congrFun (congrFun e46 _) _).trans ((gset_ne (by omega)).trans ((congrFun (congrFun e44 _) _).trans ((gset_ne (by omega)).trans ((congrFun (congrFun e42 _) _).trans ((gset_ne (by omega)).trans ((congrFun (congrFun e40 _) _).trans ((gset_ne (by omega)).trans ((congrFun (congrFun e38 _) _).trans ((gset_ne (by omega)).trans ((congrFun (congrFun e36 _) _).trans ((gset_ne (by omega)).trans ((congrFun (congrFun e34 _) _).trans ((gset_ne (by omega)).trans ((congrFun (congrFun e32 _) _).trans ((gset_ne (by omega)).trans ((congrFun (congrFun e30 _) _).trans ((gset_ne (by omega)).trans ((congrFun (congrFun e28 _) _).trans ((gset_ne (by omega)).trans ((congrFun (congrFun e26 _) _).trans ((gset_ne (by omega)).trans ((congrFun (congrFun e24 _) _).trans (gset_eq _ _ _ _))))))))))))))))))))))))))), (by rw [hv1]; exact ((congrFun (congrFun e50 _) _).trans ((gset_ne (by omega)).trans ((congrFun (congrFun e46 _) _).trans ((gset_ne (by omega)).trans ((congrFun (congrFun e44 _) _).trans ((gset_ne (by omega)).trans ((congrFun (congrFun e42 _) _).trans ((gset_ne (by omega)).trans ((congrFun (congrFun e40 _) _).trans ((gset_ne (by omega)).trans ((congrFun (congrFun e38 _) _).trans ((gset_ne (by omega)).trans ((congrFun (congrFun e36 _) _).trans ((gset_ne (by omega)).trans ((congrFun (congrFun e34 _) _).trans ((gset_ne (by omega)).trans ((congrFun (congrFun e32 _) _).trans ((gset_ne (by omega)).trans ((congrFun (congrFun e30 _) _).trans ((gset_ne (by omega)).trans ((congrFun (congrFun e28 _) _).trans ((gset_ne (by omega)).trans ((congrFun (congrFun e26 _) _).trans (gset_eq _ _ _ _)))))))))))))))))))))))))⟩⟩⟩
            · refine g_bipush (n := 121) X dX12_person_119 (by decide +kernel) rfl ?_
              exact hq _ _ _ _ dX12_person_121 ⟨by omega, I, C, gFr.rf, ⟨W, Or.inl ⟨by omega, rfl, fun p h0 h1 => rfl, fun p h0 h1 => rfl, fun p h0 h1 => rfl⟩⟩⟩
          · refine g_bipush (n := 107) X dX12_person_105 (by decide +kernel) rfl ?_
            exact hq _ _ _ _ dX12_person_107 ⟨by omega, I, C, gFr.rf, ⟨W, Or.inl ⟨by omega, rfl, fun p h0 h1 => rfl, fun p h0 h1 => rfl, fun p h0 h1 => rfl⟩⟩⟩
    · refine g_aload_n (n := 14) X 0 dX12_person_13 rfl rfl rfl ?_
      refine g_iload (n := 16) X 4 dX12_person_14 rfl rfl ?_
      refine g_callVi (n := 19) (As := [gJ d]) (rest := []) (cs1 := 0) (ss1 := 0) X (s_X12_isPerson d (by omega) hsz I C ) okX12_isPerson kw_6_125 ⟨kw_6_127, kw_0_40⟩ ⟨rfl, rfl⟩ ⟨Nat.le_of_ble_eq_true rfl, Nat.le_of_ble_eq_true rfl⟩ rfl (by decide) (gsz hsz (by decide)) lay_190 rfl rfl (Nat.le_of_ble_eq_true rfl) ⟨Nat.le_of_ble_eq_true rfl, Nat.le_of_ble_eq_true rfl⟩ rfl rfl dX12_person_16 rfl (fun v51 M52 P53 => ?_)
      obtain ⟨rfl, rv51, xv51⟩ := P53
      refine g_if_ne (n := 22) (tgt := 24) X dX12_person_19 (by decide) (by omega) rfl (fun c54 => ?_) (fun c54 => ?_)
      · refine g_iload (n := 26) X 4 dX12_person_24 rfl rfl ?_
        refine g_iconst (n := 27) X dX12_person_26 rfl ?_
        refine g_icmp_eq (n := 30) (tgt := 57) X dX12_person_27 (by decide) (by omega) (by omega) rfl (fun c55 => by exfalso; omega) (fun c55 => ?_)
        refine g_aload_n (n := 31) X 0 dX12_person_30 rfl rfl rfl ?_
        refine gg_12_1 (n := 34) (z := 191) X (by decide) (gsz hsz (by decide)) lay_190 kw_6_27 dX12_person_31 rfl (rf_190_1 I (gsz hsz (by decide))) (by decide) ?_
        refine g_bipush (n := 36) X dX12_person_34 (by decide +kernel) rfl ?_
        refine g_iload (n := 38) X 4 dX12_person_36 rfl rfl ?_
        refine g_iadd (n := 39) (z := d + 80) X dX12_person_38 (by omega) rfl ?_
        obtain ⟨v56, hv56, rv56⟩ := gRd I (by decide) (gsz hsz (by decide)) (rs_SEX (k := d + 80) (by omega)).1
        refine g_iald2 (n := 40) (v := v56) X (by decide) (gsz hsz (by decide)) lay_191 (by omega) (by omega) (by decide) dX12_person_39 rfl hv56 ?_
        refine g_if_ne (n := 43) (tgt := 61) X dX12_person_40 (by decide) (by omega) rfl (fun c57 => ?_) (fun c57 => ?_)
        · refine g_iconst (n := 62) X dX12_person_61 rfl ?_
          refine g_istore (n := 64) (L' := [(6, gJ 0), (0, gA n0 190), (1, gJ a), (2, gJ b), (3, gJ c), (4, gJ d), (5, gJ f)]) X dX12_person_62 (by decide) rfl rfl ?_
          refine g_iload_n (n := 65) X 2 dX12_person_64 rfl rfl rfl ?_
          refine g_iconst (n := 66) X dX12_person_65 rfl ?_
          refine g_iconst (n := 67) X dX12_person_66 rfl ?_
          refine g_callSi (n := 70) (As := [gJ a, gJ 0, gJ 1]) (rest := []) (cs1 := 0) (ss1 := 0) X (s_X12_in a (by omega) 0 (by omega) 1 (by omega) hsz I C ) okX12_in kw_6_106 kw_6_107 ⟨rfl, rfl⟩ ⟨Nat.le_of_ble_eq_true rfl, Nat.le_of_ble_eq_true rfl⟩ rfl rfl (Nat.le_of_ble_eq_true rfl) ⟨Nat.le_of_ble_eq_true rfl, Nat.le_of_ble_eq_true rfl⟩ rfl rfl dX12_person_67 rfl (fun v58 M59 P60 => ?_)
          obtain ⟨rfl, rv58, xv58⟩ := P60
          refine g_if_eq (n := 73) (tgt := 105) X dX12_person_70 (by decide) (by omega) rfl (fun c61 => ?_) (fun c61 => ?_)
          · refine g_bipush (n := 107) X dX12_person_105 (by decide +kernel) rfl ?_
            exact hq _ _ _ _ dX12_person_107 ⟨by omega, I, C, gFr.rf, ⟨W, Or.inl ⟨by omega, rfl, fun p h0 h1 => rfl, fun p h0 h1 => rfl, fun p h0 h1 => rfl⟩⟩⟩
          · refine g_iload_n (n := 74) X 3 dX12_person_73 rfl rfl rfl ?_
            refine g_sipush (n := 77) X dX12_person_74 (by decide +kernel) rfl ?_
            refine g_aload_n (n := 78) X 1 dX12_person_77 rfl rfl rfl ?_
            refine gg_12_1 (n := 81) (z := 191) X (by decide) (gsz hsz (by decide)) lay_190 kw_6_27 dX12_person_78 rfl (rf_190_1 I (gsz hsz (by decide))) (by decide) ?_
            refine g_iconst (n := 82) X dX12_person_81 rfl ?_
            refine g_iald2 (n := 83) (v := v2) X (by decide) (gsz hsz (by decide)) lay_191 (by omega) (by omega) (by decide) dX12_person_82 rfl hv2 ?_
            refine g_callSi (n := 86) (As := [gJ b, gJ (-3000), gJ v2]) (rest := []) (cs1 := 0) (ss1 := 0) X (s_X12_in b (by omega) (-3000) (by omega) v2 (by omega) hsz I C ) okX12_in kw_6_106 kw_6_107 ⟨rfl, rfl⟩ ⟨Nat.le_of_ble_eq_true rfl, Nat.le_of_ble_eq_true rfl⟩ rfl rfl (Nat.le_of_ble_eq_true rfl) ⟨Nat.le_of_ble_eq_true rfl, Nat.le_of_ble_eq_true rfl⟩ rfl rfl dX12_person_83 rfl (fun v62 M63 P64 => ?_)
            obtain ⟨rfl, rv62, xv62⟩ := P64
            refine g_if_eq (n := 89) (tgt := 105) X dX12_person_86 (by decide) (by omega) rfl (fun c65 => ?_) (fun c65 => ?_)
            · refine g_bipush (n := 107) X dX12_person_105 (by decide +kernel) rfl ?_
              exact hq _ _ _ _ dX12_person_107 ⟨by omega, I, C, gFr.rf, ⟨W, Or.inl ⟨by omega, rfl, fun p h0 h1 => rfl, fun p h0 h1 => rfl, fun p h0 h1 => rfl⟩⟩⟩
            · refine g_iload (n := 91) X 0 dX12_person_89 rfl rfl ?_
              refine g_if_eq (n := 94) (tgt := 105) X dX12_person_91 (by decide) (by omega) rfl (fun c66 => ?_) (fun c66 => by exfalso; omega)
              refine g_bipush (n := 107) X dX12_person_105 (by decide +kernel) rfl ?_
              exact hq _ _ _ _ dX12_person_107 ⟨by omega, I, C, gFr.rf, ⟨W, Or.inl ⟨by omega, rfl, fun p h0 h1 => rfl, fun p h0 h1 => rfl, fun p h0 h1 => rfl⟩⟩⟩
        · refine g_aload_n (n := 44) X 0 dX12_person_43 rfl rfl rfl ?_
          refine gg_12_1 (n := 47) (z := 191) X (by decide) (gsz hsz (by decide)) lay_190 kw_6_27 dX12_person_44 rfl (rf_190_1 I (gsz hsz (by decide))) (by decide) ?_
          refine g_bipush (n := 49) X dX12_person_47 (by decide +kernel) rfl ?_
          refine g_iload (n := 51) X 4 dX12_person_49 rfl rfl ?_
          refine g_iadd (n := 52) (z := d + 96) X dX12_person_51 (by omega) rfl ?_
          obtain ⟨v67, hv67, rv67⟩ := gRd I (by decide) (gsz hsz (by decide)) (rs_BORN (k := d + 96) (by omega)).1
          refine g_iald2 (n := 53) (v := v67) X (by decide) (gsz hsz (by decide)) lay_191 (by omega) (by omega) (by decide) dX12_person_52 rfl hv67 ?_
          refine g_iload_n (n := 54) X 2 dX12_person_53 rfl rfl rfl ?_
          refine g_icmp_ge (n := 57) (tgt := 61) X dX12_person_54 (by decide) (by omega) (by omega) rfl (fun c68 => ?_) (fun c68 => ?_)
          · refine g_iconst (n := 62) X dX12_person_61 rfl ?_
            refine g_istore (n := 64) (L' := [(6, gJ 0), (0, gA n0 190), (1, gJ a), (2, gJ b), (3, gJ c), (4, gJ d), (5, gJ f)]) X dX12_person_62 (by decide) rfl rfl ?_
            refine g_iload_n (n := 65) X 2 dX12_person_64 rfl rfl rfl ?_
            refine g_iconst (n := 66) X dX12_person_65 rfl ?_
            refine g_iconst (n := 67) X dX12_person_66 rfl ?_
            refine g_callSi (n := 70) (As := [gJ a, gJ 0, gJ 1]) (rest := []) (cs1 := 0) (ss1 := 0) X (s_X12_in a (by omega) 0 (by omega) 1 (by omega) hsz I C ) okX12_in kw_6_106 kw_6_107 ⟨rfl, rfl⟩ ⟨Nat.le_of_ble_eq_true rfl, Nat.le_of_ble_eq_true rfl⟩ rfl rfl (Nat.le_of_ble_eq_true rfl) ⟨Nat.le_of_ble_eq_true rfl, Nat.le_of_ble_eq_true rfl⟩ rfl rfl dX12_person_67 rfl (fun v69 M70 P71 => ?_)
            obtain ⟨rfl, rv69, xv69⟩ := P71
            refine g_if_eq (n := 73) (tgt := 105) X dX12_person_70 (by decide) (by omega) rfl (fun c72 => ?_) (fun c72 => ?_)
            · refine g_bipush (n := 107) X dX12_person_105 (by decide +kernel) rfl ?_
              exact hq _ _ _ _ dX12_person_107 ⟨by omega, I, C, gFr.rf, ⟨W, Or.inl ⟨by omega, rfl, fun p h0 h1 => rfl, fun p h0 h1 => rfl, fun p h0 h1 => rfl⟩⟩⟩
            · refine g_iload_n (n := 74) X 3 dX12_person_73 rfl rfl rfl ?_
              refine g_sipush (n := 77) X dX12_person_74 (by decide +kernel) rfl ?_
              refine g_aload_n (n := 78) X 1 dX12_person_77 rfl rfl rfl ?_
              refine gg_12_1 (n := 81) (z := 191) X (by decide) (gsz hsz (by decide)) lay_190 kw_6_27 dX12_person_78 rfl (rf_190_1 I (gsz hsz (by decide))) (by decide) ?_
              refine g_iconst (n := 82) X dX12_person_81 rfl ?_
              refine g_iald2 (n := 83) (v := v2) X (by decide) (gsz hsz (by decide)) lay_191 (by omega) (by omega) (by decide) dX12_person_82 rfl hv2 ?_
              refine g_callSi (n := 86) (As := [gJ b, gJ (-3000), gJ v2]) (rest := []) (cs1 := 0) (ss1 := 0) X (s_X12_in b (by omega) (-3000) (by omega) v2 (by omega) hsz I C ) okX12_in kw_6_106 kw_6_107 ⟨rfl, rfl⟩ ⟨Nat.le_of_ble_eq_true rfl, Nat.le_of_ble_eq_true rfl⟩ rfl rfl (Nat.le_of_ble_eq_true rfl) ⟨Nat.le_of_ble_eq_true rfl, Nat.le_of_ble_eq_true rfl⟩ rfl rfl dX12_person_83 rfl (fun v73 M74 P75 => ?_)
              obtain ⟨rfl, rv73, xv73⟩ := P75
              refine g_if_eq (n := 89) (tgt := 105) X dX12_person_86 (by decide) (by omega) rfl (fun c76 => ?_) (fun c76 => ?_)
              · refine g_bipush (n := 107) X dX12_person_105 (by decide +kernel) rfl ?_
                exact hq _ _ _ _ dX12_person_107 ⟨by omega, I, C, gFr.rf, ⟨W, Or.inl ⟨by omega, rfl, fun p h0 h1 => rfl, fun p h0 h1 => rfl, fun p h0 h1 => rfl⟩⟩⟩
              · refine g_iload (n := 91) X 0 dX12_person_89 rfl rfl ?_
                refine g_if_eq (n := 94) (tgt := 105) X dX12_person_91 (by decide) (by omega) rfl (fun c77 => ?_) (fun c77 => by exfalso; omega)
                refine g_bipush (n := 107) X dX12_person_105 (by decide +kernel) rfl ?_
                exact hq _ _ _ _ dX12_person_107 ⟨by omega, I, C, gFr.rf, ⟨W, Or.inl ⟨by omega, rfl, fun p h0 h1 => rfl, fun p h0 h1 => rfl, fun p h0 h1 => rfl⟩⟩⟩
          · refine g_iconst (n := 58) X dX12_person_57 rfl ?_
            refine g_goto (tgt := 62) X dX12_person_58 (by decide) ?_
            refine g_istore (n := 64) (L' := [(6, gJ 1), (0, gA n0 190), (1, gJ a), (2, gJ b), (3, gJ c), (4, gJ d), (5, gJ f)]) X dX12_person_62 (by decide) rfl rfl ?_
            refine g_iload_n (n := 65) X 2 dX12_person_64 rfl rfl rfl ?_
            refine g_iconst (n := 66) X dX12_person_65 rfl ?_
            refine g_iconst (n := 67) X dX12_person_66 rfl ?_
            refine g_callSi (n := 70) (As := [gJ a, gJ 0, gJ 1]) (rest := []) (cs1 := 0) (ss1 := 0) X (s_X12_in a (by omega) 0 (by omega) 1 (by omega) hsz I C ) okX12_in kw_6_106 kw_6_107 ⟨rfl, rfl⟩ ⟨Nat.le_of_ble_eq_true rfl, Nat.le_of_ble_eq_true rfl⟩ rfl rfl (Nat.le_of_ble_eq_true rfl) ⟨Nat.le_of_ble_eq_true rfl, Nat.le_of_ble_eq_true rfl⟩ rfl rfl dX12_person_67 rfl (fun v78 M79 P80 => ?_)
            obtain ⟨rfl, rv78, xv78⟩ := P80
            refine g_if_eq (n := 73) (tgt := 105) X dX12_person_70 (by decide) (by omega) rfl (fun c81 => ?_) (fun c81 => ?_)
            · refine g_bipush (n := 107) X dX12_person_105 (by decide +kernel) rfl ?_
              exact hq _ _ _ _ dX12_person_107 ⟨by omega, I, C, gFr.rf, ⟨W, Or.inl ⟨by omega, rfl, fun p h0 h1 => rfl, fun p h0 h1 => rfl, fun p h0 h1 => rfl⟩⟩⟩
            · refine g_iload_n (n := 74) X 3 dX12_person_73 rfl rfl rfl ?_
              refine g_sipush (n := 77) X dX12_person_74 (by decide +kernel) rfl ?_
              refine g_aload_n (n := 78) X 1 dX12_person_77 rfl rfl rfl ?_
              refine gg_12_1 (n := 81) (z := 191) X (by decide) (gsz hsz (by decide)) lay_190 kw_6_27 dX12_person_78 rfl (rf_190_1 I (gsz hsz (by decide))) (by decide) ?_
              refine g_iconst (n := 82) X dX12_person_81 rfl ?_
              refine g_iald2 (n := 83) (v := v2) X (by decide) (gsz hsz (by decide)) lay_191 (by omega) (by omega) (by decide) dX12_person_82 rfl hv2 ?_
              refine g_callSi (n := 86) (As := [gJ b, gJ (-3000), gJ v2]) (rest := []) (cs1 := 0) (ss1 := 0) X (s_X12_in b (by omega) (-3000) (by omega) v2 (by omega) hsz I C ) okX12_in kw_6_106 kw_6_107 ⟨rfl, rfl⟩ ⟨Nat.le_of_ble_eq_true rfl, Nat.le_of_ble_eq_true rfl⟩ rfl rfl (Nat.le_of_ble_eq_true rfl) ⟨Nat.le_of_ble_eq_true rfl, Nat.le_of_ble_eq_true rfl⟩ rfl rfl dX12_person_83 rfl (fun v82 M83 P84 => ?_)
              obtain ⟨rfl, rv82, xv82⟩ := P84
              refine g_if_eq (n := 89) (tgt := 105) X dX12_person_86 (by decide) (by omega) rfl (fun c85 => ?_) (fun c85 => ?_)
              · refine g_bipush (n := 107) X dX12_person_105 (by decide +kernel) rfl ?_
                exact hq _ _ _ _ dX12_person_107 ⟨by omega, I, C, gFr.rf, ⟨W, Or.inl ⟨by omega, rfl, fun p h0 h1 => rfl, fun p h0 h1 => rfl, fun p h0 h1 => rfl⟩⟩⟩
              · refine g_iload (n := 91) X 0 dX12_person_89 rfl rfl ?_
                refine g_if_eq (n := 94) (tgt := 105) X dX12_person_91 (by decide) (by omega) rfl (fun c86 => by exfalso; omega) (fun c86 => ?_)
                refine g_iload (n := 96) X 6 dX12_person_94 rfl rfl ?_
                refine g_iconst (n := 97) X dX12_person_96 rfl ?_
                refine g_bipush (n := 99) X dX12_person_97 (by decide +kernel) rfl ?_
                refine g_callSi (n := 102) (As := [gJ f, gJ 0, gJ 9]) (rest := []) (cs1 := 0) (ss1 := 0) X (s_X12_in f (by omega) 0 (by omega) 9 (by omega) hsz I C ) okX12_in kw_6_106 kw_6_107 ⟨rfl, rfl⟩ ⟨Nat.le_of_ble_eq_true rfl, Nat.le_of_ble_eq_true rfl⟩ rfl rfl (Nat.le_of_ble_eq_true rfl) ⟨Nat.le_of_ble_eq_true rfl, Nat.le_of_ble_eq_true rfl⟩ rfl rfl dX12_person_99 rfl (fun v87 M88 P89 => ?_)
                obtain ⟨rfl, rv87, xv87⟩ := P89
                refine g_if_ne (n := 105) (tgt := 108) X dX12_person_102 (by decide) (by omega) rfl (fun c90 => ?_) (fun c90 => ?_)
                · refine g_aload_n (n := 109) X 1 dX12_person_108 rfl rfl rfl ?_
                  refine gg_12_1 (n := 112) (z := 191) X (by decide) (gsz hsz (by decide)) lay_190 kw_6_27 dX12_person_109 rfl (rf_190_1 I (gsz hsz (by decide))) (by decide) ?_
                  refine g_iconst (n := 113) X dX12_person_112 rfl ?_
                  refine g_iald2 (n := 114) (v := v1) X (by decide) (gsz hsz (by decide)) lay_191 (by omega) (by omega) (by decide) dX12_person_113 rfl hv1 ?_
                  refine g_bipush (n := 116) X dX12_person_114 (by decide +kernel) rfl ?_
                  refine g_icmp_ne (n := 119) (tgt := 122) X dX12_person_116 (by decide) (by omega) (by omega) rfl (fun c91 => ?_) (fun c91 => ?_)
                  · refine g_aload_n (n := 123) X 1 dX12_person_122 rfl rfl rfl ?_
                    refine gg_12_1 (n := 126) (z := 191) X (by decide) (gsz hsz (by decide)) lay_190 kw_6_27 dX12_person_123 rfl (rf_190_1 I (gsz hsz (by decide))) (by decide) ?_
                    refine g_iconst (n := 127) X dX12_person_126 rfl ?_
                    refine g_iald2 (n := 128) (v := v1) X (by decide) (gsz hsz (by decide)) lay_191 (by omega) (by omega) (by decide) dX12_person_127 rfl hv1 ?_
                    refine g_istore (n := 130) (L' := [(7, gJ v1), (6, gJ 1), (0, gA n0 190), (1, gJ a), (2, gJ b), (3, gJ c), (4, gJ d), (5, gJ f)]) X dX12_person_128 (by decide) rfl rfl ?_
                    refine g_aload_n (n := 131) X 2 dX12_person_130 rfl rfl rfl ?_
                    refine gg_12_1 (n := 134) (z := 191) X (by decide) (gsz hsz (by decide)) lay_190 kw_6_27 dX12_person_131 rfl (rf_190_1 I (gsz hsz (by decide))) (by decide) ?_
                    refine g_bipush (n := 136) X dX12_person_134 (by decide +kernel) rfl ?_
                    refine g_iload (n := 138) X 0 dX12_person_136 rfl rfl ?_
                    refine g_iadd (n := 139) (z := v1 + 80) X dX12_person_138 (by omega) rfl ?_
                    refine g_iload_n (n := 140) X 3 dX12_person_139 rfl rfl rfl ?_
                    refine g_iast (n := 141) X (by decide) (gsz hsz (by decide)) lay_191 (by omega) (by omega) (by decide) dX12_person_140 rfl ?_
                    refine G.nm (fun M92 e93 => ?_)
                    have IM92 : gI sz M92 := gI.set I (rs_SEX (k := v1 + 80) (by omega)).1 (by omega) e93
                    have CM92 : gC sz M92 := gC.set C (rs_SEX (k := v1 + 80) (by omega)).2.1 e93
                    refine g_aload_n (n := 142) X 2 dX12_person_141 rfl rfl rfl ?_
                    refine gg_12_1 (n := 145) (z := 191) X (by decide) (gsz hsz (by decide)) lay_190 kw_6_27 dX12_person_142 rfl (rf_190_1 IM92 (gsz hsz (by decide))) (by decide) ?_
                    refine g_bipush (n := 147) X dX12_person_145 (by decide +kernel) rfl ?_
                    refine g_iload (n := 149) X 0 dX12_person_147 rfl rfl ?_
                    refine g_iadd (n := 150) (z := v1 + 96) X dX12_person_149 (by omega) rfl ?_
                    refine g_iload_n (n := 151) X 4 dX12_person_150 rfl rfl rfl ?_
                    refine g_iast (n := 152) X (by decide) (gsz hsz (by decide)) lay_191 (by omega) (by omega) (by decide) dX12_person_151 rfl ?_
                    refine G.nm (fun M94 e95 => ?_)
                    have IM94 : gI sz M94 := gI.set IM92 (rs_BORN (k := v1 + 96) (by omega)).1 (by omega) e95
                    have CM94 : gC sz M94 := gC.set CM92 (rs_BORN (k := v1 + 96) (by omega)).2.1 e95
                    refine g_aload_n (n := 153) X 2 dX12_person_152 rfl rfl rfl ?_
                    refine gg_12_1 (n := 156) (z := 191) X (by decide) (gsz hsz (by decide)) lay_190 kw_6_27 dX12_person_153 rfl (rf_190_1 IM94 (gsz hsz (by decide))) (by decide) ?_
                    refine g_bipush (n := 158) X dX12_person_156 (by decide +kernel) rfl ?_
                    refine g_iload (n := 160) X 0 dX12_person_158 rfl rfl ?_
                    refine g_iadd (n := 161) (z := v1 + 112) X dX12_person_160 (by omega) rfl ?_
                    refine g_iload_n (n := 162) X 5 dX12_person_161 rfl rfl rfl ?_
                    refine g_iast (n := 163) X (by decide) (gsz hsz (by decide)) lay_191 (by omega) (by omega) (by decide) dX12_person_162 rfl ?_
                    refine G.nm (fun M96 e97 => ?_)
                    have IM96 : gI sz M96 := gI.set IM94 (rs_HOME (k := v1 + 112) (by omega)).1 (by omega) e97
                    have CM96 : gC sz M96 := gC.set CM94 (rs_HOME (k := v1 + 112) (by omega)).2.1 e97
                    refine g_aload_n (n := 164) X 2 dX12_person_163 rfl rfl rfl ?_
                    refine gg_12_1 (n := 167) (z := 191) X (by decide) (gsz hsz (by decide)) lay_190 kw_6_27 dX12_person_164 rfl (rf_190_1 IM96 (gsz hsz (by decide))) (by decide) ?_
                    refine g_sipush (n := 170) X dX12_person_167 (by decide +kernel) rfl ?_
                    refine g_iload (n := 172) X 0 dX12_person_170 rfl rfl ?_
                    refine g_iadd (n := 173) (z := v1 + 128) X dX12_person_172 (by omega) rfl ?_
                    refine g_iload (n := 175) X 6 dX12_person_173 rfl rfl ?_
                    refine g_iast (n := 176) X (by decide) (gsz hsz (by decide)) lay_191 (by omega) (by omega) (by decide) dX12_person_175 rfl ?_
                    refine G.nm (fun M98 e99 => ?_)
                    have IM98 : gI sz M98 := gI.set IM96 (rs_FATHER (k := v1 + 128) (by omega)).1 (by omega) e99
                    have CM98 : gC sz M98 := gC.set CM96 (rs_FATHER (k := v1 + 128) (by omega)).2.1 e99
                    refine g_aload_n (n := 177) X 2 dX12_person_176 rfl rfl rfl ?_
                    refine gg_12_1 (n := 180) (z := 191) X (by decide) (gsz hsz (by decide)) lay_190 kw_6_27 dX12_person_177 rfl (rf_190_1 IM98 (gsz hsz (by decide))) (by decide) ?_
                    refine g_sipush (n := 183) X dX12_person_180 (by decide +kernel) rfl ?_
                    refine g_iload (n := 185) X 0 dX12_person_183 rfl rfl ?_
                    refine g_iadd (n := 186) (z := v1 + 144) X dX12_person_185 (by omega) rfl ?_
                    refine g_iload (n := 188) X 7 dX12_person_186 rfl rfl ?_
                    refine g_iast (n := 189) X (by decide) (gsz hsz (by decide)) lay_191 (by omega) (by omega) (by decide) dX12_person_188 rfl ?_
                    refine G.nm (fun M100 e101 => ?_)
                    have IM100 : gI sz M100 := gI.set IM98 (rs_STRONG (k := v1 + 144) (by omega)).1 (by omega) e101
                    have CM100 : gC sz M100 := gC.set CM98 (rs_STRONG (k := v1 + 144) (by omega)).2.1 e101
                    refine g_aload_n (n := 190) X 2 dX12_person_189 rfl rfl rfl ?_
                    refine gg_12_1 (n := 193) (z := 191) X (by decide) (gsz hsz (by decide)) lay_190 kw_6_27 dX12_person_190 rfl (rf_190_1 IM100 (gsz hsz (by decide))) (by decide) ?_
                    refine g_sipush (n := 196) X dX12_person_193 (by decide +kernel) rfl ?_
                    refine g_iload (n := 198) X 0 dX12_person_196 rfl rfl ?_
                    refine g_iadd (n := 199) (z := v1 + 160) X dX12_person_198 (by omega) rfl ?_
                    refine g_iload_n (n := 200) X 5 dX12_person_199 rfl rfl rfl ?_
                    refine g_iast (n := 201) X (by decide) (gsz hsz (by decide)) lay_191 (by omega) (by omega) (by decide) dX12_person_200 rfl ?_
                    refine G.nm (fun M102 e103 => ?_)
                    have IM102 : gI sz M102 := gI.set IM100 (rs_AT (k := v1 + 160) (by omega)).1 (by omega) e103
                    have CM102 : gC sz M102 := gC.set CM100 (rs_AT (k := v1 + 160) (by omega)).2.1 e103
                    refine g_aload_n (n := 202) X 2 dX12_person_201 rfl rfl rfl ?_
                    refine gg_12_1 (n := 205) (z := 191) X (by decide) (gsz hsz (by decide)) lay_190 kw_6_27 dX12_person_202 rfl (rf_190_1 IM102 (gsz hsz (by decide))) (by decide) ?_
                    refine g_sipush (n := 208) X dX12_person_205 (by decide +kernel) rfl ?_
                    refine g_iload (n := 210) X 0 dX12_person_208 rfl rfl ?_
                    refine g_iadd (n := 211) (z := v1 + 176) X dX12_person_210 (by omega) rfl ?_
                    refine g_iconst (n := 212) X dX12_person_211 rfl ?_
                    refine g_iast (n := 213) X (by decide) (gsz hsz (by decide)) lay_191 (by omega) (by omega) (by decide) dX12_person_212 rfl ?_
                    refine G.nm (fun M104 e105 => ?_)
                    have IM104 : gI sz M104 := gI.set IM102 (rs_HUNGER (k := v1 + 176) (by omega)).1 (by omega) e105
                    have CM104 : gC sz M104 := gC.set CM102 (rs_HUNGER (k := v1 + 176) (by omega)).2.1 e105
                    refine g_aload_n (n := 214) X 2 dX12_person_213 rfl rfl rfl ?_
                    refine gg_12_1 (n := 217) (z := 191) X (by decide) (gsz hsz (by decide)) lay_190 kw_6_27 dX12_person_214 rfl (rf_190_1 IM104 (gsz hsz (by decide))) (by decide) ?_
                    refine g_sipush (n := 220) X dX12_person_217 (by decide +kernel) rfl ?_
                    refine g_iload (n := 222) X 0 dX12_person_220 rfl rfl ?_
                    refine g_iadd (n := 223) (z := v1 + 192) X dX12_person_222 (by omega) rfl ?_
                    refine g_iconst (n := 224) X dX12_person_223 rfl ?_
                    refine g_iast (n := 225) X (by decide) (gsz hsz (by decide)) lay_191 (by omega) (by omega) (by decide) dX12_person_224 rfl ?_
                    refine G.nm (fun M106 e107 => ?_)
                    have IM106 : gI sz M106 := gI.set IM104 (rs_HUNGER (k := v1 + 192) (by omega)).1 (by omega) e107
                    have CM106 : gC sz M106 := gC.set CM104 (rs_HUNGER (k := v1 + 192) (by omega)).2.1 e107
                    refine g_aload_n (n := 226) X 2 dX12_person_225 rfl rfl rfl ?_
                    refine gg_12_1 (n := 229) (z := 191) X (by decide) (gsz hsz (by decide)) lay_190 kw_6_27 dX12_person_226 rfl (rf_190_1 IM106 (gsz hsz (by decide))) (by decide) ?_
                    refine g_sipush (n := 232) X dX12_person_229 (by decide +kernel) rfl ?_
                    refine g_iload (n := 234) X 0 dX12_person_232 rfl rfl ?_
                    refine g_iadd (n := 235) (z := v1 + 208) X dX12_person_234 (by omega) rfl ?_
                    refine g_iconst (n := 236) X dX12_person_235 rfl ?_
                    refine g_iast (n := 237) X (by decide) (gsz hsz (by decide)) lay_191 (by omega) (by omega) (by decide) dX12_person_236 rfl ?_
                    refine G.nm (fun M108 e109 => ?_)
                    have IM108 : gI sz M108 := gI.set IM106 (rs_WARD (k := v1 + 208) (by omega)).1 (by omega) e109
                    have CM108 : gC sz M108 := gC.set CM106 (rs_WARD (k := v1 + 208) (by omega)).2.1 e109
                    refine g_aload_n (n := 238) X 2 dX12_person_237 rfl rfl rfl ?_
                    refine gg_12_1 (n := 241) (z := 191) X (by decide) (gsz hsz (by decide)) lay_190 kw_6_27 dX12_person_238 rfl (rf_190_1 IM108 (gsz hsz (by decide))) (by decide) ?_
                    refine g_sipush (n := 244) X dX12_person_241 (by decide +kernel) rfl ?_
                    refine g_iload (n := 246) X 0 dX12_person_244 rfl rfl ?_
                    refine g_iadd (n := 247) (z := v1 + 224) X dX12_person_246 (by omega) rfl ?_
                    refine g_iconst (n := 248) X dX12_person_247 rfl ?_
                    refine g_iast (n := 249) X (by decide) (gsz hsz (by decide)) lay_191 (by omega) (by omega) (by decide) dX12_person_248 rfl ?_
                    refine G.nm (fun M110 e111 => ?_)
                    have IM110 : gI sz M110 := gI.set IM108 (rs_MASTER (k := v1 + 224) (by omega)).1 (by omega) e111
                    have CM110 : gC sz M110 := gC.set CM108 (rs_MASTER (k := v1 + 224) (by omega)).2.1 e111
                    refine g_aload_n (n := 250) X 2 dX12_person_249 rfl rfl rfl ?_
                    refine gg_12_1 (n := 253) (z := 191) X (by decide) (gsz hsz (by decide)) lay_190 kw_6_27 dX12_person_250 rfl (rf_190_1 IM110 (gsz hsz (by decide))) (by decide) ?_
                    refine g_sipush (n := 256) X dX12_person_253 (by decide +kernel) rfl ?_
                    refine g_iload (n := 258) X 0 dX12_person_256 rfl rfl ?_
                    refine g_iadd (n := 259) (z := v1 + 240) X dX12_person_258 (by omega) rfl ?_
                    refine g_iconst (n := 260) X dX12_person_259 rfl ?_
                    refine g_iast (n := 261) X (by decide) (gsz hsz (by decide)) lay_191 (by omega) (by omega) (by decide) dX12_person_260 rfl ?_
                    refine G.nm (fun M112 e113 => ?_)
                    have IM112 : gI sz M112 := gI.set IM110 (rs_CAME (k := v1 + 240) (by omega)).1 (by omega) e113
                    have CM112 : gC sz M112 := gC.set CM110 (rs_CAME (k := v1 + 240) (by omega)).2.1 e113
                    refine g_aload_n (n := 262) X 2 dX12_person_261 rfl rfl rfl ?_
                    refine gg_12_1 (n := 265) (z := 191) X (by decide) (gsz hsz (by decide)) lay_190 kw_6_27 dX12_person_262 rfl (rf_190_1 IM112 (gsz hsz (by decide))) (by decide) ?_
                    refine g_iconst (n := 266) X dX12_person_265 rfl ?_
                    refine g_dup2 (n := 267) X dX12_person_266 rfl rfl rfl ?_
                    refine g_iald2 (n := 268) (v := v1) X (by decide) (gsz hsz (by decide)) lay_191 (by omega) (by omega) (by decide) dX12_person_267 rfl ((congrFun (congrFun e113 _) _).trans ((gset_ne (by omega)).trans ((congrFun (congrFun e111 _) _).trans ((gset_ne (by omega)).trans ((congrFun (congrFun e109 _) _).trans ((gset_ne (by omega)).trans ((congrFun (congrFun e107 _) _).trans ((gset_ne (by omega)).trans ((congrFun (congrFun e105 _) _).trans ((gset_ne (by omega)).trans ((congrFun (congrFun e103 _) _).trans ((gset_ne (by omega)).trans ((congrFun (congrFun e101 _) _).trans ((gset_ne (by omega)).trans ((congrFun (congrFun e99 _) _).trans ((gset_ne (by omega)).trans ((congrFun (congrFun e97 _) _).trans ((gset_ne (by omega)).trans ((congrFun (congrFun e95 _) _).trans ((gset_ne (by omega)).trans ((congrFun (congrFun e93 _) _).trans ((gset_ne (by omega)).trans hv1)))))))))))))))))))))) ?_
                    refine g_iconst (n := 269) X dX12_person_268 rfl ?_
                    refine g_iadd (n := 270) (z := v1 + 1) X dX12_person_269 (by omega) rfl ?_
                    refine g_iast (n := 271) X (by decide) (gsz hsz (by decide)) lay_191 (by omega) (by omega) (by decide) dX12_person_270 rfl ?_
                    refine G.nm (fun M114 e115 => ?_)
                    have IM114 : gI sz M114 := gI.set IM112 (rs_PERS (k := 1) (by omega)).1 (by omega) e115
                    have CM114 : gC sz M114 := gC.set CM112 (rs_PERS (k := 1) (by omega)).2.1 e115
                    refine g_aload_n (n := 272) X 2 dX12_person_271 rfl rfl rfl ?_
                    refine g_dup (n := 273) X dX12_person_272 rfl rfl ?_
                    obtain ⟨v116, hv116, rv116⟩ := gRd IM114 (by decide) (gsz hsz (by decide)) rc_190_19.1
                    refine gg_12_19 (n := 276) (z := v116) X (by decide) (gsz hsz (by decide)) lay_190 kw_6_45 dX12_person_273 rfl hv116 ?_
                    refine g_iconst (n := 277) X dX12_person_276 rfl ?_
                    refine g_iaddA (n := 278) X dX12_person_277 rfl (fun v117 rv117 xv117 => ?_)
                    clear xv117
                    refine gp_12_19 (n := 281) X (by decide) (gsz hsz (by decide)) lay_190 kw_6_45 dX12_person_278 rfl ?_
                    refine G.nm (fun M118 e119 => ?_)
                    have IM118 : gI sz M118 := gI.set IM114 rc_190_19.1 (by omega) e119
                    have CM118 : gC sz M118 := gC.set CM114 rc_190_19.2.1 e119
                    refine g_iload (n := 283) X 0 dX12_person_281 rfl rfl ?_
                    have WR : gW 191 M114 := gW.person (p := v1) (f := d) W I hsz hv1 (by omega) ⟨by omega, fun _ => hv56.trans (by omega)⟩ ((congrFun (congrFun e115 _) _).trans (gset_eq _ _ _ _)) ((congrFun (congrFun e115 _) _).trans ((gset_ne (by omega)).trans ((congrFun (congrFun e113 _) _).trans ((gset_ne (by omega)).trans ((congrFun (congrFun e111 _) _).trans ((gset_ne (by omega)).trans ((congrFun (congrFun e109 _) _).trans ((gset_ne (by omega)).trans ((congrFun (congrFun e107 _) _).trans ((gset_ne (by omega)).trans ((congrFun (congrFun e105 _) _).trans ((gset_ne (by omega)).trans ((congrFun (congrFun e103 _) _).trans ((gset_ne (by omega)).trans ((congrFun (congrFun e101 _) _).trans ((gset_ne (by omega)).trans ((congrFun (congrFun e99 _) _).trans (gset_eq _ _ _ _)))))))))))))))))) (fun k hk g0 g1 => ((congrFun (congrFun e115 _) _).trans ((gset_ne (by unfold gWu at hk; omega)).trans ((congrFun (congrFun e113 _) _).trans ((gset_ne (by unfold gWu at hk; omega)).trans ((congrFun (congrFun e111 _) _).trans ((gset_ne (by unfold gWu at hk; omega)).trans ((congrFun (congrFun e109 _) _).trans ((gset_ne (by unfold gWu at hk; omega)).trans ((congrFun (congrFun e107 _) _).trans ((gset_ne (by unfold gWu at hk; omega)).trans ((congrFun (congrFun e105 _) _).trans ((gset_ne (by unfold gWu at hk; omega)).trans ((congrFun (congrFun e103 _) _).trans ((gset_ne (by unfold gWu at hk; omega)).trans ((congrFun (congrFun e101 _) _).trans ((gset_ne (by unfold gWu at hk; omega)).trans ((congrFun (congrFun e99 _) _).trans ((gset_ne (by unfold gWu at hk; omega)).trans ((congrFun (congrFun e97 _) _).trans ((gset_ne (by unfold gWu at hk; omega)).trans ((congrFun (congrFun e95 _) _).trans ((gset_ne (by unfold gWu at hk; omega)).trans ((congrFun (congrFun e93 _) _).trans ((gset_ne (by unfold gWu at hk; omega)).trans rfl)))))))))))))))))))))))))
                    exact hq _ _ _ _ dX12_person_283 ⟨by omega, IM118, CM118, (gFr.s (gFr.s (gFr.s (gFr.s (gFr.s (gFr.s (gFr.s (gFr.s (gFr.s (gFr.s (gFr.s (gFr.s (gFr.s gFr.rf e93 (rs_SEX (k := v1 + 80) (by omega)).2.2 rfl) e95 (rs_BORN (k := v1 + 96) (by omega)).2.2 rfl) e97 (rs_HOME (k := v1 + 112) (by omega)).2.2 rfl) e99 (rs_FATHER (k := v1 + 128) (by omega)).2.2 rfl) e101 (rs_STRONG (k := v1 + 144) (by omega)).2.2 rfl) e103 (rs_AT (k := v1 + 160) (by omega)).2.2 rfl) e105 (rs_HUNGER (k := v1 + 176) (by omega)).2.2 rfl) e107 (rs_HUNGER (k := v1 + 192) (by omega)).2.2 rfl) e109 (rs_WARD (k := v1 + 208) (by omega)).2.2 rfl) e111 (rs_MASTER (k := v1 + 224) (by omega)).2.2 rfl) e113 (rs_CAME (k := v1 + 240) (by omega)).2.2 rfl) e115 (rs_PERS (k := 1) (by omega)).2.2 rfl) e119 rc_190_19.2.2 rfl), ⟨(gW.fr (S := 590295810358705651712) WR ⟨sz, hsz, IM114⟩ (gFr.s gFr.rf e119 rc_190_19.2.2 rfl) rfl), Or.inr ⟨⟨by omega, by omega, by omega, by omega⟩, (by have q := ((congrFun (congrFun e119 _) _).trans ((gset_ne (by omega)).trans ((congrFun (congrFun e115 _) _).trans (gset_eq _ _ _ _)))); omega), (fun p h0 h1 hp => ((congrFun (congrFun e119 _) _).trans ((gset_ne (by omega)).trans ((congrFun (congrFun e115 _) _).trans ((gset_ne (by omega)).trans ((congrFun (congrFun e113 _) _).trans ((gset_ne (by omega)).trans ((congrFun (congrFun e111 _) _).trans ((gset_ne (by omega)).trans ((congrFun (congrFun e109 _) _).trans ((gset_ne (by omega)).trans ((congrFun (congrFun e107 _) _).trans ((gset_ne (by omega)).trans ((congrFun (congrFun e105 _) _).trans ((gset_ne (by omega)).trans ((congrFun (congrFun e103 _) _).trans ((gset_ne (by omega)).trans ((congrFun (congrFun e101 _) _).trans ((gset_ne (by omega)).trans ((congrFun (congrFun e99 _) _).trans ((gset_ne (by omega)).trans ((congrFun (congrFun e97 _) _).trans ((gset_ne (by omega)).trans ((congrFun (congrFun e95 _) _).trans ((gset_ne (by omega)).trans ((congrFun (congrFun e93 _) _).trans ((gset_ne (by omega)).trans rfl))))))))))))))))))))))))))), (fun p h0 h1 hp => ((congrFun (congrFun e119 _) _).trans ((gset_ne (by omega)).trans ((congrFun (congrFun e115 _) _).trans ((gset_ne (by omega)).trans ((congrFun (congrFun e113 _) _).trans ((gset_ne (by omega)).trans ((congrFun (congrFun e111 _) _).trans ((gset_ne (by omega)).trans ((congrFun (congrFun e109 _) _).trans ((gset_ne (by omega)).trans ((congrFun (congrFun e107 _) _).trans ((gset_ne (by omega)).trans ((congrFun (congrFun e105 _) _).trans ((gset_ne (by omega)).trans ((congrFun (congrFun e103 _) _).trans ((gset_ne (by omega)).trans ((congrFun (congrFun e101 _) _).trans ((gset_ne (by omega)).trans ((congrFun (congrFun e99 _) _).trans ((gset_ne (by omega)).trans ((congrFun (congrFun e97 _) _).trans ((gset_ne (by omega)).trans ((congrFun (congrFun e95 _) _).trans ((gset_ne (by omega)).trans ((congrFun (congrFun e93 _) _).trans ((gset_ne (by omega)).trans rfl))))))))))))))))))))))))))), (fun p h0 h1 hp => ((congrFun (congrFun e119 _) _).trans ((gset_ne (by omega)).trans ((congrFun (congrFun e115 _) _).trans ((gset_ne (by omega)).trans ((congrFun (congrFun e113 _) _).trans ((gset_ne (by omega)).trans ((congrFun (congrFun e111 _) _).trans ((gset_ne (by omega)).trans ((congrFun (congrFun e109 _) _).trans ((gset_ne (by omega)).trans ((congrFun (congrFun e107 _) _).trans ((gset_ne (by omega)).trans ((congrFun (congrFun e105 _) _).trans ((gset_ne (by omega)).trans ((congrFun (congrFun e103 _) _).trans ((gset_ne (by omega)).trans ((congrFun (congrFun e101 _) _).trans ((gset_ne (by omega)).trans ((congrFun (congrFun e99 _) _).trans ((gset_ne (by omega)).trans ((congrFun (congrFun e97 _) _).trans ((gset_ne (by omega)).trans ((congrFun (congrFun e95 _) _).trans ((gset_ne (by omega)).trans ((congrFun (congrFun e93 _) _).trans ((gset_ne (by omega)).trans rfl))))))))))))))))))))))))))), (by rw [hv1]; exact ((congrFun (congrFun e119 _) _).trans ((gset_ne (by omega)).trans ((congrFun (congrFun e115 _) _).trans ((gset_ne (by omega)).trans ((congrFun (congrFun e113 _) _).trans ((gset_ne (by omega)).trans ((congrFun (congrFun e111 _) _).trans ((gset_ne (by omega)).trans ((congrFun (congrFun e109 _) _).trans ((gset_ne (by omega)).trans ((congrFun (congrFun e107 _) _).trans ((gset_ne (by omega)).trans ((congrFun (congrFun e105 _) _).trans ((gset_ne (by omega)).trans ((congrFun (congrFun e103 _) _).trans ((gset_ne (by omega)).trans ((congrFun (congrFun e101 _) _).trans ((gset_ne (by omega)).trans ((congrFun (congrFun e99 _) _).trans ((gset_ne (by omega)).trans ((congrFun (congrFun e97 _) _).trans ((gset_ne (by omega)).trans ((congrFun (congrFun e95 _) _).trans ((gset_ne (by omega)).trans ((congrFun (congrFun e93 _) _).trans (gset_eq _ _ _ _))))))))))))))))))))))))))), (by rw [hv1]; exact ((congrFun (congrFun e119 _) _).trans ((gset_ne (by omega)).trans ((congrFun (congrFun e115 _) _).trans ((gset_ne (by omega)).trans ((congrFun (congrFun e113 _) _).trans ((gset_ne (by omega)).trans ((congrFun (congrFun e111 _) _).trans ((gset_ne (by omega)).trans ((congrFun (congrFun e109 _) _).trans ((gset_ne (by omega)).trans ((congrFun (congrFun e107 _) _).trans ((gset_ne (by omega)).trans ((congrFun (congrFun e105 _) _).trans ((gset_ne (by omega)).trans ((congrFun (congrFun e103 _) _).trans ((gset_ne (by omega)).trans ((congrFun (congrFun e101 _) _).trans ((gset_ne (by omega)).trans ((congrFun (congrFun e99 _) _).trans ((gset_ne (by omega)).trans ((congrFun (congrFun e97 _) _).trans ((gset_ne (by omega)).trans ((congrFun (congrFun e95 _) _).trans (gset_eq _ _ _ _)))))))))))))))))))))))))⟩⟩⟩
                  · refine g_bipush (n := 121) X dX12_person_119 (by decide +kernel) rfl ?_
                    exact hq _ _ _ _ dX12_person_121 ⟨by omega, I, C, gFr.rf, ⟨W, Or.inl ⟨by omega, rfl, fun p h0 h1 => rfl, fun p h0 h1 => rfl, fun p h0 h1 => rfl⟩⟩⟩
                · refine g_bipush (n := 107) X dX12_person_105 (by decide +kernel) rfl ?_
                  exact hq _ _ _ _ dX12_person_107 ⟨by omega, I, C, gFr.rf, ⟨W, Or.inl ⟨by omega, rfl, fun p h0 h1 => rfl, fun p h0 h1 => rfl, fun p h0 h1 => rfl⟩⟩⟩
      · refine g_iconst (n := 23) X dX12_person_22 rfl ?_
        exact hq _ _ _ _ dX12_person_23 ⟨by omega, I, C, gFr.rf, ⟨W, Or.inl ⟨by omega, rfl, fun p h0 h1 => rfl, fun p h0 h1 => rfl, fun p h0 h1 => rfl⟩⟩⟩
theorem dX12_road_0 : decode cX12_road 0 = .ok (.iload_n 1, 1) := dc_27 (by decide +kernel)
theorem dX12_road_1 : decode cX12_road 1 = .ok (.invokestatic 68, 3) := dc_184 0 68 (by decide +kernel)
theorem dX12_road_4 : decode cX12_road 4 = .ok (.ifCond .eq 10, 3) := dc_153 0 10 10 (by decide +kernel)
theorem dX12_road_14 : decode cX12_road 14 = .ok (.iconst (-1), 1) := dc_2 (by decide +kernel)
theorem dX12_road_15 : decode cX12_road 15 = .ok (.ireturn, 1) := dc_172 (by decide +kernel)
theorem dX12_road_7 : decode cX12_road 7 = .ok (.iload_n 2, 1) := dc_28 (by decide +kernel)
theorem dX12_road_8 : decode cX12_road 8 = .ok (.invokestatic 68, 3) := dc_184 0 68 (by decide +kernel)
theorem dX12_road_11 : decode cX12_road 11 = .ok (.ifCond .ne 5, 3) := dc_154 0 5 5 (by decide +kernel)
theorem dX12_road_16 : decode cX12_road 16 = .ok (.iload_n 1, 1) := dc_27 (by decide +kernel)
theorem dX12_road_17 : decode cX12_road 17 = .ok (.iload_n 2, 1) := dc_28 (by decide +kernel)
theorem dX12_road_18 : decode cX12_road 18 = .ok (.if_icmp .eq 13, 3) := dc_159 0 13 13 (by decide +kernel)
theorem dX12_road_31 : decode cX12_road 31 = .ok (.bipush (-2), 2) := dc_16 254 (-2) (by decide +kernel)
theorem dX12_road_33 : decode cX12_road 33 = .ok (.ireturn, 1) := dc_172 (by decide +kernel)
theorem dX12_road_21 : decode cX12_road 21 = .ok (.iload_n 3, 1) := dc_29 (by decide +kernel)
theorem dX12_road_22 : decode cX12_road 22 = .ok (.iconst 1, 1) := dc_4 (by decide +kernel)
theorem dX12_road_23 : decode cX12_road 23 = .ok (.bipush 9, 2) := dc_16 9 9 (by decide +kernel)
theorem dX12_road_25 : decode cX12_road 25 = .ok (.invokestatic 64, 3) := dc_184 0 64 (by decide +kernel)
theorem dX12_road_28 : decode cX12_road 28 = .ok (.ifCond .ne 6, 3) := dc_154 0 6 6 (by decide +kernel)
theorem dX12_road_34 : decode cX12_road 34 = .ok (.iconst 0, 1) := dc_3 (by decide +kernel)
theorem dX12_road_35 : decode cX12_road 35 = .ok (.istore 4, 2) := dc_54 4 (by decide +kernel)
theorem dX12_road_37 : decode cX12_road 37 = .ok (.iconst 0, 1) := dc_3 (by decide +kernel)
theorem dX12_road_38 : decode cX12_road 38 = .ok (.istore 5, 2) := dc_54 5 (by decide +kernel)
theorem dX12_road_40 : decode cX12_road 40 = .ok (.iload 5, 2) := dc_21 5 (by decide +kernel)
theorem dX12_road_42 : decode cX12_road 42 = .ok (.bipush 6, 2) := dc_16 6 6 (by decide +kernel)
theorem dX12_road_44 : decode cX12_road 44 = .ok (.if_icmp .ge 134, 3) := dc_162 0 134 134 (by decide +kernel)
theorem dX12_road_47 : decode cX12_road 47 = .ok (.iconst 0, 1) := dc_3 (by decide +kernel)
theorem dX12_road_48 : decode cX12_road 48 = .ok (.istore 6, 2) := dc_54 6 (by decide +kernel)
theorem dX12_road_50 : decode cX12_road 50 = .ok (.iload 6, 2) := dc_21 6 (by decide +kernel)
theorem dX12_road_52 : decode cX12_road 52 = .ok (.bipush 6, 2) := dc_16 6 6 (by decide +kernel)
theorem dX12_road_54 : decode cX12_road 54 = .ok (.if_icmp .ge 118, 3) := dc_162 0 118 118 (by decide +kernel)
theorem dX12_road_57 : decode cX12_road 57 = .ok (.aload_n 0, 1) := dc_42 (by decide +kernel)
theorem dX12_road_58 : decode cX12_road 58 = .ok (.iload 5, 2) := dc_21 5 (by decide +kernel)
theorem dX12_road_60 : decode cX12_road 60 = .ok (.iload_n 1, 1) := dc_27 (by decide +kernel)
theorem dX12_road_61 : decode cX12_road 61 = .ok (.invokevirtual 72, 3) := dc_182 0 72 (by decide +kernel)
theorem dX12_road_64 : decode cX12_road 64 = .ok (.iload_n 3, 1) := dc_29 (by decide +kernel)
theorem dX12_road_65 : decode cX12_road 65 = .ok (.iadd, 1) := dc_96 (by decide +kernel)
theorem dX12_road_66 : decode cX12_road 66 = .ok (.aload_n 0, 1) := dc_42 (by decide +kernel)
theorem dX12_road_67 : decode cX12_road 67 = .ok (.iload_n 2, 1) := dc_28 (by decide +kernel)
theorem dX12_road_68 : decode cX12_road 68 = .ok (.iload 6, 2) := dc_21 6 (by decide +kernel)
theorem dX12_road_70 : decode cX12_road 70 = .ok (.invokevirtual 72, 3) := dc_182 0 72 (by decide +kernel)
theorem dX12_road_73 : decode cX12_road 73 = .ok (.iadd, 1) := dc_96 (by decide +kernel)
theorem dX12_road_74 : decode cX12_road 74 = .ok (.istore 7, 2) := dc_54 7 (by decide +kernel)
theorem dX12_road_76 : decode cX12_road 76 = .ok (.aload_n 0, 1) := dc_42 (by decide +kernel)
theorem dX12_road_77 : decode cX12_road 77 = .ok (.iload 5, 2) := dc_21 5 (by decide +kernel)
theorem dX12_road_79 : decode cX12_road 79 = .ok (.iload_n 2, 1) := dc_28 (by decide +kernel)
theorem dX12_road_80 : decode cX12_road 80 = .ok (.invokevirtual 72, 3) := dc_182 0 72 (by decide +kernel)
theorem dX12_road_83 : decode cX12_road 83 = .ok (.iload_n 3, 1) := dc_29 (by decide +kernel)
theorem dX12_road_84 : decode cX12_road 84 = .ok (.iadd, 1) := dc_96 (by decide +kernel)
theorem dX12_road_85 : decode cX12_road 85 = .ok (.aload_n 0, 1) := dc_42 (by decide +kernel)
theorem dX12_road_86 : decode cX12_road 86 = .ok (.iload_n 1, 1) := dc_27 (by decide +kernel)
theorem dX12_road_87 : decode cX12_road 87 = .ok (.iload 6, 2) := dc_21 6 (by decide +kernel)
theorem dX12_road_89 : decode cX12_road 89 = .ok (.invokevirtual 72, 3) := dc_182 0 72 (by decide +kernel)
theorem dX12_road_92 : decode cX12_road 92 = .ok (.iadd, 1) := dc_96 (by decide +kernel)
theorem dX12_road_93 : decode cX12_road 93 = .ok (.istore 8, 2) := dc_54 8 (by decide +kernel)
theorem dX12_road_95 : decode cX12_road 95 = .ok (.iload 7, 2) := dc_21 7 (by decide +kernel)
theorem dX12_road_97 : decode cX12_road 97 = .ok (.iload 8, 2) := dc_21 8 (by decide +kernel)
theorem dX12_road_99 : decode cX12_road 99 = .ok (.if_icmp .ge 8, 3) := dc_162 0 8 8 (by decide +kernel)
theorem dX12_road_107 : decode cX12_road 107 = .ok (.iload 8, 2) := dc_21 8 (by decide +kernel)
theorem dX12_road_109 : decode cX12_road 109 = .ok (.istore 9, 2) := dc_54 9 (by decide +kernel)
theorem dX12_road_111 : decode cX12_road 111 = .ok (.iload 9, 2) := dc_21 9 (by decide +kernel)
theorem dX12_road_113 : decode cX12_road 113 = .ok (.aload_n 0, 1) := dc_42 (by decide +kernel)
theorem dX12_road_114 : decode cX12_road 114 = .ok (.iload 5, 2) := dc_21 5 (by decide +kernel)
theorem dX12_road_116 : decode cX12_road 116 = .ok (.iload 6, 2) := dc_21 6 (by decide +kernel)
theorem dX12_road_118 : decode cX12_road 118 = .ok (.invokevirtual 72, 3) := dc_182 0 72 (by decide +kernel)
theorem dX12_road_121 : decode cX12_road 121 = .ok (.if_icmp .ge 24, 3) := dc_162 0 24 24 (by decide +kernel)
theorem dX12_road_145 : decode cX12_road 145 = .ok (.aload_n 0, 1) := dc_42 (by decide +kernel)
theorem dX12_road_146 : decode cX12_road 146 = .ok (.getfield 19, 3) := dc_180 0 19 (by decide +kernel)
theorem kw_6_31 : (Jvm.Cond.fieldLink "ParishUnionModel" (19 : Nat) "ParishUnionModel" "fresh" "[I") ∈ gT := gT_of (tb_6 _ (List.mem_of_getElem? (i := 31) rfl)) rfl
theorem rf_190_5 {sz : Nat} {M : gM} (I : gI sz M) (h : (190 : Int) < (sz : Int)) : M 190 5 = 194 + 1 := gI.rf I (by decide) h (by decide +kernel)
theorem dX12_road_149 : decode cX12_road 149 = .ok (.bipush 6, 2) := dc_16 6 6 (by decide +kernel)
theorem dX12_road_151 : decode cX12_road 151 = .ok (.iload 5, 2) := dc_21 5 (by decide +kernel)
theorem dX12_road_153 : decode cX12_road 153 = .ok (.imul, 1) := dc_104 (by decide +kernel)
theorem dX12_road_154 : decode cX12_road 154 = .ok (.iload 6, 2) := dc_21 6 (by decide +kernel)
theorem dX12_road_156 : decode cX12_road 156 = .ok (.iadd, 1) := dc_96 (by decide +kernel)
theorem dX12_road_157 : decode cX12_road 157 = .ok (.aload_n 0, 1) := dc_42 (by decide +kernel)
theorem dX12_road_158 : decode cX12_road 158 = .ok (.iload 5, 2) := dc_21 5 (by decide +kernel)
theorem dX12_road_160 : decode cX12_road 160 = .ok (.iload 6, 2) := dc_21 6 (by decide +kernel)
theorem dX12_road_162 : decode cX12_road 162 = .ok (.invokevirtual 72, 3) := dc_182 0 72 (by decide +kernel)
theorem dX12_road_165 : decode cX12_road 165 = .ok (.iastore, 1) := dc_79 (by decide +kernel)
theorem ra_194 (k : Int) : gRg 194 k = (0, 99) ∧ gCr 194 k = false ∧ gG 194 k = 65 := ⟨rfl, rfl, rfl⟩
theorem dX12_road_166 : decode cX12_road 166 = .ok (.iinc 6 1, 3) := dc_132 6 1 1 (by decide +kernel)
theorem dX12_road_169 : decode cX12_road 169 = .ok (.goto (-119), 3) := dc_167 255 137 (-119) (by decide +kernel)
theorem dX12_road_124 : decode cX12_road 124 = .ok (.iconst 1, 1) := dc_4 (by decide +kernel)
theorem dX12_road_125 : decode cX12_road 125 = .ok (.istore 4, 2) := dc_54 4 (by decide +kernel)
theorem dX12_road_127 : decode cX12_road 127 = .ok (.aload_n 0, 1) := dc_42 (by decide +kernel)
theorem dX12_road_128 : decode cX12_road 128 = .ok (.getfield 19, 3) := dc_180 0 19 (by decide +kernel)
theorem dX12_road_131 : decode cX12_road 131 = .ok (.bipush 6, 2) := dc_16 6 6 (by decide +kernel)
theorem dX12_road_133 : decode cX12_road 133 = .ok (.iload 5, 2) := dc_21 5 (by decide +kernel)
theorem dX12_road_135 : decode cX12_road 135 = .ok (.imul, 1) := dc_104 (by decide +kernel)
theorem dX12_road_136 : decode cX12_road 136 = .ok (.iload 6, 2) := dc_21 6 (by decide +kernel)
theorem dX12_road_138 : decode cX12_road 138 = .ok (.iadd, 1) := dc_96 (by decide +kernel)
theorem dX12_road_139 : decode cX12_road 139 = .ok (.iload 9, 2) := dc_21 9 (by decide +kernel)
theorem dX12_road_141 : decode cX12_road 141 = .ok (.iastore, 1) := dc_79 (by decide +kernel)
theorem dX12_road_142 : decode cX12_road 142 = .ok (.goto 24, 3) := dc_167 0 24 24 (by decide +kernel)
theorem dX12_road_102 : decode cX12_road 102 = .ok (.iload 7, 2) := dc_21 7 (by decide +kernel)
theorem dX12_road_104 : decode cX12_road 104 = .ok (.goto 5, 3) := dc_167 0 5 5 (by decide +kernel)
theorem dX12_road_172 : decode cX12_road 172 = .ok (.iinc 5 1, 3) := dc_132 5 1 1 (by decide +kernel)
theorem dX12_road_175 : decode cX12_road 175 = .ok (.goto (-135), 3) := dc_167 255 121 (-135) (by decide +kernel)
theorem dX12_road_178 : decode cX12_road 178 = .ok (.iconst 0, 1) := dc_3 (by decide +kernel)
theorem dX12_road_179 : decode cX12_road 179 = .ok (.istore 5, 2) := dc_54 5 (by decide +kernel)
theorem dX12_road_181 : decode cX12_road 181 = .ok (.iload 5, 2) := dc_21 5 (by decide +kernel)
theorem dX12_road_183 : decode cX12_road 183 = .ok (.bipush 36, 2) := dc_16 36 36 (by decide +kernel)
theorem dX12_road_185 : decode cX12_road 185 = .ok (.if_icmp .ge 26, 3) := dc_162 0 26 26 (by decide +kernel)
theorem dX12_road_188 : decode cX12_road 188 = .ok (.aload_n 0, 1) := dc_42 (by decide +kernel)
theorem dX12_road_189 : decode cX12_road 189 = .ok (.getfield 7, 3) := dc_180 0 7 (by decide +kernel)
theorem dX12_road_192 : decode cX12_road 192 = .ok (.bipush 24, 2) := dc_16 24 24 (by decide +kernel)
theorem dX12_road_194 : decode cX12_road 194 = .ok (.iload 5, 2) := dc_21 5 (by decide +kernel)
theorem dX12_road_196 : decode cX12_road 196 = .ok (.iadd, 1) := dc_96 (by decide +kernel)
theorem dX12_road_197 : decode cX12_road 197 = .ok (.aload_n 0, 1) := dc_42 (by decide +kernel)
theorem dX12_road_198 : decode cX12_road 198 = .ok (.getfield 19, 3) := dc_180 0 19 (by decide +kernel)
theorem dX12_road_201 : decode cX12_road 201 = .ok (.iload 5, 2) := dc_21 5 (by decide +kernel)
theorem dX12_road_203 : decode cX12_road 203 = .ok (.iaload, 1) := dc_46 (by decide +kernel)
theorem dX12_road_204 : decode cX12_road 204 = .ok (.iastore, 1) := dc_79 (by decide +kernel)
theorem dX12_road_205 : decode cX12_road 205 = .ok (.iinc 5 1, 3) := dc_132 5 1 1 (by decide +kernel)
theorem dX12_road_208 : decode cX12_road 208 = .ok (.goto (-27), 3) := dc_167 255 229 (-27) (by decide +kernel)
theorem dX12_road_211 : decode cX12_road 211 = .ok (.iload 4, 2) := dc_21 4 (by decide +kernel)
theorem dX12_road_213 : decode cX12_road 213 = .ok (.ireturn, 1) := dc_172 (by decide +kernel)
abbrev R_X12_road : Room := { frames := 2, cells := 0, slots := 0, locals := 42 }
set_option maxRecDepth 100000 in
set_option maxHeartbeats 4000000 in
theorem s_X12_road {l : Launch} {n0 : Nat} {D : va_G} {cA : Nat → ClassId} {M : gM} (a : Int) (r_a : -2147483648 ≤ a ∧ a ≤ 2147483647) (b : Int) (r_b : -2147483648 ≤ b ∧ b ≤ 2147483647) (c : Int) (r_c : -2147483648 ≤ c ∧ c ≤ 2147483647) {sz : Nat} (hsz : 206 ≤ sz) (I : gI sz M) (C : gC sz M)   : Met l yX12_road (gWsOf yX12_road cX12_road 10 (Option.some Jvm.ClassFile.FieldType.int)) R_X12_road (gPc n0 D cA [gA n0 190, gJ a, gJ b, gJ c] M sz) (gQi n0 D cA sz (fun z M1 => (-2 ≤ z ∧ z ≤ 1) ∧ gI sz M1 ∧ gC sz M1 ∧ gFr 36893558516163280896 M M1)) 0 0 (fun q => n0 ≤ q) := by
  refine gMetI [gA n0 190, gJ a, gJ b, gJ c] (by decide) (Nat.le_of_ble_eq_true rfl) ⟨rfl, rfl⟩ ?_
  intro p e s m args below meth cd Q X hq
  have X : gCx p s m args meth cd n0 D cA "ParishUnionModel" cX12_road 10 := X
  show G p l e R_X12_road s m args below meth cd n0 D cA 10 Q 0 0 M sz 0 [(0, gA n0 190), (1, gJ a), (2, gJ b), (3, gJ c)] []
  refine g_iload_n (n := 1) X 1 dX12_road_0 rfl rfl rfl ?_
  refine g_callSi (n := 4) (As := [gJ a]) (rest := []) (cs1 := 0) (ss1 := 0) X (s_X12_isParish a (by omega) hsz I C ) okX12_isParish kw_6_103 kw_6_104 ⟨rfl, rfl⟩ ⟨Nat.le_of_ble_eq_true rfl, Nat.le_of_ble_eq_true rfl⟩ rfl rfl (Nat.le_of_ble_eq_true rfl) ⟨Nat.le_of_ble_eq_true rfl, Nat.le_of_ble_eq_true rfl⟩ rfl rfl dX12_road_1 rfl (fun v1 M2 P3 => ?_)
  obtain ⟨rfl, rv1, xv1⟩ := P3
  refine g_if_eq (n := 7) (tgt := 14) X dX12_road_4 (by decide) (by omega) rfl (fun c4 => ?_) (fun c4 => ?_)
  · refine g_iconst (n := 15) X dX12_road_14 rfl ?_
    exact hq _ _ _ _ dX12_road_15 ⟨by omega, I, C, gFr.rf⟩
  · refine g_iload_n (n := 8) X 2 dX12_road_7 rfl rfl rfl ?_
    refine g_callSi (n := 11) (As := [gJ b]) (rest := []) (cs1 := 0) (ss1 := 0) X (s_X12_isParish b (by omega) hsz I C ) okX12_isParish kw_6_103 kw_6_104 ⟨rfl, rfl⟩ ⟨Nat.le_of_ble_eq_true rfl, Nat.le_of_ble_eq_true rfl⟩ rfl rfl (Nat.le_of_ble_eq_true rfl) ⟨Nat.le_of_ble_eq_true rfl, Nat.le_of_ble_eq_true rfl⟩ rfl rfl dX12_road_8 rfl (fun v5 M6 P7 => ?_)
    obtain ⟨rfl, rv5, xv5⟩ := P7
    refine g_if_ne (n := 14) (tgt := 16) X dX12_road_11 (by decide) (by omega) rfl (fun c8 => ?_) (fun c8 => ?_)
    · refine g_iload_n (n := 17) X 1 dX12_road_16 rfl rfl rfl ?_
      refine g_iload_n (n := 18) X 2 dX12_road_17 rfl rfl rfl ?_
      refine g_icmp_eq (n := 21) (tgt := 31) X dX12_road_18 (by decide) (by omega) (by omega) rfl (fun c9 => ?_) (fun c9 => ?_)
      · refine g_bipush (n := 33) X dX12_road_31 (by decide +kernel) rfl ?_
        exact hq _ _ _ _ dX12_road_33 ⟨by omega, I, C, gFr.rf⟩
      · refine g_iload_n (n := 22) X 3 dX12_road_21 rfl rfl rfl ?_
        refine g_iconst (n := 23) X dX12_road_22 rfl ?_
        refine g_bipush (n := 25) X dX12_road_23 (by decide +kernel) rfl ?_
        refine g_callSi (n := 28) (As := [gJ c, gJ 1, gJ 9]) (rest := []) (cs1 := 0) (ss1 := 0) X (s_X12_in c (by omega) 1 (by omega) 9 (by omega) hsz I C ) okX12_in kw_6_106 kw_6_107 ⟨rfl, rfl⟩ ⟨Nat.le_of_ble_eq_true rfl, Nat.le_of_ble_eq_true rfl⟩ rfl rfl (Nat.le_of_ble_eq_true rfl) ⟨Nat.le_of_ble_eq_true rfl, Nat.le_of_ble_eq_true rfl⟩ rfl rfl dX12_road_25 rfl (fun v10 M11 P12 => ?_)
        obtain ⟨rfl, rv10, xv10⟩ := P12
        refine g_if_ne (n := 31) (tgt := 34) X dX12_road_28 (by decide) (by omega) rfl (fun c13 => ?_) (fun c13 => ?_)
        · refine g_iconst (n := 35) X dX12_road_34 rfl ?_
          refine g_istore (n := 37) (L' := [(4, gJ 0), (0, gA n0 190), (1, gJ a), (2, gJ b), (3, gJ c)]) X dX12_road_35 (by decide) rfl rfl ?_
          refine g_iconst (n := 38) X dX12_road_37 rfl ?_
          refine g_istore (n := 40) (L' := [(5, gJ 0), (4, gJ 0), (0, gA n0 190), (1, gJ a), (2, gJ b), (3, gJ c)]) X dX12_road_38 (by decide) rfl rfl ?_
          have j17 : ∀ (N1212 : Nat) (v14 v15 : Int) (M16 : gM) , (0 ≤ v14 ∧ v14 ≤ 1) → (0 ≤ v15 ∧ v15 ≤ 6) → gI sz M16 → gC sz M16 → gFr 36893488147419103232 M M16 → (6 - v15).toNat < N1212 → G p l e R_X12_road s m args below meth cd n0 D cA 10 Q 0 0 M16 sz 40 [(0, gA n0 190), (1, gJ a), (2, gJ b), (3, gJ c), (4, gJ v14), (5, gJ v15)] [] := by
            intro N1212; induction N1212 with
            | zero => intro v14 v15 M16 rv14 rv15 IM16 CM16 FM16 hm1214; exfalso; omega
            | succ N1212 ih1213 =>
              intro v14 v15 M16 rv14 rv15 IM16 CM16 FM16 hm1214
              refine g_iload (n := 42) X 5 dX12_road_40 rfl rfl ?_
              refine g_bipush (n := 44) X dX12_road_42 (by decide +kernel) rfl ?_
              refine g_icmp_ge (n := 47) (tgt := 178) X dX12_road_44 (by decide) (by omega) (by omega) rfl (fun c1215 => ?_) (fun c1215 => ?_)
              · refine g_iconst (n := 179) X dX12_road_178 rfl ?_
                refine g_istore (n := 181) (L' := [(5, gJ 0), (0, gA n0 190), (1, gJ a), (2, gJ b), (3, gJ c), (4, gJ v14)]) X dX12_road_179 (by decide) rfl rfl ?_
                have j1218 : ∀ (N1283 : Nat) (v1216 : Int) (M1217 : gM) , (0 ≤ v1216 ∧ v1216 ≤ 36) → gI sz M1217 → gC sz M1217 → gFr 70368744177664 M16 M1217 → (36 - v1216).toNat < N1283 → G p l e R_X12_road s m args below meth cd n0 D cA 10 Q 0 0 M1217 sz 181 [(0, gA n0 190), (4, gJ v14), (5, gJ v1216)] [] := by
                  intro N1283; induction N1283 with
                  | zero => intro v1216 M1217 rv1216 IM1217 CM1217 FM1217 hm1285; exfalso; omega
                  | succ N1283 ih1284 =>
                    intro v1216 M1217 rv1216 IM1217 CM1217 FM1217 hm1285
                    refine g_iload (n := 183) X 2 dX12_road_181 rfl rfl ?_
                    refine g_bipush (n := 185) X dX12_road_183 (by decide +kernel) rfl ?_
                    refine g_icmp_ge (n := 188) (tgt := 211) X dX12_road_185 (by decide) (by omega) (by omega) rfl (fun c1286 => ?_) (fun c1286 => ?_)
                    · refine g_iload (n := 213) X 1 dX12_road_211 rfl rfl ?_
                      exact hq _ _ _ _ dX12_road_213 ⟨by omega, IM1217, CM1217, (gFr.c (gFr.c gFr.rf FM16 rfl) FM1217 rfl)⟩
                    · refine g_aload_n (n := 189) X 0 dX12_road_188 rfl rfl rfl ?_
                      refine gg_12_1 (n := 192) (z := 191) X (by decide) (gsz hsz (by decide)) lay_190 kw_6_27 dX12_road_189 rfl (rf_190_1 IM1217 (gsz hsz (by decide))) (by decide) ?_
                      refine g_bipush (n := 194) X dX12_road_192 (by decide +kernel) rfl ?_
                      refine g_iload (n := 196) X 2 dX12_road_194 rfl rfl ?_
                      refine g_iadd (n := 197) (z := v1216 + 24) X dX12_road_196 (by omega) rfl ?_
                      refine g_aload_n (n := 198) X 0 dX12_road_197 rfl rfl rfl ?_
                      refine gg_12_5 (n := 201) (z := 194) X (by decide) (gsz hsz (by decide)) lay_190 kw_6_31 dX12_road_198 rfl (rf_190_5 IM1217 (gsz hsz (by decide))) (by decide) ?_
                      refine g_iload (n := 203) X 2 dX12_road_201 rfl rfl ?_
                      obtain ⟨v1287, hv1287, rv1287⟩ := gRd IM1217 (by decide) (gsz hsz (by decide)) (ra_194 v1216).1
                      refine g_iald2 (n := 204) (v := v1287) X (by decide) (gsz hsz (by decide)) lay_194 (by omega) (by omega) (by decide) dX12_road_203 rfl hv1287 ?_
                      refine g_iast (n := 205) X (by decide) (gsz hsz (by decide)) lay_191 (by omega) (by omega) (by decide) dX12_road_204 rfl ?_
                      refine G.nm (fun M1288 e1289 => ?_)
                      have IM1288 : gI sz M1288 := gI.set IM1217 (rs_ROAD (k := v1216 + 24) (by omega)).1 (by omega) e1289
                      have CM1288 : gC sz M1288 := gC.set CM1217 (rs_ROAD (k := v1216 + 24) (by omega)).2.1 e1289
                      refine g_iinc (n := 208) (w := v1216 + 1) (L' := [(5, gJ (v1216 + 1)), (0, gA n0 190), (4, gJ v14)]) X 2 dX12_road_205 rfl rfl (by decide) rfl rfl ?_
                      refine g_goto (tgt := 181) X dX12_road_208 (by decide) ?_
                      refine G.sub (L' := [(0, gA n0 190), (4, gJ v14), (5, gJ (v1216 + 1))]) [1, 2, 0] rfl ?_
                      exact ih1284 (v1216 + 1) M1288 (by omega) IM1288 CM1288 (gFr.s (gFr.c gFr.rf FM1217 rfl) e1289 (rs_ROAD (k := v1216 + 24) (by omega)).2.2 rfl) (by omega)
                refine G.sub (L' := [(0, gA n0 190), (4, gJ v14), (5, gJ 0)]) [1, 5, 0] rfl ?_
                exact j1218 _ 0 M16 (by omega) IM16 CM16 gFr.rf (Nat.lt_succ_self _)
              · refine g_iconst (n := 48) X dX12_road_47 rfl ?_
                refine g_istore (n := 50) (L' := [(6, gJ 0), (0, gA n0 190), (1, gJ a), (2, gJ b), (3, gJ c), (4, gJ v14), (5, gJ v15)]) X dX12_road_48 (by decide) rfl rfl ?_
                have j1293 : ∀ (N1474 : Nat) (v1290 v1291 : Int) (M1292 : gM) , (0 ≤ v1290 ∧ v1290 ≤ 1) → (0 ≤ v1291 ∧ v1291 ≤ 6) → gI sz M1292 → gC sz M1292 → gFr 36893488147419103232 M16 M1292 → (6 - v1291).toNat < N1474 → G p l e R_X12_road s m args below meth cd n0 D cA 10 Q 0 0 M1292 sz 50 [(0, gA n0 190), (1, gJ a), (2, gJ b), (3, gJ c), (4, gJ v1290), (5, gJ v15), (6, gJ v1291)] [] := by
                  intro N1474; induction N1474 with
                  | zero => intro v1290 v1291 M1292 rv1290 rv1291 IM1292 CM1292 FM1292 hm1476; exfalso; omega
                  | succ N1474 ih1475 =>
                    intro v1290 v1291 M1292 rv1290 rv1291 IM1292 CM1292 FM1292 hm1476
                    refine g_iload (n := 52) X 6 dX12_road_50 rfl rfl ?_
                    refine g_bipush (n := 54) X dX12_road_52 (by decide +kernel) rfl ?_
                    refine g_icmp_ge (n := 57) (tgt := 172) X dX12_road_54 (by decide) (by omega) (by omega) rfl (fun c1477 => ?_) (fun c1477 => ?_)
                    · refine g_iinc (n := 175) (w := v15 + 1) (L' := [(5, gJ (v15 + 1)), (0, gA n0 190), (1, gJ a), (2, gJ b), (3, gJ c), (4, gJ v1290), (6, gJ v1291)]) X 5 dX12_road_172 rfl rfl (by decide) rfl rfl ?_
                      refine g_goto (tgt := 40) X dX12_road_175 (by decide) ?_
                      refine G.sub (L' := [(0, gA n0 190), (1, gJ a), (2, gJ b), (3, gJ c), (4, gJ v1290), (5, gJ (v15 + 1))]) [1, 2, 3, 4, 5, 0] rfl ?_
                      exact ih1213 v1290 (v15 + 1) M1292 (by omega) (by omega) IM1292 CM1292 (gFr.c (gFr.c gFr.rf FM16 rfl) FM1292 rfl) (by omega)
                    · refine g_aload_n (n := 58) X 0 dX12_road_57 rfl rfl rfl ?_
                      refine g_iload (n := 60) X 5 dX12_road_58 rfl rfl ?_
                      refine g_iload_n (n := 61) X 1 dX12_road_60 rfl rfl rfl ?_
                      refine g_callVi (n := 64) (As := [gJ v15, gJ a]) (rest := []) (cs1 := 0) (ss1 := 0) X (s_X12_farOf2 v15 (by omega) a (by omega) hsz IM1292 CM1292 ) okX12_farOf kw_6_113 ⟨kw_6_115, kw_0_39⟩ ⟨rfl, rfl⟩ ⟨Nat.le_of_ble_eq_true rfl, Nat.le_of_ble_eq_true rfl⟩ rfl (by decide) (gsz hsz (by decide)) lay_190 rfl rfl (Nat.le_of_ble_eq_true rfl) ⟨Nat.le_of_ble_eq_true rfl, Nat.le_of_ble_eq_true rfl⟩ rfl rfl dX12_road_61 rfl (fun v1478 M1479 P1480 => ?_)
                      obtain ⟨rfl, rv1478, xv1478⟩ := P1480
                      refine g_iload_n (n := 65) X 3 dX12_road_64 rfl rfl rfl ?_
                      refine g_iadd (n := 66) (z := v1478 + c) X dX12_road_65 rfl rfl ?_
                      refine g_aload_n (n := 67) X 0 dX12_road_66 rfl rfl rfl ?_
                      refine g_iload_n (n := 68) X 2 dX12_road_67 rfl rfl rfl ?_
                      refine g_iload (n := 70) X 6 dX12_road_68 rfl rfl ?_
                      refine g_callVi (n := 73) (As := [gJ b, gJ v1291]) (rest := [gJ (v1478 + c)]) (cs1 := 0) (ss1 := 0) X (s_X12_farOf2 b (by omega) v1291 (by omega) hsz IM1292 CM1292 ) okX12_farOf kw_6_113 ⟨kw_6_115, kw_0_39⟩ ⟨rfl, rfl⟩ ⟨Nat.le_of_ble_eq_true rfl, Nat.le_of_ble_eq_true rfl⟩ rfl (by decide) (gsz hsz (by decide)) lay_190 rfl rfl (Nat.le_of_ble_eq_true rfl) ⟨Nat.le_of_ble_eq_true rfl, Nat.le_of_ble_eq_true rfl⟩ rfl rfl dX12_road_70 rfl (fun v1481 M1482 P1483 => ?_)
                      obtain ⟨rfl, rv1481, xv1481⟩ := P1483
                      refine g_iadd (n := 74) (z := (v1478 + c) + v1481) X dX12_road_73 rfl rfl ?_
                      refine g_istore (n := 76) (L' := [(7, gJ ((v1478 + c) + v1481)), (0, gA n0 190), (1, gJ a), (2, gJ b), (3, gJ c), (4, gJ v1290), (5, gJ v15), (6, gJ v1291)]) X dX12_road_74 (by decide) rfl rfl ?_
                      refine g_aload_n (n := 77) X 1 dX12_road_76 rfl rfl rfl ?_
                      refine g_iload (n := 79) X 6 dX12_road_77 rfl rfl ?_
                      refine g_iload_n (n := 80) X 3 dX12_road_79 rfl rfl rfl ?_
                      refine g_callVi (n := 83) (As := [gJ v15, gJ b]) (rest := []) (cs1 := 0) (ss1 := 0) X (s_X12_farOf2 v15 (by omega) b (by omega) hsz IM1292 CM1292 ) okX12_farOf kw_6_113 ⟨kw_6_115, kw_0_39⟩ ⟨rfl, rfl⟩ ⟨Nat.le_of_ble_eq_true rfl, Nat.le_of_ble_eq_true rfl⟩ rfl (by decide) (gsz hsz (by decide)) lay_190 rfl rfl (Nat.le_of_ble_eq_true rfl) ⟨Nat.le_of_ble_eq_true rfl, Nat.le_of_ble_eq_true rfl⟩ rfl rfl dX12_road_80 rfl (fun v1484 M1485 P1486 => ?_)
                      obtain ⟨rfl, rv1484, xv1484⟩ := P1486
                      refine g_iload_n (n := 84) X 4 dX12_road_83 rfl rfl rfl ?_
                      refine g_iadd (n := 85) (z := v1484 + c) X dX12_road_84 rfl rfl ?_
                      refine g_aload_n (n := 86) X 1 dX12_road_85 rfl rfl rfl ?_
                      refine g_iload_n (n := 87) X 2 dX12_road_86 rfl rfl rfl ?_
                      refine g_iload (n := 89) X 7 dX12_road_87 rfl rfl ?_
                      refine g_callVi (n := 92) (As := [gJ a, gJ v1291]) (rest := [gJ (v1484 + c)]) (cs1 := 0) (ss1 := 0) X (s_X12_farOf2 a (by omega) v1291 (by omega) hsz IM1292 CM1292 ) okX12_farOf kw_6_113 ⟨kw_6_115, kw_0_39⟩ ⟨rfl, rfl⟩ ⟨Nat.le_of_ble_eq_true rfl, Nat.le_of_ble_eq_true rfl⟩ rfl (by decide) (gsz hsz (by decide)) lay_190 rfl rfl (Nat.le_of_ble_eq_true rfl) ⟨Nat.le_of_ble_eq_true rfl, Nat.le_of_ble_eq_true rfl⟩ rfl rfl dX12_road_89 rfl (fun v1487 M1488 P1489 => ?_)
                      obtain ⟨rfl, rv1487, xv1487⟩ := P1489
                      refine g_iadd (n := 93) (z := (v1484 + c) + v1487) X dX12_road_92 rfl rfl ?_
                      refine g_istore (n := 95) (L' := [(8, gJ ((v1484 + c) + v1487)), (7, gJ ((v1478 + c) + v1481)), (0, gA n0 190), (1, gJ a), (2, gJ b), (3, gJ c), (4, gJ v1290), (5, gJ v15), (6, gJ v1291)]) X dX12_road_93 (by decide) rfl rfl ?_
                      refine g_iload (n := 97) X 1 dX12_road_95 rfl rfl ?_
                      refine g_iload (n := 99) X 0 dX12_road_97 rfl rfl ?_
                      refine g_icmp_ge (n := 102) (tgt := 107) X dX12_road_99 (by decide) (by omega) (by omega) rfl (fun c1490 => ?_) (fun c1490 => ?_)
                      · refine g_iload (n := 109) X 0 dX12_road_107 rfl rfl ?_
                        refine g_istore (n := 111) (L' := [(9, gJ ((v1484 + c) + v1487)), (8, gJ ((v1484 + c) + v1487)), (7, gJ ((v1478 + c) + v1481)), (0, gA n0 190), (1, gJ a), (2, gJ b), (3, gJ c), (4, gJ v1290), (5, gJ v15), (6, gJ v1291)]) X dX12_road_109 (by decide) rfl rfl ?_
                        refine g_iload (n := 113) X 0 dX12_road_111 rfl rfl ?_
                        refine g_aload_n (n := 114) X 3 dX12_road_113 rfl rfl rfl ?_
                        refine g_iload (n := 116) X 8 dX12_road_114 rfl rfl ?_
                        refine g_iload (n := 118) X 9 dX12_road_116 rfl rfl ?_
                        refine g_callVi (n := 121) (As := [gJ v15, gJ v1291]) (rest := [gJ ((v1484 + c) + v1487)]) (cs1 := 0) (ss1 := 0) X (s_X12_farOf2 v15 (by omega) v1291 (by omega) hsz IM1292 CM1292 ) okX12_farOf kw_6_113 ⟨kw_6_115, kw_0_39⟩ ⟨rfl, rfl⟩ ⟨Nat.le_of_ble_eq_true rfl, Nat.le_of_ble_eq_true rfl⟩ rfl (by decide) (gsz hsz (by decide)) lay_190 rfl rfl (Nat.le_of_ble_eq_true rfl) ⟨Nat.le_of_ble_eq_true rfl, Nat.le_of_ble_eq_true rfl⟩ rfl rfl dX12_road_118 rfl (fun v1491 M1492 P1493 => ?_)
                        obtain ⟨rfl, rv1491, xv1491⟩ := P1493
                        refine g_icmp_ge (n := 124) (tgt := 145) X dX12_road_121 (by decide) (by omega) (by omega) rfl (fun c1494 => ?_) (fun c1494 => ?_)
                        · refine g_aload_n (n := 146) X 3 dX12_road_145 rfl rfl rfl ?_
                          refine gg_12_5 (n := 149) (z := 194) X (by decide) (gsz hsz (by decide)) lay_190 kw_6_31 dX12_road_146 rfl (rf_190_5 IM1292 (gsz hsz (by decide))) (by decide) ?_
                          refine g_bipush (n := 151) X dX12_road_149 (by decide +kernel) rfl ?_
                          refine g_iload (n := 153) X 8 dX12_road_151 rfl rfl ?_
                          refine g_imul (n := 154) (z := 6 * v15) X dX12_road_153 rfl rfl ?_
                          refine g_iload (n := 156) X 9 dX12_road_154 rfl rfl ?_
                          refine g_iadd (n := 157) (z := (6 * v15) + v1291) X dX12_road_156 rfl rfl ?_
                          refine g_aload_n (n := 158) X 3 dX12_road_157 rfl rfl rfl ?_
                          refine g_iload (n := 160) X 8 dX12_road_158 rfl rfl ?_
                          refine g_iload (n := 162) X 9 dX12_road_160 rfl rfl ?_
                          refine g_callVi (n := 165) (As := [gJ v15, gJ v1291]) (rest := [gJ ((6 * v15) + v1291), gA n0 194]) (cs1 := 0) (ss1 := 0) X (s_X12_farOf2 v15 (by omega) v1291 (by omega) hsz IM1292 CM1292 ) okX12_farOf kw_6_113 ⟨kw_6_115, kw_0_39⟩ ⟨rfl, rfl⟩ ⟨Nat.le_of_ble_eq_true rfl, Nat.le_of_ble_eq_true rfl⟩ rfl (by decide) (gsz hsz (by decide)) lay_190 rfl rfl (Nat.le_of_ble_eq_true rfl) ⟨Nat.le_of_ble_eq_true rfl, Nat.le_of_ble_eq_true rfl⟩ rfl rfl dX12_road_162 rfl (fun v1495 M1496 P1497 => ?_)
                          obtain ⟨rfl, rv1495, xv1495⟩ := P1497
                          refine g_iast (n := 166) X (by decide) (gsz hsz (by decide)) lay_194 (by omega) (by omega) (by decide) dX12_road_165 rfl ?_
                          refine G.nm (fun M1498 e1499 => ?_)
                          have IM1498 : gI sz M1498 := gI.set IM1292 (ra_194 ((6 * v15) + v1291)).1 (by omega) e1499
                          have CM1498 : gC sz M1498 := gC.set CM1292 (ra_194 ((6 * v15) + v1291)).2.1 e1499
                          refine g_iinc (n := 169) (w := v1291 + 1) (L' := [(6, gJ (v1291 + 1)), (9, gJ ((v1484 + c) + v1487)), (8, gJ ((v1484 + c) + v1487)), (7, gJ ((v1478 + c) + v1481)), (0, gA n0 190), (1, gJ a), (2, gJ b), (3, gJ c), (4, gJ v1290), (5, gJ v15)]) X 9 dX12_road_166 rfl rfl (by decide) rfl rfl ?_
                          refine g_goto (tgt := 50) X dX12_road_169 (by decide) ?_
                          refine G.sub (L' := [(0, gA n0 190), (1, gJ a), (2, gJ b), (3, gJ c), (4, gJ v1290), (5, gJ v15), (6, gJ (v1291 + 1))]) [4, 5, 6, 7, 8, 9, 0] rfl ?_
                          exact ih1475 v1290 (v1291 + 1) M1498 (by omega) (by omega) IM1498 CM1498 (gFr.s (gFr.c gFr.rf FM1292 rfl) e1499 (ra_194 ((6 * v15) + v1291)).2.2 rfl) (by omega)
                        · refine g_iconst (n := 125) X dX12_road_124 rfl ?_
                          refine g_istore (n := 127) (L' := [(4, gJ 1), (9, gJ ((v1484 + c) + v1487)), (8, gJ ((v1484 + c) + v1487)), (7, gJ ((v1478 + c) + v1481)), (0, gA n0 190), (1, gJ a), (2, gJ b), (3, gJ c), (5, gJ v15), (6, gJ v1291)]) X dX12_road_125 (by decide) rfl rfl ?_
                          refine g_aload_n (n := 128) X 4 dX12_road_127 rfl rfl rfl ?_
                          refine gg_12_5 (n := 131) (z := 194) X (by decide) (gsz hsz (by decide)) lay_190 kw_6_31 dX12_road_128 rfl (rf_190_5 IM1292 (gsz hsz (by decide))) (by decide) ?_
                          refine g_bipush (n := 133) X dX12_road_131 (by decide +kernel) rfl ?_
                          refine g_iload (n := 135) X 8 dX12_road_133 rfl rfl ?_
                          refine g_imul (n := 136) (z := 6 * v15) X dX12_road_135 rfl rfl ?_
                          refine g_iload (n := 138) X 9 dX12_road_136 rfl rfl ?_
                          refine g_iadd (n := 139) (z := (6 * v15) + v1291) X dX12_road_138 rfl rfl ?_
                          refine g_iload (n := 141) X 1 dX12_road_139 rfl rfl ?_
                          refine g_iast (n := 142) X (by decide) (gsz hsz (by decide)) lay_194 (by omega) (by omega) (by decide) dX12_road_141 rfl ?_
                          refine G.nm (fun M1500 e1501 => ?_)
                          have IM1500 : gI sz M1500 := gI.set IM1292 (ra_194 ((6 * v15) + v1291)).1 (by omega) e1501
                          have CM1500 : gC sz M1500 := gC.set CM1292 (ra_194 ((6 * v15) + v1291)).2.1 e1501
                          refine g_goto (tgt := 166) X dX12_road_142 (by decide) ?_
                          refine g_iinc (n := 169) (w := v1291 + 1) (L' := [(6, gJ (v1291 + 1)), (4, gJ 1), (9, gJ ((v1484 + c) + v1487)), (8, gJ ((v1484 + c) + v1487)), (7, gJ ((v1478 + c) + v1481)), (0, gA n0 190), (1, gJ a), (2, gJ b), (3, gJ c), (5, gJ v15)]) X 9 dX12_road_166 rfl rfl (by decide) rfl rfl ?_
                          refine g_goto (tgt := 50) X dX12_road_169 (by decide) ?_
                          refine G.sub (L' := [(0, gA n0 190), (1, gJ a), (2, gJ b), (3, gJ c), (4, gJ 1), (5, gJ v15), (6, gJ (v1291 + 1))]) [5, 6, 7, 8, 1, 9, 0] rfl ?_
                          exact ih1475 1 (v1291 + 1) M1500 (by omega) (by omega) IM1500 CM1500 (gFr.s (gFr.c gFr.rf FM1292 rfl) e1501 (ra_194 ((6 * v15) + v1291)).2.2 rfl) (by omega)
                      · refine g_iload (n := 104) X 1 dX12_road_102 rfl rfl ?_
                        refine g_goto (tgt := 109) X dX12_road_104 (by decide) ?_
                        refine g_istore (n := 111) (L' := [(9, gJ ((v1478 + c) + v1481)), (8, gJ ((v1484 + c) + v1487)), (7, gJ ((v1478 + c) + v1481)), (0, gA n0 190), (1, gJ a), (2, gJ b), (3, gJ c), (4, gJ v1290), (5, gJ v15), (6, gJ v1291)]) X dX12_road_109 (by decide) rfl rfl ?_
                        refine g_iload (n := 113) X 0 dX12_road_111 rfl rfl ?_
                        refine g_aload_n (n := 114) X 3 dX12_road_113 rfl rfl rfl ?_
                        refine g_iload (n := 116) X 8 dX12_road_114 rfl rfl ?_
                        refine g_iload (n := 118) X 9 dX12_road_116 rfl rfl ?_
                        refine g_callVi (n := 121) (As := [gJ v15, gJ v1291]) (rest := [gJ ((v1478 + c) + v1481)]) (cs1 := 0) (ss1 := 0) X (s_X12_farOf2 v15 (by omega) v1291 (by omega) hsz IM1292 CM1292 ) okX12_farOf kw_6_113 ⟨kw_6_115, kw_0_39⟩ ⟨rfl, rfl⟩ ⟨Nat.le_of_ble_eq_true rfl, Nat.le_of_ble_eq_true rfl⟩ rfl (by decide) (gsz hsz (by decide)) lay_190 rfl rfl (Nat.le_of_ble_eq_true rfl) ⟨Nat.le_of_ble_eq_true rfl, Nat.le_of_ble_eq_true rfl⟩ rfl rfl dX12_road_118 rfl (fun v1502 M1503 P1504 => ?_)
                        obtain ⟨rfl, rv1502, xv1502⟩ := P1504
                        refine g_icmp_ge (n := 124) (tgt := 145) X dX12_road_121 (by decide) (by omega) (by omega) rfl (fun c1505 => ?_) (fun c1505 => ?_)
                        · refine g_aload_n (n := 146) X 3 dX12_road_145 rfl rfl rfl ?_
                          refine gg_12_5 (n := 149) (z := 194) X (by decide) (gsz hsz (by decide)) lay_190 kw_6_31 dX12_road_146 rfl (rf_190_5 IM1292 (gsz hsz (by decide))) (by decide) ?_
                          refine g_bipush (n := 151) X dX12_road_149 (by decide +kernel) rfl ?_
                          refine g_iload (n := 153) X 8 dX12_road_151 rfl rfl ?_
                          refine g_imul (n := 154) (z := 6 * v15) X dX12_road_153 rfl rfl ?_
                          refine g_iload (n := 156) X 9 dX12_road_154 rfl rfl ?_
                          refine g_iadd (n := 157) (z := (6 * v15) + v1291) X dX12_road_156 rfl rfl ?_
                          refine g_aload_n (n := 158) X 3 dX12_road_157 rfl rfl rfl ?_
                          refine g_iload (n := 160) X 8 dX12_road_158 rfl rfl ?_
                          refine g_iload (n := 162) X 9 dX12_road_160 rfl rfl ?_
                          refine g_callVi (n := 165) (As := [gJ v15, gJ v1291]) (rest := [gJ ((6 * v15) + v1291), gA n0 194]) (cs1 := 0) (ss1 := 0) X (s_X12_farOf2 v15 (by omega) v1291 (by omega) hsz IM1292 CM1292 ) okX12_farOf kw_6_113 ⟨kw_6_115, kw_0_39⟩ ⟨rfl, rfl⟩ ⟨Nat.le_of_ble_eq_true rfl, Nat.le_of_ble_eq_true rfl⟩ rfl (by decide) (gsz hsz (by decide)) lay_190 rfl rfl (Nat.le_of_ble_eq_true rfl) ⟨Nat.le_of_ble_eq_true rfl, Nat.le_of_ble_eq_true rfl⟩ rfl rfl dX12_road_162 rfl (fun v1506 M1507 P1508 => ?_)
                          obtain ⟨rfl, rv1506, xv1506⟩ := P1508
                          refine g_iast (n := 166) X (by decide) (gsz hsz (by decide)) lay_194 (by omega) (by omega) (by decide) dX12_road_165 rfl ?_
                          refine G.nm (fun M1509 e1510 => ?_)
                          have IM1509 : gI sz M1509 := gI.set IM1292 (ra_194 ((6 * v15) + v1291)).1 (by omega) e1510
                          have CM1509 : gC sz M1509 := gC.set CM1292 (ra_194 ((6 * v15) + v1291)).2.1 e1510
                          refine g_iinc (n := 169) (w := v1291 + 1) (L' := [(6, gJ (v1291 + 1)), (9, gJ ((v1478 + c) + v1481)), (8, gJ ((v1484 + c) + v1487)), (7, gJ ((v1478 + c) + v1481)), (0, gA n0 190), (1, gJ a), (2, gJ b), (3, gJ c), (4, gJ v1290), (5, gJ v15)]) X 9 dX12_road_166 rfl rfl (by decide) rfl rfl ?_
                          refine g_goto (tgt := 50) X dX12_road_169 (by decide) ?_
                          refine G.sub (L' := [(0, gA n0 190), (1, gJ a), (2, gJ b), (3, gJ c), (4, gJ v1290), (5, gJ v15), (6, gJ (v1291 + 1))]) [4, 5, 6, 7, 8, 9, 0] rfl ?_
                          exact ih1475 v1290 (v1291 + 1) M1509 (by omega) (by omega) IM1509 CM1509 (gFr.s (gFr.c gFr.rf FM1292 rfl) e1510 (ra_194 ((6 * v15) + v1291)).2.2 rfl) (by omega)
                        · refine g_iconst (n := 125) X dX12_road_124 rfl ?_
                          refine g_istore (n := 127) (L' := [(4, gJ 1), (9, gJ ((v1478 + c) + v1481)), (8, gJ ((v1484 + c) + v1487)), (7, gJ ((v1478 + c) + v1481)), (0, gA n0 190), (1, gJ a), (2, gJ b), (3, gJ c), (5, gJ v15), (6, gJ v1291)]) X dX12_road_125 (by decide) rfl rfl ?_
                          refine g_aload_n (n := 128) X 4 dX12_road_127 rfl rfl rfl ?_
                          refine gg_12_5 (n := 131) (z := 194) X (by decide) (gsz hsz (by decide)) lay_190 kw_6_31 dX12_road_128 rfl (rf_190_5 IM1292 (gsz hsz (by decide))) (by decide) ?_
                          refine g_bipush (n := 133) X dX12_road_131 (by decide +kernel) rfl ?_
                          refine g_iload (n := 135) X 8 dX12_road_133 rfl rfl ?_
                          refine g_imul (n := 136) (z := 6 * v15) X dX12_road_135 rfl rfl ?_
                          refine g_iload (n := 138) X 9 dX12_road_136 rfl rfl ?_
                          refine g_iadd (n := 139) (z := (6 * v15) + v1291) X dX12_road_138 rfl rfl ?_
                          refine g_iload (n := 141) X 1 dX12_road_139 rfl rfl ?_
                          refine g_iast (n := 142) X (by decide) (gsz hsz (by decide)) lay_194 (by omega) (by omega) (by decide) dX12_road_141 rfl ?_
                          refine G.nm (fun M1511 e1512 => ?_)
                          have IM1511 : gI sz M1511 := gI.set IM1292 (ra_194 ((6 * v15) + v1291)).1 (by omega) e1512
                          have CM1511 : gC sz M1511 := gC.set CM1292 (ra_194 ((6 * v15) + v1291)).2.1 e1512
                          refine g_goto (tgt := 166) X dX12_road_142 (by decide) ?_
                          refine g_iinc (n := 169) (w := v1291 + 1) (L' := [(6, gJ (v1291 + 1)), (4, gJ 1), (9, gJ ((v1478 + c) + v1481)), (8, gJ ((v1484 + c) + v1487)), (7, gJ ((v1478 + c) + v1481)), (0, gA n0 190), (1, gJ a), (2, gJ b), (3, gJ c), (5, gJ v15)]) X 9 dX12_road_166 rfl rfl (by decide) rfl rfl ?_
                          refine g_goto (tgt := 50) X dX12_road_169 (by decide) ?_
                          refine G.sub (L' := [(0, gA n0 190), (1, gJ a), (2, gJ b), (3, gJ c), (4, gJ 1), (5, gJ v15), (6, gJ (v1291 + 1))]) [5, 6, 7, 8, 1, 9, 0] rfl ?_
                          exact ih1475 1 (v1291 + 1) M1511 (by omega) (by omega) IM1511 CM1511 (gFr.s (gFr.c gFr.rf FM1292 rfl) e1512 (ra_194 ((6 * v15) + v1291)).2.2 rfl) (by omega)
                refine G.sub (L' := [(0, gA n0 190), (1, gJ a), (2, gJ b), (3, gJ c), (4, gJ v14), (5, gJ v15), (6, gJ 0)]) [1, 2, 3, 4, 5, 6, 0] rfl ?_
                exact j1293 _ v14 0 M16 (by omega) (by omega) IM16 CM16 gFr.rf (Nat.lt_succ_self _)
          refine G.sub (L' := [(0, gA n0 190), (1, gJ a), (2, gJ b), (3, gJ c), (4, gJ 0), (5, gJ 0)]) [2, 3, 4, 5, 1, 0] rfl ?_
          exact j17 _ 0 0 M (by omega) (by omega) I C gFr.rf (Nat.lt_succ_self _)
        · refine g_bipush (n := 33) X dX12_road_31 (by decide +kernel) rfl ?_
          exact hq _ _ _ _ dX12_road_33 ⟨by omega, I, C, gFr.rf⟩
    · refine g_iconst (n := 15) X dX12_road_14 rfl ?_
      exact hq _ _ _ _ dX12_road_15 ⟨by omega, I, C, gFr.rf⟩
theorem dX12_here_0 : decode cX12_here 0 = .ok (.aload_n 0, 1) := dc_42 (by decide +kernel)
theorem dX12_here_1 : decode cX12_here 1 = .ok (.getfield 129, 3) := dc_180 0 129 (by decide +kernel)
theorem kw_6_38 : (Jvm.Cond.fieldLink "ParishUnionModel" (129 : Nat) "ParishUnionModel" "spot" "I") ∈ gT := gT_of (tb_6 _ (List.mem_of_getElem? (i := 38) rfl)) rfl
theorem rc_190_12 : gRg 190 12 = (-1, 150) ∧ gCr 190 12 = false ∧ gG 190 12 = 67 := by decide +kernel
theorem dX12_here_4 : decode cX12_here 4 = .ok (.aload_n 0, 1) := dc_42 (by decide +kernel)
theorem dX12_here_5 : decode cX12_here 5 = .ok (.getfield 7, 3) := dc_180 0 7 (by decide +kernel)
theorem dX12_here_8 : decode cX12_here 8 = .ok (.sipush 668, 3) := dc_17 2 156 668 (by decide +kernel)
theorem dX12_here_11 : decode cX12_here 11 = .ok (.aload_n 0, 1) := dc_42 (by decide +kernel)
theorem dX12_here_12 : decode cX12_here 12 = .ok (.getfield 132, 3) := dc_180 0 132 (by decide +kernel)
theorem kw_6_37 : (Jvm.Cond.fieldLink "ParishUnionModel" (132 : Nat) "ParishUnionModel" "act" "I") ∈ gT := gT_of (tb_6 _ (List.mem_of_getElem? (i := 37) rfl)) rfl
theorem rc_190_11 : gRg 190 11 = (0, 10) ∧ gCr 190 11 = false ∧ gG 190 11 = 68 := by decide +kernel
theorem dX12_here_15 : decode cX12_here 15 = .ok (.iadd, 1) := dc_96 (by decide +kernel)
theorem dX12_here_16 : decode cX12_here 16 = .ok (.iaload, 1) := dc_46 (by decide +kernel)
theorem dX12_here_17 : decode cX12_here 17 = .ok (.if_icmp .ge 28, 3) := dc_162 0 28 28 (by decide +kernel)
theorem dX12_here_45 : decode cX12_here 45 = .ok (.iconst (-1), 1) := dc_2 (by decide +kernel)
theorem dX12_here_46 : decode cX12_here 46 = .ok (.ireturn, 1) := dc_172 (by decide +kernel)
theorem dX12_here_20 : decode cX12_here 20 = .ok (.aload_n 0, 1) := dc_42 (by decide +kernel)
theorem dX12_here_21 : decode cX12_here 21 = .ok (.getfield 7, 3) := dc_180 0 7 (by decide +kernel)
theorem dX12_here_24 : decode cX12_here 24 = .ok (.sipush 680, 3) := dc_17 2 168 680 (by decide +kernel)
theorem dX12_here_27 : decode cX12_here 27 = .ok (.sipush 150, 3) := dc_17 0 150 150 (by decide +kernel)
theorem dX12_here_30 : decode cX12_here 30 = .ok (.aload_n 0, 1) := dc_42 (by decide +kernel)
theorem dX12_here_31 : decode cX12_here 31 = .ok (.getfield 132, 3) := dc_180 0 132 (by decide +kernel)
theorem dX12_here_34 : decode cX12_here 34 = .ok (.imul, 1) := dc_104 (by decide +kernel)
theorem dX12_here_35 : decode cX12_here 35 = .ok (.iadd, 1) := dc_96 (by decide +kernel)
theorem dX12_here_36 : decode cX12_here 36 = .ok (.aload_n 0, 1) := dc_42 (by decide +kernel)
theorem dX12_here_37 : decode cX12_here 37 = .ok (.getfield 129, 3) := dc_180 0 129 (by decide +kernel)
theorem dX12_here_40 : decode cX12_here 40 = .ok (.iadd, 1) := dc_96 (by decide +kernel)
theorem dX12_here_41 : decode cX12_here 41 = .ok (.iaload, 1) := dc_46 (by decide +kernel)
theorem rsp_668_2340 {sz : Nat} {M : gM} {k : Int} (I : gI sz M) (h1 : (191 : Int) < (sz : Int)) (h : 668 ≤ k ∧ k < 2340) : ∃ v : Int, M 191 k = v ∧ (0 ≤ v ∧ v ≤ 255) := by
  rcases (by omega : (668 ≤ k ∧ k < 680) ∨ (680 ≤ k ∧ k < 2340)) with h | h
  · obtain ⟨v, hv, rv⟩ := gRd I (by decide) h1 (rs_ALONG h).1
    exact ⟨v, hv, by omega⟩
  · obtain ⟨v, hv, rv⟩ := gRd I (by decide) h1 (rs_ATEXT h).1
    exact ⟨v, hv, by omega⟩
theorem dX12_here_42 : decode cX12_here 42 = .ok (.goto 4, 3) := dc_167 0 4 4 (by decide +kernel)
abbrev R_X12_here : Room := { frames := 0, cells := 0, slots := 0, locals := 0 }
set_option maxRecDepth 100000 in
set_option maxHeartbeats 4000000 in
theorem s_X12_here {l : Launch} {n0 : Nat} {D : va_G} {cA : Nat → ClassId} {M : gM}  {sz : Nat} (hsz : 206 ≤ sz) (I : gI sz M) (C : gC sz M)   : Met l yX12_here (gWsOf yX12_here cX12_here 1 (Option.some Jvm.ClassFile.FieldType.int)) R_X12_here (gPc n0 D cA [gA n0 190] M sz) (gQi n0 D cA sz (fun z M1 => M = M1 ∧ (-1 ≤ z ∧ z ≤ 255) ∧ (((M 190 12 < M 191 (M 190 11 + 668) ∧ M 190 12 ≤ 149) ∧ z = M 191 ((680 + (150 * M 190 11)) + M 190 12) ∧ 0 ≤ z) ∨ (¬ M 190 12 < M 191 (M 190 11 + 668) ∧ z = -1)))) 0 0 (fun q => n0 ≤ q) := by
  refine gMetI [gA n0 190] (by decide) (Nat.le_of_ble_eq_true rfl) ⟨rfl, rfl⟩ ?_
  intro p e s m args below meth cd Q X hq
  have X : gCx p s m args meth cd n0 D cA "ParishUnionModel" cX12_here 1 := X
  show G p l e R_X12_here s m args below meth cd n0 D cA 1 Q 0 0 M sz 0 [(0, gA n0 190)] []
  refine g_aload_n (n := 1) X 0 dX12_here_0 rfl rfl rfl ?_
  obtain ⟨v1, hv1, rv1⟩ := gRd I (by decide) (gsz hsz (by decide)) rc_190_12.1
  refine gg_12_12 (n := 4) (z := v1) X (by decide) (gsz hsz (by decide)) lay_190 kw_6_38 dX12_here_1 rfl hv1 ?_
  refine g_aload_n (n := 5) X 0 dX12_here_4 rfl rfl rfl ?_
  refine gg_12_1 (n := 8) (z := 191) X (by decide) (gsz hsz (by decide)) lay_190 kw_6_27 dX12_here_5 rfl (rf_190_1 I (gsz hsz (by decide))) (by decide) ?_
  refine g_sipush (n := 11) X dX12_here_8 (by decide +kernel) rfl ?_
  refine g_aload_n (n := 12) X 0 dX12_here_11 rfl rfl rfl ?_
  obtain ⟨v2, hv2, rv2⟩ := gRd I (by decide) (gsz hsz (by decide)) rc_190_11.1
  refine gg_12_11 (n := 15) (z := v2) X (by decide) (gsz hsz (by decide)) lay_190 kw_6_37 dX12_here_12 rfl hv2 ?_
  refine g_iadd (n := 16) (z := v2 + 668) X dX12_here_15 (by omega) rfl ?_
  obtain ⟨v3, hv3, rv3⟩ := gRd I (by decide) (gsz hsz (by decide)) (rs_ALONG (k := v2 + 668) (by omega)).1
  refine g_iald2 (n := 17) (v := v3) X (by decide) (gsz hsz (by decide)) lay_191 (by omega) (by omega) (by decide) dX12_here_16 rfl hv3 ?_
  refine g_icmp_ge (n := 20) (tgt := 45) X dX12_here_17 (by decide) (by omega) (by omega) rfl (fun c4 => ?_) (fun c4 => ?_)
  · refine g_iconst (n := 46) X dX12_here_45 rfl ?_
    exact hq _ _ _ _ dX12_here_46 ⟨rfl, by omega, by rw [hv1, hv2]; omega⟩
  · refine g_aload_n (n := 21) X 0 dX12_here_20 rfl rfl rfl ?_
    refine gg_12_1 (n := 24) (z := 191) X (by decide) (gsz hsz (by decide)) lay_190 kw_6_27 dX12_here_21 rfl (rf_190_1 I (gsz hsz (by decide))) (by decide) ?_
    refine g_sipush (n := 27) X dX12_here_24 (by decide +kernel) rfl ?_
    refine g_sipush (n := 30) X dX12_here_27 (by decide +kernel) rfl ?_
    refine g_aload_n (n := 31) X 0 dX12_here_30 rfl rfl rfl ?_
    refine gg_12_11 (n := 34) (z := v2) X (by decide) (gsz hsz (by decide)) lay_190 kw_6_37 dX12_here_31 rfl hv2 ?_
    refine g_imul (n := 35) (z := 150 * v2) X dX12_here_34 rfl rfl ?_
    refine g_iadd (n := 36) (z := 680 + (150 * v2)) X dX12_here_35 rfl rfl ?_
    refine g_aload_n (n := 37) X 0 dX12_here_36 rfl rfl rfl ?_
    refine gg_12_12 (n := 40) (z := v1) X (by decide) (gsz hsz (by decide)) lay_190 kw_6_38 dX12_here_37 rfl hv1 ?_
    refine g_iadd (n := 41) (z := (680 + (150 * v2)) + v1) X dX12_here_40 rfl rfl ?_
    obtain ⟨v5, hv5, rv5⟩ := rsp_668_2340 (k := (680 + (150 * v2)) + v1) I (gsz hsz (by decide)) (by omega)
    refine g_iald2 (n := 42) (v := v5) X (by decide) (gsz hsz (by decide)) lay_191 (by omega) (by omega) (by decide) dX12_here_41 rfl hv5 ?_
    refine g_goto (tgt := 46) X dX12_here_42 (by decide) ?_
    exact hq _ _ _ _ dX12_here_46 ⟨rfl, by omega, by rw [hv1, hv2]; omega⟩
theorem dX12_must_0 : decode cX12_must 0 = .ok (.aload_n 0, 1) := dc_42 (by decide +kernel)
theorem dX12_must_1 : decode cX12_must 1 = .ok (.aload_n 0, 1) := dc_42 (by decide +kernel)
theorem dX12_must_2 : decode cX12_must 2 = .ok (.getfield 135, 3) := dc_180 0 135 (by decide +kernel)
theorem kw_6_39 : (Jvm.Cond.fieldLink "ParishUnionModel" (135 : Nat) "ParishUnionModel" "isWrong" "Z") ∈ gT := gT_of (tb_6 _ (List.mem_of_getElem? (i := 39) rfl)) rfl
theorem rc_190_13 : gRg 190 13 = (0, 1) ∧ gCr 190 13 = false ∧ gG 190 13 = 67 := by decide +kernel
theorem dX12_must_5 : decode cX12_must 5 = .ok (.ifCond .ne 11, 3) := dc_154 0 11 11 (by decide +kernel)
theorem dX12_must_16 : decode cX12_must 16 = .ok (.iconst 1, 1) := dc_4 (by decide +kernel)
theorem dX12_must_17 : decode cX12_must 17 = .ok (.goto 4, 3) := dc_167 0 4 4 (by decide +kernel)
theorem dX12_must_21 : decode cX12_must 21 = .ok (.putfield 135, 3) := dc_181 0 135 (by decide +kernel)
theorem dX12_must_24 : decode cX12_must 24 = .ok (.aload_n 0, 1) := dc_42 (by decide +kernel)
theorem dX12_must_25 : decode cX12_must 25 = .ok (.dup, 1) := dc_89 (by decide +kernel)
theorem dX12_must_26 : decode cX12_must 26 = .ok (.getfield 129, 3) := dc_180 0 129 (by decide +kernel)
theorem dX12_must_29 : decode cX12_must 29 = .ok (.aload_n 0, 1) := dc_42 (by decide +kernel)
theorem dX12_must_30 : decode cX12_must 30 = .ok (.getfield 135, 3) := dc_180 0 135 (by decide +kernel)
theorem dX12_must_33 : decode cX12_must 33 = .ok (.ifCond .eq 7, 3) := dc_153 0 7 7 (by decide +kernel)
theorem dX12_must_36 : decode cX12_must 36 = .ok (.iconst 0, 1) := dc_3 (by decide +kernel)
theorem dX12_must_37 : decode cX12_must 37 = .ok (.goto 4, 3) := dc_167 0 4 4 (by decide +kernel)
theorem dX12_must_41 : decode cX12_must 41 = .ok (.iadd, 1) := dc_96 (by decide +kernel)
theorem dX12_must_42 : decode cX12_must 42 = .ok (.putfield 129, 3) := dc_181 0 129 (by decide +kernel)
theorem dX12_must_45 : decode cX12_must 45 = .ok (.return_, 1) := dc_177 (by decide +kernel)
theorem dX12_must_8 : decode cX12_must 8 = .ok (.aload_n 0, 1) := dc_42 (by decide +kernel)
theorem dX12_must_9 : decode cX12_must 9 = .ok (.invokevirtual 139, 3) := dc_182 0 139 (by decide +kernel)
theorem kw_7_26 : (Jvm.Cond.methodLink "ParishUnionModel" (139 : Nat) ({ cls := "ParishUnionModel", name := "here", desc := "()I" } : Jvm.MethodName)) ∈ gT := gT_of (tb_7 _ (List.mem_of_getElem? (i := 26) rfl)) rfl
theorem kw_7_29 : (Jvm.Cond.code ({ cls := "ParishUnionModel", name := "here", desc := "()I" } : Jvm.MethodName) prog_14_method_35_code (1 : Nat) (Option.some Jvm.ClassFile.FieldType.int)) ∈ gT := gT_of (tb_7 _ (List.mem_of_getElem? (i := 29) rfl)) rfl
theorem okX12_here : gQok yX12_here cX12_here 1 (Option.some Jvm.ClassFile.FieldType.int) 0 := ⟨kw_7_29, kw_1_13, by decide +kernel, by decide +kernel, by decide +kernel⟩
theorem kw_7_28 : (Jvm.Cond.instanceMethod ({ cls := "ParishUnionModel", name := "here", desc := "()I" } : Jvm.MethodName)) ∈ gT := gT_of (tb_7 _ (List.mem_of_getElem? (i := 28) rfl)) rfl
theorem kw_0_58 : (Jvm.Cond.selects "ParishUnionModel" ({ cls := "ParishUnionModel", name := "here", desc := "()I" } : Jvm.MethodName) ({ cls := "ParishUnionModel", name := "here", desc := "()I" } : Jvm.MethodName)) ∈ gT := gT_of (tb_0 _ (List.mem_of_getElem? (i := 58) rfl)) rfl
theorem dX12_must_12 : decode cX12_must 12 = .ok (.iload_n 1, 1) := dc_27 (by decide +kernel)
theorem dX12_must_13 : decode cX12_must 13 = .ok (.if_icmp .eq 7, 3) := dc_159 0 7 7 (by decide +kernel)
theorem dX12_must_20 : decode cX12_must 20 = .ok (.iconst 0, 1) := dc_3 (by decide +kernel)
theorem dX12_must_40 : decode cX12_must 40 = .ok (.iconst 1, 1) := dc_4 (by decide +kernel)
abbrev R_X12_must : Room := { frames := 1, cells := 0, slots := 0, locals := 20 }
set_option maxRecDepth 100000 in
set_option maxHeartbeats 4000000 in
theorem s_X12_must {l : Launch} {n0 : Nat} {D : va_G} {cA : Nat → ClassId} {M : gM} (a : Int) (r_a : 0 ≤ a ∧ a ≤ 255) {sz : Nat} (hsz : 206 ≤ sz) (I : gI sz M) (C : gC sz M)   : Met l yX12_must (gWsOf yX12_must cX12_must 2 (Option.none : Option Jvm.ClassFile.FieldType)) R_X12_must (gPc n0 D cA [gA n0 190, gJ a] M sz) (gQv n0 D cA sz (fun M1 => gI sz M1 ∧ gC sz M1 ∧ gFr 147573952589676412928 M M1 ∧ (M 190 12 ≤ M1 190 12))) 0 0 (fun q => n0 ≤ q) := by
  refine gMetV [gA n0 190, gJ a] (by decide) (Nat.le_of_ble_eq_true rfl) ⟨rfl, rfl⟩ ?_
  intro p e s m args below meth cd Q X hq
  have X : gCx p s m args meth cd n0 D cA "ParishUnionModel" cX12_must 2 := X
  show G p l e R_X12_must s m args below meth cd n0 D cA 2 Q 0 0 M sz 0 [(0, gA n0 190), (1, gJ a)] []
  obtain ⟨v1, hv1, rv1⟩ := gRd I (by decide) (gsz hsz (by decide)) rc_190_12.1
  refine g_aload_n (n := 1) X 0 dX12_must_0 rfl rfl rfl ?_
  refine g_aload_n (n := 2) X 0 dX12_must_1 rfl rfl rfl ?_
  obtain ⟨v2, hv2, rv2⟩ := gRd I (by decide) (gsz hsz (by decide)) rc_190_13.1
  refine gg_12_13 (n := 5) (z := v2) X (by decide) (gsz hsz (by decide)) lay_190 kw_6_39 dX12_must_2 rfl hv2 ?_
  refine g_if_ne (n := 8) (tgt := 16) X dX12_must_5 (by decide) (by omega) rfl (fun c3 => ?_) (fun c3 => ?_)
  · refine g_iconst (n := 17) X dX12_must_16 rfl ?_
    refine g_goto (tgt := 21) X dX12_must_17 (by decide) ?_
    refine gp_12_13 (n := 24) X (by decide) (gsz hsz (by decide)) lay_190 kw_6_39 (by omega) dX12_must_21 rfl ?_
    refine G.nm (fun M4 e5 => ?_)
    have IM4 : gI sz M4 := gI.set I rc_190_13.1 (by omega) e5
    have CM4 : gC sz M4 := gC.set C rc_190_13.2.1 e5
    refine g_aload_n (n := 25) X 0 dX12_must_24 rfl rfl rfl ?_
    refine g_dup (n := 26) X dX12_must_25 rfl rfl ?_
    refine gg_12_12 (n := 29) (z := v1) X (by decide) (gsz hsz (by decide)) lay_190 kw_6_38 dX12_must_26 rfl ((congrFun (congrFun e5 _) _).trans ((gset_ne (by omega)).trans hv1)) ?_
    refine g_aload_n (n := 30) X 0 dX12_must_29 rfl rfl rfl ?_
    refine gg_12_13 (n := 33) (z := 1) X (by decide) (gsz hsz (by decide)) lay_190 kw_6_39 dX12_must_30 rfl ((congrFun (congrFun e5 _) _).trans (gset_eq _ _ _ _)) ?_
    refine g_if_eq (n := 36) (tgt := 40) X dX12_must_33 (by decide) (by omega) rfl (fun c6 => by exfalso; omega) (fun c6 => ?_)
    refine g_iconst (n := 37) X dX12_must_36 rfl ?_
    refine g_goto (tgt := 41) X dX12_must_37 (by decide) ?_
    refine g_iadd (n := 42) (z := v1) X dX12_must_41 (by omega) rfl ?_
    refine gp_12_12 (n := 45) X (by decide) (gsz hsz (by decide)) lay_190 kw_6_38 dX12_must_42 rfl ?_
    refine G.nm (fun M7 e8 => ?_)
    have IM7 : gI sz M7 := gI.set IM4 rc_190_12.1 (by omega) e8
    have CM7 : gC sz M7 := gC.set CM4 rc_190_12.2.1 e8
    exact hq _ _ _ dX12_must_45 ⟨IM7, CM7, (gFr.s (gFr.s gFr.rf e5 rc_190_13.2.2 rfl) e8 rc_190_12.2.2 rfl), by have q12 := ((congrFun (congrFun e8 _) _).trans (gset_eq _ _ _ _)); omega⟩
  · refine g_aload_n (n := 9) X 0 dX12_must_8 rfl rfl rfl ?_
    refine g_callVi (n := 12) (As := []) (rest := [gA n0 190]) (cs1 := 0) (ss1 := 0) X (s_X12_here  hsz I C ) okX12_here kw_7_26 ⟨kw_7_28, kw_0_58⟩ ⟨rfl, rfl⟩ ⟨Nat.le_of_ble_eq_true rfl, Nat.le_of_ble_eq_true rfl⟩ rfl (by decide) (gsz hsz (by decide)) lay_190 rfl rfl (Nat.le_of_ble_eq_true rfl) ⟨Nat.le_of_ble_eq_true rfl, Nat.le_of_ble_eq_true rfl⟩ rfl rfl dX12_must_9 rfl (fun v9 M10 P11 => ?_)
    obtain ⟨rfl, rv9, xv9⟩ := P11
    refine g_iload_n (n := 13) X 1 dX12_must_12 rfl rfl rfl ?_
    refine g_icmp_eq (n := 16) (tgt := 20) X dX12_must_13 (by decide) (by omega) (by omega) rfl (fun c12 => ?_) (fun c12 => ?_)
    · refine g_iconst (n := 21) X dX12_must_20 rfl ?_
      refine gp_12_13 (n := 24) X (by decide) (gsz hsz (by decide)) lay_190 kw_6_39 (by omega) dX12_must_21 rfl ?_
      refine G.nm (fun M13 e14 => ?_)
      have IM13 : gI sz M13 := gI.set I rc_190_13.1 (by omega) e14
      have CM13 : gC sz M13 := gC.set C rc_190_13.2.1 e14
      refine g_aload_n (n := 25) X 0 dX12_must_24 rfl rfl rfl ?_
      refine g_dup (n := 26) X dX12_must_25 rfl rfl ?_
      refine gg_12_12 (n := 29) (z := v1) X (by decide) (gsz hsz (by decide)) lay_190 kw_6_38 dX12_must_26 rfl ((congrFun (congrFun e14 _) _).trans ((gset_ne (by omega)).trans hv1)) ?_
      refine g_aload_n (n := 30) X 0 dX12_must_29 rfl rfl rfl ?_
      refine gg_12_13 (n := 33) (z := 0) X (by decide) (gsz hsz (by decide)) lay_190 kw_6_39 dX12_must_30 rfl ((congrFun (congrFun e14 _) _).trans (gset_eq _ _ _ _)) ?_
      refine g_if_eq (n := 36) (tgt := 40) X dX12_must_33 (by decide) (by omega) rfl (fun c15 => ?_) (fun c15 => by exfalso; omega)
      refine g_iconst (n := 41) X dX12_must_40 rfl ?_
      refine g_iadd (n := 42) (z := v1 + 1) X dX12_must_41 (by omega) rfl ?_
      refine gp_12_12 (n := 45) X (by decide) (gsz hsz (by decide)) lay_190 kw_6_38 dX12_must_42 rfl ?_
      refine G.nm (fun M16 e17 => ?_)
      have IM16 : gI sz M16 := gI.set IM13 rc_190_12.1 (by omega) e17
      have CM16 : gC sz M16 := gC.set CM13 rc_190_12.2.1 e17
      exact hq _ _ _ dX12_must_45 ⟨IM16, CM16, (gFr.s (gFr.s gFr.rf e14 rc_190_13.2.2 rfl) e17 rc_190_12.2.2 rfl), by have q12 := ((congrFun (congrFun e17 _) _).trans (gset_eq _ _ _ _)); omega⟩
    · refine g_iconst (n := 17) X dX12_must_16 rfl ?_
      refine g_goto (tgt := 21) X dX12_must_17 (by decide) ?_
      refine gp_12_13 (n := 24) X (by decide) (gsz hsz (by decide)) lay_190 kw_6_39 (by omega) dX12_must_21 rfl ?_
      refine G.nm (fun M18 e19 => ?_)
      have IM18 : gI sz M18 := gI.set I rc_190_13.1 (by omega) e19
      have CM18 : gC sz M18 := gC.set C rc_190_13.2.1 e19
      refine g_aload_n (n := 25) X 0 dX12_must_24 rfl rfl rfl ?_
      refine g_dup (n := 26) X dX12_must_25 rfl rfl ?_
      refine gg_12_12 (n := 29) (z := v1) X (by decide) (gsz hsz (by decide)) lay_190 kw_6_38 dX12_must_26 rfl ((congrFun (congrFun e19 _) _).trans ((gset_ne (by omega)).trans hv1)) ?_
      refine g_aload_n (n := 30) X 0 dX12_must_29 rfl rfl rfl ?_
      refine gg_12_13 (n := 33) (z := 1) X (by decide) (gsz hsz (by decide)) lay_190 kw_6_39 dX12_must_30 rfl ((congrFun (congrFun e19 _) _).trans (gset_eq _ _ _ _)) ?_
      refine g_if_eq (n := 36) (tgt := 40) X dX12_must_33 (by decide) (by omega) rfl (fun c20 => by exfalso; omega) (fun c20 => ?_)
      refine g_iconst (n := 37) X dX12_must_36 rfl ?_
      refine g_goto (tgt := 41) X dX12_must_37 (by decide) ?_
      refine g_iadd (n := 42) (z := v1) X dX12_must_41 (by omega) rfl ?_
      refine gp_12_12 (n := 45) X (by decide) (gsz hsz (by decide)) lay_190 kw_6_38 dX12_must_42 rfl ?_
      refine G.nm (fun M21 e22 => ?_)
      have IM21 : gI sz M21 := gI.set IM18 rc_190_12.1 (by omega) e22
      have CM21 : gC sz M21 := gC.set CM18 rc_190_12.2.1 e22
      exact hq _ _ _ dX12_must_45 ⟨IM21, CM21, (gFr.s (gFr.s gFr.rf e19 rc_190_13.2.2 rfl) e22 rc_190_12.2.2 rfl), by have q12 := ((congrFun (congrFun e22 _) _).trans (gset_eq _ _ _ _)); omega⟩
theorem dX12_isDigit_0 : decode cX12_isDigit 0 = .ok (.aload_n 0, 1) := dc_42 (by decide +kernel)
theorem dX12_isDigit_1 : decode cX12_isDigit 1 = .ok (.invokevirtual 139, 3) := dc_182 0 139 (by decide +kernel)
theorem dX12_isDigit_4 : decode cX12_isDigit 4 = .ok (.bipush 48, 2) := dc_16 48 48 (by decide +kernel)
theorem dX12_isDigit_6 : decode cX12_isDigit 6 = .ok (.bipush 57, 2) := dc_16 57 57 (by decide +kernel)
theorem dX12_isDigit_8 : decode cX12_isDigit 8 = .ok (.invokestatic 64, 3) := dc_184 0 64 (by decide +kernel)
theorem dX12_isDigit_11 : decode cX12_isDigit 11 = .ok (.ireturn, 1) := dc_172 (by decide +kernel)
abbrev R_X12_isDigit : Room := { frames := 1, cells := 0, slots := 0, locals := 22 }
set_option maxRecDepth 100000 in
set_option maxHeartbeats 4000000 in
theorem s_X12_isDigit {l : Launch} {n0 : Nat} {D : va_G} {cA : Nat → ClassId} {M : gM}  {sz : Nat} (hsz : 206 ≤ sz) (I : gI sz M) (C : gC sz M)   : Met l yX12_isDigit (gWsOf yX12_isDigit cX12_isDigit 1 (Option.some Jvm.ClassFile.FieldType.boolean)) R_X12_isDigit (gPc n0 D cA [gA n0 190] M sz) (gQi n0 D cA sz (fun z M1 => M = M1 ∧ (0 ≤ z ∧ z ≤ 1) ∧ ((z = 1 ∧ M 190 12 ≤ 149 ∧ M 190 12 < M 191 (M 190 11 + 668) ∧ 48 ≤ M 191 ((680 + (150 * M 190 11)) + M 190 12) ∧ M 191 ((680 + (150 * M 190 11)) + M 190 12) ≤ 57) ∨ (z = 0 ∧ (¬ M 190 12 < M 191 (M 190 11 + 668) ∨ M 191 ((680 + (150 * M 190 11)) + M 190 12) < 48 ∨ 57 < M 191 ((680 + (150 * M 190 11)) + M 190 12)))))) 0 0 (fun q => n0 ≤ q) := by
  refine gMetZ [gA n0 190] (by decide) (Nat.le_of_ble_eq_true rfl) ⟨rfl, rfl⟩ ?_
  intro p e s m args below meth cd Q X hq
  have X : gCx p s m args meth cd n0 D cA "ParishUnionModel" cX12_isDigit 1 := X
  show G p l e R_X12_isDigit s m args below meth cd n0 D cA 1 Q 0 0 M sz 0 [(0, gA n0 190)] []
  refine g_aload_n (n := 1) X 0 dX12_isDigit_0 rfl rfl rfl ?_
  refine g_callVi (n := 4) (As := []) (rest := []) (cs1 := 0) (ss1 := 0) X (s_X12_here  hsz I C ) okX12_here kw_7_26 ⟨kw_7_28, kw_0_58⟩ ⟨rfl, rfl⟩ ⟨Nat.le_of_ble_eq_true rfl, Nat.le_of_ble_eq_true rfl⟩ rfl (by decide) (gsz hsz (by decide)) lay_190 rfl rfl (Nat.le_of_ble_eq_true rfl) ⟨Nat.le_of_ble_eq_true rfl, Nat.le_of_ble_eq_true rfl⟩ rfl rfl dX12_isDigit_1 rfl (fun v1 M2 P3 => ?_)
  obtain ⟨rfl, rv1, xv1⟩ := P3
  refine g_bipush (n := 6) X dX12_isDigit_4 (by decide +kernel) rfl ?_
  refine g_bipush (n := 8) X dX12_isDigit_6 (by decide +kernel) rfl ?_
  refine g_callSi (n := 11) (As := [gJ v1, gJ 48, gJ 57]) (rest := []) (cs1 := 0) (ss1 := 0) X (s_X12_in v1 (by omega) 48 (by omega) 57 (by omega) hsz I C ) okX12_in kw_6_106 kw_6_107 ⟨rfl, rfl⟩ ⟨Nat.le_of_ble_eq_true rfl, Nat.le_of_ble_eq_true rfl⟩ rfl rfl (Nat.le_of_ble_eq_true rfl) ⟨Nat.le_of_ble_eq_true rfl, Nat.le_of_ble_eq_true rfl⟩ rfl rfl dX12_isDigit_8 rfl (fun v4 M5 P6 => ?_)
  obtain ⟨rfl, rv4, xv4⟩ := P6
  exact hq _ _ _ _ dX12_isDigit_11 (by omega) ⟨rfl, by omega, by omega⟩
theorem dX12_number_0 : decode cX12_number 0 = .ok (.aload_n 0, 1) := dc_42 (by decide +kernel)
theorem dX12_number_1 : decode cX12_number 1 = .ok (.aload_n 0, 1) := dc_42 (by decide +kernel)
theorem dX12_number_2 : decode cX12_number 2 = .ok (.getfield 135, 3) := dc_180 0 135 (by decide +kernel)
theorem dX12_number_5 : decode cX12_number 5 = .ok (.ifCond .ne 10, 3) := dc_154 0 10 10 (by decide +kernel)
theorem dX12_number_15 : decode cX12_number 15 = .ok (.iconst 1, 1) := dc_4 (by decide +kernel)
theorem dX12_number_16 : decode cX12_number 16 = .ok (.goto 4, 3) := dc_167 0 4 4 (by decide +kernel)
theorem dX12_number_20 : decode cX12_number 20 = .ok (.putfield 135, 3) := dc_181 0 135 (by decide +kernel)
theorem dX12_number_23 : decode cX12_number 23 = .ok (.iconst 0, 1) := dc_3 (by decide +kernel)
theorem dX12_number_24 : decode cX12_number 24 = .ok (.istore_n 2, 1) := dc_61 (by decide +kernel)
theorem dX12_number_25 : decode cX12_number 25 = .ok (.iconst 0, 1) := dc_3 (by decide +kernel)
theorem dX12_number_26 : decode cX12_number 26 = .ok (.istore_n 3, 1) := dc_62 (by decide +kernel)
theorem dX12_number_27 : decode cX12_number 27 = .ok (.iload_n 3, 1) := dc_29 (by decide +kernel)
theorem dX12_number_28 : decode cX12_number 28 = .ok (.iload_n 1, 1) := dc_27 (by decide +kernel)
theorem dX12_number_29 : decode cX12_number 29 = .ok (.if_icmp .ge 54, 3) := dc_162 0 54 54 (by decide +kernel)
theorem dX12_number_83 : decode cX12_number 83 = .ok (.iload_n 2, 1) := dc_28 (by decide +kernel)
theorem dX12_number_84 : decode cX12_number 84 = .ok (.ireturn, 1) := dc_172 (by decide +kernel)
theorem dX12_number_32 : decode cX12_number 32 = .ok (.aload_n 0, 1) := dc_42 (by decide +kernel)
theorem dX12_number_33 : decode cX12_number 33 = .ok (.getfield 135, 3) := dc_180 0 135 (by decide +kernel)
theorem dX12_number_36 : decode cX12_number 36 = .ok (.ifCond .ne 47, 3) := dc_154 0 47 47 (by decide +kernel)
theorem dX12_number_8 : decode cX12_number 8 = .ok (.aload_n 0, 1) := dc_42 (by decide +kernel)
theorem dX12_number_9 : decode cX12_number 9 = .ok (.invokevirtual 176, 3) := dc_182 0 176 (by decide +kernel)
theorem kw_7_38 : (Jvm.Cond.methodLink "ParishUnionModel" (176 : Nat) ({ cls := "ParishUnionModel", name := "isDigit", desc := "()Z" } : Jvm.MethodName)) ∈ gT := gT_of (tb_7 _ (List.mem_of_getElem? (i := 38) rfl)) rfl
theorem kw_7_41 : (Jvm.Cond.code ({ cls := "ParishUnionModel", name := "isDigit", desc := "()Z" } : Jvm.MethodName) prog_14_method_39_code (1 : Nat) (Option.some Jvm.ClassFile.FieldType.boolean)) ∈ gT := gT_of (tb_7 _ (List.mem_of_getElem? (i := 41) rfl)) rfl
theorem okX12_isDigit : gQok yX12_isDigit cX12_isDigit 1 (Option.some Jvm.ClassFile.FieldType.boolean) 0 := ⟨kw_7_41, kw_1_13, by decide +kernel, by decide +kernel, by decide +kernel⟩
theorem kw_7_40 : (Jvm.Cond.instanceMethod ({ cls := "ParishUnionModel", name := "isDigit", desc := "()Z" } : Jvm.MethodName)) ∈ gT := gT_of (tb_7 _ (List.mem_of_getElem? (i := 40) rfl)) rfl
theorem kw_0_61 : (Jvm.Cond.selects "ParishUnionModel" ({ cls := "ParishUnionModel", name := "isDigit", desc := "()Z" } : Jvm.MethodName) ({ cls := "ParishUnionModel", name := "isDigit", desc := "()Z" } : Jvm.MethodName)) ∈ gT := gT_of (tb_0 _ (List.mem_of_getElem? (i := 61) rfl)) rfl
theorem dX12_number_12 : decode cX12_number 12 = .ok (.ifCond .ne 7, 3) := dc_154 0 7 7 (by decide +kernel)
theorem dX12_number_19 : decode cX12_number 19 = .ok (.iconst 0, 1) := dc_3 (by decide +kernel)
theorem dX12_number_39 : decode cX12_number 39 = .ok (.aload_n 0, 1) := dc_42 (by decide +kernel)
theorem dX12_number_40 : decode cX12_number 40 = .ok (.invokevirtual 176, 3) := dc_182 0 176 (by decide +kernel)
theorem dX12_number_43 : decode cX12_number 43 = .ok (.ifCond .eq 40, 3) := dc_153 0 40 40 (by decide +kernel)
theorem dX12_number_46 : decode cX12_number 46 = .ok (.iload_n 3, 1) := dc_29 (by decide +kernel)
theorem dX12_number_47 : decode cX12_number 47 = .ok (.ifCond .eq 7, 3) := dc_153 0 7 7 (by decide +kernel)
theorem dX12_number_54 : decode cX12_number 54 = .ok (.bipush 10, 2) := dc_16 10 10 (by decide +kernel)
theorem dX12_number_56 : decode cX12_number 56 = .ok (.iload_n 2, 1) := dc_28 (by decide +kernel)
theorem dX12_number_57 : decode cX12_number 57 = .ok (.imul, 1) := dc_104 (by decide +kernel)
theorem dX12_number_58 : decode cX12_number 58 = .ok (.aload_n 0, 1) := dc_42 (by decide +kernel)
theorem dX12_number_59 : decode cX12_number 59 = .ok (.invokevirtual 139, 3) := dc_182 0 139 (by decide +kernel)
theorem dX12_number_62 : decode cX12_number 62 = .ok (.iadd, 1) := dc_96 (by decide +kernel)
theorem dX12_number_63 : decode cX12_number 63 = .ok (.bipush 48, 2) := dc_16 48 48 (by decide +kernel)
theorem dX12_number_65 : decode cX12_number 65 = .ok (.isub, 1) := dc_100 (by decide +kernel)
theorem dX12_number_66 : decode cX12_number 66 = .ok (.istore_n 2, 1) := dc_61 (by decide +kernel)
theorem dX12_number_67 : decode cX12_number 67 = .ok (.aload_n 0, 1) := dc_42 (by decide +kernel)
theorem dX12_number_68 : decode cX12_number 68 = .ok (.dup, 1) := dc_89 (by decide +kernel)
theorem dX12_number_69 : decode cX12_number 69 = .ok (.getfield 129, 3) := dc_180 0 129 (by decide +kernel)
theorem dX12_number_72 : decode cX12_number 72 = .ok (.iconst 1, 1) := dc_4 (by decide +kernel)
theorem dX12_number_73 : decode cX12_number 73 = .ok (.iadd, 1) := dc_96 (by decide +kernel)
theorem dX12_number_74 : decode cX12_number 74 = .ok (.putfield 129, 3) := dc_181 0 129 (by decide +kernel)
theorem dX12_number_77 : decode cX12_number 77 = .ok (.iinc 3 1, 3) := dc_132 3 1 1 (by decide +kernel)
theorem dX12_number_80 : decode cX12_number 80 = .ok (.goto (-53), 3) := dc_167 255 203 (-53) (by decide +kernel)
theorem dX12_number_50 : decode cX12_number 50 = .ok (.iload_n 2, 1) := dc_28 (by decide +kernel)
theorem dX12_number_51 : decode cX12_number 51 = .ok (.ifCond .le 32, 3) := dc_158 0 32 32 (by decide +kernel)
abbrev R_X12_number : Room := { frames := 2, cells := 0, slots := 0, locals := 42 }
set_option maxRecDepth 100000 in
set_option maxHeartbeats 4000000 in
theorem s_X12_number {l : Launch} {n0 : Nat} {D : va_G} {cA : Nat → ClassId} {M : gM} (a : Int) (r_a : 1 ≤ a ∧ a ≤ 4) {sz : Nat} (hsz : 206 ≤ sz) (I : gI sz M) (C : gC sz M)   : Met l yX12_number (gWsOf yX12_number cX12_number 4 (Option.some Jvm.ClassFile.FieldType.int)) R_X12_number (gPc n0 D cA [gA n0 190, gJ a] M sz) (gQi n0 D cA sz (fun z M1 => (0 ≤ z ∧ z ≤ 9999) ∧ gI sz M1 ∧ gC sz M1 ∧ gFr 147573952589676412928 M M1 ∧ (M 190 12 ≤ M1 190 12))) 0 0 (fun q => n0 ≤ q) := by
  refine gMetI [gA n0 190, gJ a] (by decide) (Nat.le_of_ble_eq_true rfl) ⟨rfl, rfl⟩ ?_
  intro p e s m args below meth cd Q X hq
  have X : gCx p s m args meth cd n0 D cA "ParishUnionModel" cX12_number 4 := X
  show G p l e R_X12_number s m args below meth cd n0 D cA 4 Q 0 0 M sz 0 [(0, gA n0 190), (1, gJ a)] []
  obtain ⟨v1, hv1, rv1⟩ := gRd I (by decide) (gsz hsz (by decide)) rc_190_12.1
  refine g_aload_n (n := 1) X 0 dX12_number_0 rfl rfl rfl ?_
  refine g_aload_n (n := 2) X 0 dX12_number_1 rfl rfl rfl ?_
  obtain ⟨v2, hv2, rv2⟩ := gRd I (by decide) (gsz hsz (by decide)) rc_190_13.1
  refine gg_12_13 (n := 5) (z := v2) X (by decide) (gsz hsz (by decide)) lay_190 kw_6_39 dX12_number_2 rfl hv2 ?_
  refine g_if_ne (n := 8) (tgt := 15) X dX12_number_5 (by decide) (by omega) rfl (fun c3 => ?_) (fun c3 => ?_)
  · refine g_iconst (n := 16) X dX12_number_15 rfl ?_
    refine g_goto (tgt := 20) X dX12_number_16 (by decide) ?_
    refine gp_12_13 (n := 23) X (by decide) (gsz hsz (by decide)) lay_190 kw_6_39 (by omega) dX12_number_20 rfl ?_
    refine G.nm (fun M4 e5 => ?_)
    have IM4 : gI sz M4 := gI.set I rc_190_13.1 (by omega) e5
    have CM4 : gC sz M4 := gC.set C rc_190_13.2.1 e5
    refine g_iconst (n := 24) X dX12_number_23 rfl ?_
    refine g_istore_n (n := 25) (L' := [(2, gJ 0), (0, gA n0 190), (1, gJ a)]) X dX12_number_24 rfl (by decide) rfl rfl ?_
    refine g_iconst (n := 26) X dX12_number_25 rfl ?_
    refine g_istore_n (n := 27) (L' := [(3, gJ 0), (2, gJ 0), (0, gA n0 190), (1, gJ a)]) X dX12_number_26 rfl (by decide) rfl rfl ?_
    have j9 : ∀ (N12 : Nat) (v6 v7 : Int) , (0 ≤ v6 ∧ v6 ≤ 9999) → (0 ≤ v7 ∧ v7 ≤ 4) → ((v7 = 0 ∧ v6 = 0) ∨ (v7 = 1 ∧ 0 ≤ v6 ∧ v6 ≤ 9) ∨ (v7 = 2 ∧ 0 ≤ v6 ∧ v6 ≤ 99) ∨ (v7 = 3 ∧ 0 ≤ v6 ∧ v6 ≤ 999) ∨ (v7 = 4 ∧ 0 ≤ v6 ∧ v6 ≤ 9999)) → (M 190 12 ≤ M4 190 12) → ((0 : Int)).toNat < N12 → G p l e R_X12_number s m args below meth cd n0 D cA 4 Q 0 0 M4 sz 27 [(0, gA n0 190), (1, gJ a), (2, gJ v6), (3, gJ v7)] [] := by
      intro N12; induction N12 with
      | zero => intro v6 v7 rv6 rv7 hn hs5 hm14; exfalso; omega
      | succ N12 ih13 =>
        intro v6 v7 rv6 rv7 hn hs5 hm14
        refine g_iload_n (n := 28) X 3 dX12_number_27 rfl rfl rfl ?_
        refine g_iload_n (n := 29) X 1 dX12_number_28 rfl rfl rfl ?_
        refine g_icmp_ge (n := 32) (tgt := 83) X dX12_number_29 (by decide) (by omega) (by omega) rfl (fun c15 => ?_) (fun c15 => ?_)
        · refine g_iload_n (n := 84) X 2 dX12_number_83 rfl rfl rfl ?_
          exact hq _ _ _ _ dX12_number_84 ⟨by omega, IM4, CM4, (gFr.s gFr.rf e5 rc_190_13.2.2 rfl), by have q12 := ((congrFun (congrFun e5 _) _).trans ((gset_ne (by omega)).trans hv1)); omega⟩
        · refine g_aload_n (n := 33) X 0 dX12_number_32 rfl rfl rfl ?_
          refine gg_12_13 (n := 36) (z := 1) X (by decide) (gsz hsz (by decide)) lay_190 kw_6_39 dX12_number_33 rfl ((congrFun (congrFun e5 _) _).trans (gset_eq _ _ _ _)) ?_
          refine g_if_ne (n := 39) (tgt := 83) X dX12_number_36 (by decide) (by omega) rfl (fun c16 => ?_) (fun c16 => by exfalso; omega)
          refine g_iload_n (n := 84) X 2 dX12_number_83 rfl rfl rfl ?_
          exact hq _ _ _ _ dX12_number_84 ⟨by omega, IM4, CM4, (gFr.s gFr.rf e5 rc_190_13.2.2 rfl), by have q12 := ((congrFun (congrFun e5 _) _).trans ((gset_ne (by omega)).trans hv1)); omega⟩
    refine G.sub (L' := [(0, gA n0 190), (1, gJ a), (2, gJ 0), (3, gJ 0)]) [2, 3, 1, 0] rfl ?_
    exact j9 _ 0 0 (by omega) (by omega) (by omega) (by have h1 := ((congrFun (congrFun e5 _) _).trans ((gset_ne (by omega)).trans hv1)); omega) (Nat.lt_succ_self _)
  · refine g_aload_n (n := 9) X 0 dX12_number_8 rfl rfl rfl ?_
    refine g_callVi (n := 12) (As := []) (rest := [gA n0 190]) (cs1 := 0) (ss1 := 0) X (s_X12_isDigit  hsz I C ) okX12_isDigit kw_7_38 ⟨kw_7_40, kw_0_61⟩ ⟨rfl, rfl⟩ ⟨Nat.le_of_ble_eq_true rfl, Nat.le_of_ble_eq_true rfl⟩ rfl (by decide) (gsz hsz (by decide)) lay_190 rfl rfl (Nat.le_of_ble_eq_true rfl) ⟨Nat.le_of_ble_eq_true rfl, Nat.le_of_ble_eq_true rfl⟩ rfl rfl dX12_number_9 rfl (fun v17 M18 P19 => ?_)
    obtain ⟨rfl, rv17, xv17⟩ := P19
    refine g_if_ne (n := 15) (tgt := 19) X dX12_number_12 (by decide) (by omega) rfl (fun c20 => ?_) (fun c20 => ?_)
    · refine g_iconst (n := 20) X dX12_number_19 rfl ?_
      refine gp_12_13 (n := 23) X (by decide) (gsz hsz (by decide)) lay_190 kw_6_39 (by omega) dX12_number_20 rfl ?_
      refine G.nm (fun M21 e22 => ?_)
      have IM21 : gI sz M21 := gI.set I rc_190_13.1 (by omega) e22
      have CM21 : gC sz M21 := gC.set C rc_190_13.2.1 e22
      refine g_iconst (n := 24) X dX12_number_23 rfl ?_
      refine g_istore_n (n := 25) (L' := [(2, gJ 0), (0, gA n0 190), (1, gJ a)]) X dX12_number_24 rfl (by decide) rfl rfl ?_
      refine g_iconst (n := 26) X dX12_number_25 rfl ?_
      refine g_istore_n (n := 27) (L' := [(3, gJ 0), (2, gJ 0), (0, gA n0 190), (1, gJ a)]) X dX12_number_26 rfl (by decide) rfl rfl ?_
      have j26 : ∀ (N66 : Nat) (v23 v24 : Int) (M25 : gM) , (0 ≤ v23 ∧ v23 ≤ 9999) → (0 ≤ v24 ∧ v24 ≤ 4) → gI sz M25 → gC sz M25 → gFr 147573952589676412928 M21 M25 → ((v24 = 0 ∧ v23 = 0) ∨ (v24 = 1 ∧ 0 ≤ v23 ∧ v23 ≤ 9) ∨ (v24 = 2 ∧ 0 ≤ v23 ∧ v23 ≤ 99) ∨ (v24 = 3 ∧ 0 ≤ v23 ∧ v23 ≤ 999) ∨ (v24 = 4 ∧ 0 ≤ v23 ∧ v23 ≤ 9999)) → (M 190 12 ≤ M25 190 12) → (4 - v24).toNat < N66 → G p l e R_X12_number s m args below meth cd n0 D cA 4 Q 0 0 M25 sz 27 [(0, gA n0 190), (1, gJ a), (2, gJ v23), (3, gJ v24)] [] := by
        intro N66; induction N66 with
        | zero => intro v23 v24 M25 rv23 rv24 IM25 CM25 FM25 hn hs5 hm68; exfalso; omega
        | succ N66 ih67 =>
          intro v23 v24 M25 rv23 rv24 IM25 CM25 FM25 hn hs5 hm68
          refine g_iload_n (n := 28) X 3 dX12_number_27 rfl rfl rfl ?_
          refine g_iload_n (n := 29) X 1 dX12_number_28 rfl rfl rfl ?_
          refine g_icmp_ge (n := 32) (tgt := 83) X dX12_number_29 (by decide) (by omega) (by omega) rfl (fun c69 => ?_) (fun c69 => ?_)
          · refine g_iload_n (n := 84) X 2 dX12_number_83 rfl rfl rfl ?_
            exact hq _ _ _ _ dX12_number_84 ⟨by omega, IM25, CM25, (gFr.c (gFr.s gFr.rf e22 rc_190_13.2.2 rfl) FM25 rfl), by omega⟩
          · refine g_aload_n (n := 33) X 0 dX12_number_32 rfl rfl rfl ?_
            obtain ⟨v70, hv70, rv70⟩ := gRd IM25 (by decide) (gsz hsz (by decide)) rc_190_13.1
            refine gg_12_13 (n := 36) (z := v70) X (by decide) (gsz hsz (by decide)) lay_190 kw_6_39 dX12_number_33 rfl hv70 ?_
            refine g_if_ne (n := 39) (tgt := 83) X dX12_number_36 (by decide) (by omega) rfl (fun c71 => ?_) (fun c71 => ?_)
            · refine g_iload_n (n := 84) X 2 dX12_number_83 rfl rfl rfl ?_
              exact hq _ _ _ _ dX12_number_84 ⟨by omega, IM25, CM25, (gFr.c (gFr.s gFr.rf e22 rc_190_13.2.2 rfl) FM25 rfl), by omega⟩
            · refine g_aload_n (n := 40) X 0 dX12_number_39 rfl rfl rfl ?_
              refine g_callVi (n := 43) (As := []) (rest := []) (cs1 := 0) (ss1 := 0) X (s_X12_isDigit  hsz IM25 CM25 ) okX12_isDigit kw_7_38 ⟨kw_7_40, kw_0_61⟩ ⟨rfl, rfl⟩ ⟨Nat.le_of_ble_eq_true rfl, Nat.le_of_ble_eq_true rfl⟩ rfl (by decide) (gsz hsz (by decide)) lay_190 rfl rfl (Nat.le_of_ble_eq_true rfl) ⟨Nat.le_of_ble_eq_true rfl, Nat.le_of_ble_eq_true rfl⟩ rfl rfl dX12_number_40 rfl (fun v72 M73 P74 => ?_)
              obtain ⟨rfl, rv72, xv72⟩ := P74
              refine g_if_eq (n := 46) (tgt := 83) X dX12_number_43 (by decide) (by omega) rfl (fun c75 => ?_) (fun c75 => ?_)
              · refine g_iload_n (n := 84) X 2 dX12_number_83 rfl rfl rfl ?_
                exact hq _ _ _ _ dX12_number_84 ⟨by omega, IM25, CM25, (gFr.c (gFr.s gFr.rf e22 rc_190_13.2.2 rfl) FM25 rfl), by omega⟩
              · refine g_iload_n (n := 47) X 3 dX12_number_46 rfl rfl rfl ?_
                refine g_if_eq (n := 50) (tgt := 54) X dX12_number_47 (by decide) (by omega) rfl (fun c76 => ?_) (fun c76 => ?_)
                · refine g_bipush (n := 56) X dX12_number_54 (by decide +kernel) rfl ?_
                  refine g_iload_n (n := 57) X 2 dX12_number_56 rfl rfl rfl ?_
                  refine g_imul (n := 58) (z := 10 * v23) X dX12_number_57 rfl rfl ?_
                  refine g_aload_n (n := 59) X 0 dX12_number_58 rfl rfl rfl ?_
                  refine g_callVi (n := 62) (As := []) (rest := [gJ (10 * v23)]) (cs1 := 0) (ss1 := 0) X (s_X12_here  hsz IM25 CM25 ) okX12_here kw_7_26 ⟨kw_7_28, kw_0_58⟩ ⟨rfl, rfl⟩ ⟨Nat.le_of_ble_eq_true rfl, Nat.le_of_ble_eq_true rfl⟩ rfl (by decide) (gsz hsz (by decide)) lay_190 rfl rfl (Nat.le_of_ble_eq_true rfl) ⟨Nat.le_of_ble_eq_true rfl, Nat.le_of_ble_eq_true rfl⟩ rfl rfl dX12_number_59 rfl (fun v77 M78 P79 => ?_)
                  obtain ⟨rfl, rv77, xv77⟩ := P79
                  refine g_iadd (n := 63) (z := (10 * v23) + v77) X dX12_number_62 rfl rfl ?_
                  refine g_bipush (n := 65) X dX12_number_63 (by decide +kernel) rfl ?_
                  refine g_isub (n := 66) (z := ((10 * v23) + v77) - 48) X dX12_number_65 rfl rfl ?_
                  refine g_istore_n (n := 67) (L' := [(2, gJ (((10 * v23) + v77) - 48)), (0, gA n0 190), (1, gJ a), (3, gJ v24)]) X dX12_number_66 rfl (by decide) rfl rfl ?_
                  refine g_aload_n (n := 68) X 1 dX12_number_67 rfl rfl rfl ?_
                  refine g_dup (n := 69) X dX12_number_68 rfl rfl ?_
                  obtain ⟨v80, hv80, rv80⟩ := gRd IM25 (by decide) (gsz hsz (by decide)) rc_190_12.1
                  refine gg_12_12 (n := 72) (z := v80) X (by decide) (gsz hsz (by decide)) lay_190 kw_6_38 dX12_number_69 rfl hv80 ?_
                  refine g_iconst (n := 73) X dX12_number_72 rfl ?_
                  refine g_iadd (n := 74) (z := v80 + 1) X dX12_number_73 (by omega) rfl ?_
                  refine gp_12_12 (n := 77) X (by decide) (gsz hsz (by decide)) lay_190 kw_6_38 dX12_number_74 rfl ?_
                  refine G.nm (fun M81 e82 => ?_)
                  have IM81 : gI sz M81 := gI.set IM25 rc_190_12.1 (by omega) e82
                  have CM81 : gC sz M81 := gC.set CM25 rc_190_12.2.1 e82
                  refine g_iinc (n := 80) (w := v24 + 1) (L' := [(3, gJ (v24 + 1)), (2, gJ (((10 * v23) + v77) - 48)), (0, gA n0 190), (1, gJ a)]) X 3 dX12_number_77 rfl rfl (by decide) rfl rfl ?_
                  refine g_goto (tgt := 27) X dX12_number_80 (by decide) ?_
                  refine G.sub (L' := [(0, gA n0 190), (1, gJ a), (2, gJ (((10 * v23) + v77) - 48)), (3, gJ (v24 + 1))]) [2, 3, 1, 0] rfl ?_
                  exact ih67 (((10 * v23) + v77) - 48) (v24 + 1) M81 (by omega) (by omega) IM81 CM81 (gFr.s (gFr.c gFr.rf FM25 rfl) e82 rc_190_12.2.2 rfl) (by omega) (by have h1 := ((congrFun (congrFun e82 _) _).trans (gset_eq _ _ _ _)); omega) (by omega)
                · refine g_iload_n (n := 51) X 2 dX12_number_50 rfl rfl rfl ?_
                  refine g_if_le (n := 54) (tgt := 83) X dX12_number_51 (by decide) (by omega) rfl (fun c83 => ?_) (fun c83 => ?_)
                  · refine g_iload_n (n := 84) X 2 dX12_number_83 rfl rfl rfl ?_
                    exact hq _ _ _ _ dX12_number_84 ⟨by omega, IM25, CM25, (gFr.c (gFr.s gFr.rf e22 rc_190_13.2.2 rfl) FM25 rfl), by omega⟩
                  · refine g_bipush (n := 56) X dX12_number_54 (by decide +kernel) rfl ?_
                    refine g_iload_n (n := 57) X 2 dX12_number_56 rfl rfl rfl ?_
                    refine g_imul (n := 58) (z := 10 * v23) X dX12_number_57 rfl rfl ?_
                    refine g_aload_n (n := 59) X 0 dX12_number_58 rfl rfl rfl ?_
                    refine g_callVi (n := 62) (As := []) (rest := [gJ (10 * v23)]) (cs1 := 0) (ss1 := 0) X (s_X12_here  hsz IM25 CM25 ) okX12_here kw_7_26 ⟨kw_7_28, kw_0_58⟩ ⟨rfl, rfl⟩ ⟨Nat.le_of_ble_eq_true rfl, Nat.le_of_ble_eq_true rfl⟩ rfl (by decide) (gsz hsz (by decide)) lay_190 rfl rfl (Nat.le_of_ble_eq_true rfl) ⟨Nat.le_of_ble_eq_true rfl, Nat.le_of_ble_eq_true rfl⟩ rfl rfl dX12_number_59 rfl (fun v84 M85 P86 => ?_)
                    obtain ⟨rfl, rv84, xv84⟩ := P86
                    refine g_iadd (n := 63) (z := (10 * v23) + v84) X dX12_number_62 rfl rfl ?_
                    refine g_bipush (n := 65) X dX12_number_63 (by decide +kernel) rfl ?_
                    refine g_isub (n := 66) (z := ((10 * v23) + v84) - 48) X dX12_number_65 rfl rfl ?_
                    refine g_istore_n (n := 67) (L' := [(2, gJ (((10 * v23) + v84) - 48)), (0, gA n0 190), (1, gJ a), (3, gJ v24)]) X dX12_number_66 rfl (by decide) rfl rfl ?_
                    refine g_aload_n (n := 68) X 1 dX12_number_67 rfl rfl rfl ?_
                    refine g_dup (n := 69) X dX12_number_68 rfl rfl ?_
                    obtain ⟨v87, hv87, rv87⟩ := gRd IM25 (by decide) (gsz hsz (by decide)) rc_190_12.1
                    refine gg_12_12 (n := 72) (z := v87) X (by decide) (gsz hsz (by decide)) lay_190 kw_6_38 dX12_number_69 rfl hv87 ?_
                    refine g_iconst (n := 73) X dX12_number_72 rfl ?_
                    refine g_iadd (n := 74) (z := v87 + 1) X dX12_number_73 (by omega) rfl ?_
                    refine gp_12_12 (n := 77) X (by decide) (gsz hsz (by decide)) lay_190 kw_6_38 dX12_number_74 rfl ?_
                    refine G.nm (fun M88 e89 => ?_)
                    have IM88 : gI sz M88 := gI.set IM25 rc_190_12.1 (by omega) e89
                    have CM88 : gC sz M88 := gC.set CM25 rc_190_12.2.1 e89
                    refine g_iinc (n := 80) (w := v24 + 1) (L' := [(3, gJ (v24 + 1)), (2, gJ (((10 * v23) + v84) - 48)), (0, gA n0 190), (1, gJ a)]) X 3 dX12_number_77 rfl rfl (by decide) rfl rfl ?_
                    refine g_goto (tgt := 27) X dX12_number_80 (by decide) ?_
                    refine G.sub (L' := [(0, gA n0 190), (1, gJ a), (2, gJ (((10 * v23) + v84) - 48)), (3, gJ (v24 + 1))]) [2, 3, 1, 0] rfl ?_
                    exact ih67 (((10 * v23) + v84) - 48) (v24 + 1) M88 (by omega) (by omega) IM88 CM88 (gFr.s (gFr.c gFr.rf FM25 rfl) e89 rc_190_12.2.2 rfl) (by omega) (by have h1 := ((congrFun (congrFun e89 _) _).trans (gset_eq _ _ _ _)); omega) (by omega)
      refine G.sub (L' := [(0, gA n0 190), (1, gJ a), (2, gJ 0), (3, gJ 0)]) [2, 3, 1, 0] rfl ?_
      exact j26 _ 0 0 M21 (by omega) (by omega) IM21 CM21 gFr.rf (by omega) (by have h1 := ((congrFun (congrFun e22 _) _).trans ((gset_ne (by omega)).trans hv1)); omega) (Nat.lt_succ_self _)
    · refine g_iconst (n := 16) X dX12_number_15 rfl ?_
      refine g_goto (tgt := 20) X dX12_number_16 (by decide) ?_
      refine gp_12_13 (n := 23) X (by decide) (gsz hsz (by decide)) lay_190 kw_6_39 (by omega) dX12_number_20 rfl ?_
      refine G.nm (fun M90 e91 => ?_)
      have IM90 : gI sz M90 := gI.set I rc_190_13.1 (by omega) e91
      have CM90 : gC sz M90 := gC.set C rc_190_13.2.1 e91
      refine g_iconst (n := 24) X dX12_number_23 rfl ?_
      refine g_istore_n (n := 25) (L' := [(2, gJ 0), (0, gA n0 190), (1, gJ a)]) X dX12_number_24 rfl (by decide) rfl rfl ?_
      refine g_iconst (n := 26) X dX12_number_25 rfl ?_
      refine g_istore_n (n := 27) (L' := [(3, gJ 0), (2, gJ 0), (0, gA n0 190), (1, gJ a)]) X dX12_number_26 rfl (by decide) rfl rfl ?_
      have j95 : ∀ (N98 : Nat) (v92 v93 : Int) , (0 ≤ v92 ∧ v92 ≤ 9999) → (0 ≤ v93 ∧ v93 ≤ 4) → ((v93 = 0 ∧ v92 = 0) ∨ (v93 = 1 ∧ 0 ≤ v92 ∧ v92 ≤ 9) ∨ (v93 = 2 ∧ 0 ≤ v92 ∧ v92 ≤ 99) ∨ (v93 = 3 ∧ 0 ≤ v92 ∧ v92 ≤ 999) ∨ (v93 = 4 ∧ 0 ≤ v92 ∧ v92 ≤ 9999)) → (M 190 12 ≤ M90 190 12) → ((0 : Int)).toNat < N98 → G p l e R_X12_number s m args below meth cd n0 D cA 4 Q 0 0 M90 sz 27 [(0, gA n0 190), (1, gJ a), (2, gJ v92), (3, gJ v93)] [] := by
        intro N98; induction N98 with
        | zero => intro v92 v93 rv92 rv93 hn hs5 hm100; exfalso; omega
        | succ N98 ih99 =>
          intro v92 v93 rv92 rv93 hn hs5 hm100
          refine g_iload_n (n := 28) X 3 dX12_number_27 rfl rfl rfl ?_
          refine g_iload_n (n := 29) X 1 dX12_number_28 rfl rfl rfl ?_
          refine g_icmp_ge (n := 32) (tgt := 83) X dX12_number_29 (by decide) (by omega) (by omega) rfl (fun c101 => ?_) (fun c101 => ?_)
          · refine g_iload_n (n := 84) X 2 dX12_number_83 rfl rfl rfl ?_
            exact hq _ _ _ _ dX12_number_84 ⟨by omega, IM90, CM90, (gFr.s gFr.rf e91 rc_190_13.2.2 rfl), by have q12 := ((congrFun (congrFun e91 _) _).trans ((gset_ne (by omega)).trans hv1)); omega⟩
          · refine g_aload_n (n := 33) X 0 dX12_number_32 rfl rfl rfl ?_
            refine gg_12_13 (n := 36) (z := 1) X (by decide) (gsz hsz (by decide)) lay_190 kw_6_39 dX12_number_33 rfl ((congrFun (congrFun e91 _) _).trans (gset_eq _ _ _ _)) ?_
            refine g_if_ne (n := 39) (tgt := 83) X dX12_number_36 (by decide) (by omega) rfl (fun c102 => ?_) (fun c102 => by exfalso; omega)
            refine g_iload_n (n := 84) X 2 dX12_number_83 rfl rfl rfl ?_
            exact hq _ _ _ _ dX12_number_84 ⟨by omega, IM90, CM90, (gFr.s gFr.rf e91 rc_190_13.2.2 rfl), by have q12 := ((congrFun (congrFun e91 _) _).trans ((gset_ne (by omega)).trans hv1)); omega⟩
      refine G.sub (L' := [(0, gA n0 190), (1, gJ a), (2, gJ 0), (3, gJ 0)]) [2, 3, 1, 0] rfl ?_
      exact j95 _ 0 0 (by omega) (by omega) (by omega) (by have h1 := ((congrFun (congrFun e91 _) _).trans ((gset_ne (by omega)).trans hv1)); omega) (Nat.lt_succ_self _)
theorem dX12_letter_0 : decode cX12_letter 0 = .ok (.aload_n 0, 1) := dc_42 (by decide +kernel)
theorem dX12_letter_1 : decode cX12_letter 1 = .ok (.invokevirtual 139, 3) := dc_182 0 139 (by decide +kernel)
theorem dX12_letter_4 : decode cX12_letter 4 = .ok (.istore 4, 2) := dc_54 4 (by decide +kernel)
theorem dX12_letter_6 : decode cX12_letter 6 = .ok (.aload_n 0, 1) := dc_42 (by decide +kernel)
theorem dX12_letter_7 : decode cX12_letter 7 = .ok (.aload_n 0, 1) := dc_42 (by decide +kernel)
theorem dX12_letter_8 : decode cX12_letter 8 = .ok (.getfield 135, 3) := dc_180 0 135 (by decide +kernel)
theorem dX12_letter_11 : decode cX12_letter 11 = .ok (.ifCond .ne 21, 3) := dc_154 0 21 21 (by decide +kernel)
theorem dX12_letter_32 : decode cX12_letter 32 = .ok (.iconst 1, 1) := dc_4 (by decide +kernel)
theorem dX12_letter_33 : decode cX12_letter 33 = .ok (.goto 4, 3) := dc_167 0 4 4 (by decide +kernel)
theorem dX12_letter_37 : decode cX12_letter 37 = .ok (.putfield 135, 3) := dc_181 0 135 (by decide +kernel)
theorem dX12_letter_40 : decode cX12_letter 40 = .ok (.aload_n 0, 1) := dc_42 (by decide +kernel)
theorem dX12_letter_41 : decode cX12_letter 41 = .ok (.dup, 1) := dc_89 (by decide +kernel)
theorem dX12_letter_42 : decode cX12_letter 42 = .ok (.getfield 129, 3) := dc_180 0 129 (by decide +kernel)
theorem dX12_letter_45 : decode cX12_letter 45 = .ok (.aload_n 0, 1) := dc_42 (by decide +kernel)
theorem dX12_letter_46 : decode cX12_letter 46 = .ok (.getfield 135, 3) := dc_180 0 135 (by decide +kernel)
theorem dX12_letter_49 : decode cX12_letter 49 = .ok (.ifCond .eq 7, 3) := dc_153 0 7 7 (by decide +kernel)
theorem dX12_letter_52 : decode cX12_letter 52 = .ok (.iconst 0, 1) := dc_3 (by decide +kernel)
theorem dX12_letter_53 : decode cX12_letter 53 = .ok (.goto 4, 3) := dc_167 0 4 4 (by decide +kernel)
theorem dX12_letter_57 : decode cX12_letter 57 = .ok (.iadd, 1) := dc_96 (by decide +kernel)
theorem dX12_letter_58 : decode cX12_letter 58 = .ok (.putfield 129, 3) := dc_181 0 129 (by decide +kernel)
theorem dX12_letter_61 : decode cX12_letter 61 = .ok (.iload 4, 2) := dc_21 4 (by decide +kernel)
theorem dX12_letter_63 : decode cX12_letter 63 = .ok (.iload_n 1, 1) := dc_27 (by decide +kernel)
theorem dX12_letter_64 : decode cX12_letter 64 = .ok (.if_icmp .ne 7, 3) := dc_160 0 7 7 (by decide +kernel)
theorem dX12_letter_71 : decode cX12_letter 71 = .ok (.iload 4, 2) := dc_21 4 (by decide +kernel)
theorem dX12_letter_73 : decode cX12_letter 73 = .ok (.iload_n 2, 1) := dc_28 (by decide +kernel)
theorem dX12_letter_74 : decode cX12_letter 74 = .ok (.if_icmp .ne 7, 3) := dc_160 0 7 7 (by decide +kernel)
theorem dX12_letter_81 : decode cX12_letter 81 = .ok (.iconst 2, 1) := dc_5 (by decide +kernel)
theorem dX12_letter_82 : decode cX12_letter 82 = .ok (.ireturn, 1) := dc_172 (by decide +kernel)
theorem dX12_letter_77 : decode cX12_letter 77 = .ok (.iconst 1, 1) := dc_4 (by decide +kernel)
theorem dX12_letter_78 : decode cX12_letter 78 = .ok (.goto 4, 3) := dc_167 0 4 4 (by decide +kernel)
theorem dX12_letter_67 : decode cX12_letter 67 = .ok (.iconst 0, 1) := dc_3 (by decide +kernel)
theorem dX12_letter_68 : decode cX12_letter 68 = .ok (.goto 14, 3) := dc_167 0 14 14 (by decide +kernel)
theorem dX12_letter_14 : decode cX12_letter 14 = .ok (.iload 4, 2) := dc_21 4 (by decide +kernel)
theorem dX12_letter_16 : decode cX12_letter 16 = .ok (.iload_n 1, 1) := dc_27 (by decide +kernel)
theorem dX12_letter_17 : decode cX12_letter 17 = .ok (.if_icmp .eq 19, 3) := dc_159 0 19 19 (by decide +kernel)
theorem dX12_letter_36 : decode cX12_letter 36 = .ok (.iconst 0, 1) := dc_3 (by decide +kernel)
theorem dX12_letter_56 : decode cX12_letter 56 = .ok (.iconst 1, 1) := dc_4 (by decide +kernel)
theorem dX12_letter_20 : decode cX12_letter 20 = .ok (.iload 4, 2) := dc_21 4 (by decide +kernel)
theorem dX12_letter_22 : decode cX12_letter 22 = .ok (.iload_n 2, 1) := dc_28 (by decide +kernel)
theorem dX12_letter_23 : decode cX12_letter 23 = .ok (.if_icmp .eq 13, 3) := dc_159 0 13 13 (by decide +kernel)
theorem dX12_letter_26 : decode cX12_letter 26 = .ok (.iload 4, 2) := dc_21 4 (by decide +kernel)
theorem dX12_letter_28 : decode cX12_letter 28 = .ok (.iload_n 3, 1) := dc_29 (by decide +kernel)
theorem dX12_letter_29 : decode cX12_letter 29 = .ok (.if_icmp .eq 7, 3) := dc_159 0 7 7 (by decide +kernel)
abbrev R_X12_letter : Room := { frames := 1, cells := 0, slots := 0, locals := 20 }
set_option maxRecDepth 100000 in
set_option maxHeartbeats 4000000 in
theorem s_X12_letter {l : Launch} {n0 : Nat} {D : va_G} {cA : Nat → ClassId} {M : gM} (a : Int) (r_a : 0 ≤ a ∧ a ≤ 255) (b : Int) (r_b : 0 ≤ b ∧ b ≤ 255) (c : Int) (r_c : 0 ≤ c ∧ c ≤ 255) {sz : Nat} (hsz : 206 ≤ sz) (I : gI sz M) (C : gC sz M)   : Met l yX12_letter (gWsOf yX12_letter cX12_letter 5 (Option.some Jvm.ClassFile.FieldType.int)) R_X12_letter (gPc n0 D cA [gA n0 190, gJ a, gJ b, gJ c] M sz) (gQi n0 D cA sz (fun z M1 => (0 ≤ z ∧ z ≤ 2) ∧ gI sz M1 ∧ gC sz M1 ∧ gFr 147573952589676412928 M M1 ∧ (M 190 12 ≤ M1 190 12))) 0 0 (fun q => n0 ≤ q) := by
  refine gMetI [gA n0 190, gJ a, gJ b, gJ c] (by decide) (Nat.le_of_ble_eq_true rfl) ⟨rfl, rfl⟩ ?_
  intro p e s m args below meth cd Q X hq
  have X : gCx p s m args meth cd n0 D cA "ParishUnionModel" cX12_letter 5 := X
  show G p l e R_X12_letter s m args below meth cd n0 D cA 5 Q 0 0 M sz 0 [(0, gA n0 190), (1, gJ a), (2, gJ b), (3, gJ c)] []
  obtain ⟨v1, hv1, rv1⟩ := gRd I (by decide) (gsz hsz (by decide)) rc_190_12.1
  refine g_aload_n (n := 1) X 0 dX12_letter_0 rfl rfl rfl ?_
  refine g_callVi (n := 4) (As := []) (rest := []) (cs1 := 0) (ss1 := 0) X (s_X12_here  hsz I C ) okX12_here kw_7_26 ⟨kw_7_28, kw_0_58⟩ ⟨rfl, rfl⟩ ⟨Nat.le_of_ble_eq_true rfl, Nat.le_of_ble_eq_true rfl⟩ rfl (by decide) (gsz hsz (by decide)) lay_190 rfl rfl (Nat.le_of_ble_eq_true rfl) ⟨Nat.le_of_ble_eq_true rfl, Nat.le_of_ble_eq_true rfl⟩ rfl rfl dX12_letter_1 rfl (fun v2 M3 P4 => ?_)
  obtain ⟨rfl, rv2, xv2⟩ := P4
  refine g_istore (n := 6) (L' := [(4, gJ v2), (0, gA n0 190), (1, gJ a), (2, gJ b), (3, gJ c)]) X dX12_letter_4 (by decide) rfl rfl ?_
  refine g_aload_n (n := 7) X 1 dX12_letter_6 rfl rfl rfl ?_
  refine g_aload_n (n := 8) X 1 dX12_letter_7 rfl rfl rfl ?_
  obtain ⟨v5, hv5, rv5⟩ := gRd I (by decide) (gsz hsz (by decide)) rc_190_13.1
  refine gg_12_13 (n := 11) (z := v5) X (by decide) (gsz hsz (by decide)) lay_190 kw_6_39 dX12_letter_8 rfl hv5 ?_
  refine g_if_ne (n := 14) (tgt := 32) X dX12_letter_11 (by decide) (by omega) rfl (fun c6 => ?_) (fun c6 => ?_)
  · refine g_iconst (n := 33) X dX12_letter_32 rfl ?_
    refine g_goto (tgt := 37) X dX12_letter_33 (by decide) ?_
    refine gp_12_13 (n := 40) X (by decide) (gsz hsz (by decide)) lay_190 kw_6_39 (by omega) dX12_letter_37 rfl ?_
    refine G.nm (fun M7 e8 => ?_)
    have IM7 : gI sz M7 := gI.set I rc_190_13.1 (by omega) e8
    have CM7 : gC sz M7 := gC.set C rc_190_13.2.1 e8
    refine g_aload_n (n := 41) X 1 dX12_letter_40 rfl rfl rfl ?_
    refine g_dup (n := 42) X dX12_letter_41 rfl rfl ?_
    refine gg_12_12 (n := 45) (z := v1) X (by decide) (gsz hsz (by decide)) lay_190 kw_6_38 dX12_letter_42 rfl ((congrFun (congrFun e8 _) _).trans ((gset_ne (by omega)).trans hv1)) ?_
    refine g_aload_n (n := 46) X 1 dX12_letter_45 rfl rfl rfl ?_
    refine gg_12_13 (n := 49) (z := 1) X (by decide) (gsz hsz (by decide)) lay_190 kw_6_39 dX12_letter_46 rfl ((congrFun (congrFun e8 _) _).trans (gset_eq _ _ _ _)) ?_
    refine g_if_eq (n := 52) (tgt := 56) X dX12_letter_49 (by decide) (by omega) rfl (fun c9 => by exfalso; omega) (fun c9 => ?_)
    refine g_iconst (n := 53) X dX12_letter_52 rfl ?_
    refine g_goto (tgt := 57) X dX12_letter_53 (by decide) ?_
    refine g_iadd (n := 58) (z := v1) X dX12_letter_57 (by omega) rfl ?_
    refine gp_12_12 (n := 61) X (by decide) (gsz hsz (by decide)) lay_190 kw_6_38 dX12_letter_58 rfl ?_
    refine G.nm (fun M10 e11 => ?_)
    have IM10 : gI sz M10 := gI.set IM7 rc_190_12.1 (by omega) e11
    have CM10 : gC sz M10 := gC.set CM7 rc_190_12.2.1 e11
    refine g_iload (n := 63) X 0 dX12_letter_61 rfl rfl ?_
    refine g_iload_n (n := 64) X 2 dX12_letter_63 rfl rfl rfl ?_
    refine g_icmp_ne (n := 67) (tgt := 71) X dX12_letter_64 (by decide) (by omega) (by omega) rfl (fun c12 => ?_) (fun c12 => ?_)
    · refine g_iload (n := 73) X 0 dX12_letter_71 rfl rfl ?_
      refine g_iload_n (n := 74) X 3 dX12_letter_73 rfl rfl rfl ?_
      refine g_icmp_ne (n := 77) (tgt := 81) X dX12_letter_74 (by decide) (by omega) (by omega) rfl (fun c13 => ?_) (fun c13 => ?_)
      · refine g_iconst (n := 82) X dX12_letter_81 rfl ?_
        exact hq _ _ _ _ dX12_letter_82 ⟨by omega, IM10, CM10, (gFr.s (gFr.s gFr.rf e8 rc_190_13.2.2 rfl) e11 rc_190_12.2.2 rfl), by have q12 := ((congrFun (congrFun e11 _) _).trans (gset_eq _ _ _ _)); omega⟩
      · refine g_iconst (n := 78) X dX12_letter_77 rfl ?_
        refine g_goto (tgt := 82) X dX12_letter_78 (by decide) ?_
        exact hq _ _ _ _ dX12_letter_82 ⟨by omega, IM10, CM10, (gFr.s (gFr.s gFr.rf e8 rc_190_13.2.2 rfl) e11 rc_190_12.2.2 rfl), by have q12 := ((congrFun (congrFun e11 _) _).trans (gset_eq _ _ _ _)); omega⟩
    · refine g_iconst (n := 68) X dX12_letter_67 rfl ?_
      refine g_goto (tgt := 82) X dX12_letter_68 (by decide) ?_
      exact hq _ _ _ _ dX12_letter_82 ⟨by omega, IM10, CM10, (gFr.s (gFr.s gFr.rf e8 rc_190_13.2.2 rfl) e11 rc_190_12.2.2 rfl), by have q12 := ((congrFun (congrFun e11 _) _).trans (gset_eq _ _ _ _)); omega⟩
  · refine g_iload (n := 16) X 0 dX12_letter_14 rfl rfl ?_
    refine g_iload_n (n := 17) X 2 dX12_letter_16 rfl rfl rfl ?_
    refine g_icmp_eq (n := 20) (tgt := 36) X dX12_letter_17 (by decide) (by omega) (by omega) rfl (fun c14 => ?_) (fun c14 => ?_)
    · refine g_iconst (n := 37) X dX12_letter_36 rfl ?_
      refine gp_12_13 (n := 40) X (by decide) (gsz hsz (by decide)) lay_190 kw_6_39 (by omega) dX12_letter_37 rfl ?_
      refine G.nm (fun M15 e16 => ?_)
      have IM15 : gI sz M15 := gI.set I rc_190_13.1 (by omega) e16
      have CM15 : gC sz M15 := gC.set C rc_190_13.2.1 e16
      refine g_aload_n (n := 41) X 1 dX12_letter_40 rfl rfl rfl ?_
      refine g_dup (n := 42) X dX12_letter_41 rfl rfl ?_
      refine gg_12_12 (n := 45) (z := v1) X (by decide) (gsz hsz (by decide)) lay_190 kw_6_38 dX12_letter_42 rfl ((congrFun (congrFun e16 _) _).trans ((gset_ne (by omega)).trans hv1)) ?_
      refine g_aload_n (n := 46) X 1 dX12_letter_45 rfl rfl rfl ?_
      refine gg_12_13 (n := 49) (z := 0) X (by decide) (gsz hsz (by decide)) lay_190 kw_6_39 dX12_letter_46 rfl ((congrFun (congrFun e16 _) _).trans (gset_eq _ _ _ _)) ?_
      refine g_if_eq (n := 52) (tgt := 56) X dX12_letter_49 (by decide) (by omega) rfl (fun c17 => ?_) (fun c17 => by exfalso; omega)
      refine g_iconst (n := 57) X dX12_letter_56 rfl ?_
      refine g_iadd (n := 58) (z := v1 + 1) X dX12_letter_57 (by omega) rfl ?_
      refine gp_12_12 (n := 61) X (by decide) (gsz hsz (by decide)) lay_190 kw_6_38 dX12_letter_58 rfl ?_
      refine G.nm (fun M18 e19 => ?_)
      have IM18 : gI sz M18 := gI.set IM15 rc_190_12.1 (by omega) e19
      have CM18 : gC sz M18 := gC.set CM15 rc_190_12.2.1 e19
      refine g_iload (n := 63) X 0 dX12_letter_61 rfl rfl ?_
      refine g_iload_n (n := 64) X 2 dX12_letter_63 rfl rfl rfl ?_
      refine g_icmp_ne (n := 67) (tgt := 71) X dX12_letter_64 (by decide) (by omega) (by omega) rfl (fun c20 => ?_) (fun c20 => ?_)
      · refine g_iload (n := 73) X 0 dX12_letter_71 rfl rfl ?_
        refine g_iload_n (n := 74) X 3 dX12_letter_73 rfl rfl rfl ?_
        refine g_icmp_ne (n := 77) (tgt := 81) X dX12_letter_74 (by decide) (by omega) (by omega) rfl (fun c21 => ?_) (fun c21 => ?_)
        · refine g_iconst (n := 82) X dX12_letter_81 rfl ?_
          exact hq _ _ _ _ dX12_letter_82 ⟨by omega, IM18, CM18, (gFr.s (gFr.s gFr.rf e16 rc_190_13.2.2 rfl) e19 rc_190_12.2.2 rfl), by have q12 := ((congrFun (congrFun e19 _) _).trans (gset_eq _ _ _ _)); omega⟩
        · refine g_iconst (n := 78) X dX12_letter_77 rfl ?_
          refine g_goto (tgt := 82) X dX12_letter_78 (by decide) ?_
          exact hq _ _ _ _ dX12_letter_82 ⟨by omega, IM18, CM18, (gFr.s (gFr.s gFr.rf e16 rc_190_13.2.2 rfl) e19 rc_190_12.2.2 rfl), by have q12 := ((congrFun (congrFun e19 _) _).trans (gset_eq _ _ _ _)); omega⟩
      · refine g_iconst (n := 68) X dX12_letter_67 rfl ?_
        refine g_goto (tgt := 82) X dX12_letter_68 (by decide) ?_
        exact hq _ _ _ _ dX12_letter_82 ⟨by omega, IM18, CM18, (gFr.s (gFr.s gFr.rf e16 rc_190_13.2.2 rfl) e19 rc_190_12.2.2 rfl), by have q12 := ((congrFun (congrFun e19 _) _).trans (gset_eq _ _ _ _)); omega⟩
    · refine g_iload (n := 22) X 0 dX12_letter_20 rfl rfl ?_
      refine g_iload_n (n := 23) X 3 dX12_letter_22 rfl rfl rfl ?_
      refine g_icmp_eq (n := 26) (tgt := 36) X dX12_letter_23 (by decide) (by omega) (by omega) rfl (fun c22 => ?_) (fun c22 => ?_)
      · refine g_iconst (n := 37) X dX12_letter_36 rfl ?_
        refine gp_12_13 (n := 40) X (by decide) (gsz hsz (by decide)) lay_190 kw_6_39 (by omega) dX12_letter_37 rfl ?_
        refine G.nm (fun M23 e24 => ?_)
        have IM23 : gI sz M23 := gI.set I rc_190_13.1 (by omega) e24
        have CM23 : gC sz M23 := gC.set C rc_190_13.2.1 e24
        refine g_aload_n (n := 41) X 1 dX12_letter_40 rfl rfl rfl ?_
        refine g_dup (n := 42) X dX12_letter_41 rfl rfl ?_
        refine gg_12_12 (n := 45) (z := v1) X (by decide) (gsz hsz (by decide)) lay_190 kw_6_38 dX12_letter_42 rfl ((congrFun (congrFun e24 _) _).trans ((gset_ne (by omega)).trans hv1)) ?_
        refine g_aload_n (n := 46) X 1 dX12_letter_45 rfl rfl rfl ?_
        refine gg_12_13 (n := 49) (z := 0) X (by decide) (gsz hsz (by decide)) lay_190 kw_6_39 dX12_letter_46 rfl ((congrFun (congrFun e24 _) _).trans (gset_eq _ _ _ _)) ?_
        refine g_if_eq (n := 52) (tgt := 56) X dX12_letter_49 (by decide) (by omega) rfl (fun c25 => ?_) (fun c25 => by exfalso; omega)
        refine g_iconst (n := 57) X dX12_letter_56 rfl ?_
        refine g_iadd (n := 58) (z := v1 + 1) X dX12_letter_57 (by omega) rfl ?_
        refine gp_12_12 (n := 61) X (by decide) (gsz hsz (by decide)) lay_190 kw_6_38 dX12_letter_58 rfl ?_
        refine G.nm (fun M26 e27 => ?_)
        have IM26 : gI sz M26 := gI.set IM23 rc_190_12.1 (by omega) e27
        have CM26 : gC sz M26 := gC.set CM23 rc_190_12.2.1 e27
        refine g_iload (n := 63) X 0 dX12_letter_61 rfl rfl ?_
        refine g_iload_n (n := 64) X 2 dX12_letter_63 rfl rfl rfl ?_
        refine g_icmp_ne (n := 67) (tgt := 71) X dX12_letter_64 (by decide) (by omega) (by omega) rfl (fun c28 => ?_) (fun c28 => ?_)
        · refine g_iload (n := 73) X 0 dX12_letter_71 rfl rfl ?_
          refine g_iload_n (n := 74) X 3 dX12_letter_73 rfl rfl rfl ?_
          refine g_icmp_ne (n := 77) (tgt := 81) X dX12_letter_74 (by decide) (by omega) (by omega) rfl (fun c29 => ?_) (fun c29 => ?_)
          · refine g_iconst (n := 82) X dX12_letter_81 rfl ?_
            exact hq _ _ _ _ dX12_letter_82 ⟨by omega, IM26, CM26, (gFr.s (gFr.s gFr.rf e24 rc_190_13.2.2 rfl) e27 rc_190_12.2.2 rfl), by have q12 := ((congrFun (congrFun e27 _) _).trans (gset_eq _ _ _ _)); omega⟩
          · refine g_iconst (n := 78) X dX12_letter_77 rfl ?_
            refine g_goto (tgt := 82) X dX12_letter_78 (by decide) ?_
            exact hq _ _ _ _ dX12_letter_82 ⟨by omega, IM26, CM26, (gFr.s (gFr.s gFr.rf e24 rc_190_13.2.2 rfl) e27 rc_190_12.2.2 rfl), by have q12 := ((congrFun (congrFun e27 _) _).trans (gset_eq _ _ _ _)); omega⟩
        · refine g_iconst (n := 68) X dX12_letter_67 rfl ?_
          refine g_goto (tgt := 82) X dX12_letter_68 (by decide) ?_
          exact hq _ _ _ _ dX12_letter_82 ⟨by omega, IM26, CM26, (gFr.s (gFr.s gFr.rf e24 rc_190_13.2.2 rfl) e27 rc_190_12.2.2 rfl), by have q12 := ((congrFun (congrFun e27 _) _).trans (gset_eq _ _ _ _)); omega⟩
      · refine g_iload (n := 28) X 0 dX12_letter_26 rfl rfl ?_
        refine g_iload_n (n := 29) X 4 dX12_letter_28 rfl rfl rfl ?_
        refine g_icmp_eq (n := 32) (tgt := 36) X dX12_letter_29 (by decide) (by omega) (by omega) rfl (fun c30 => ?_) (fun c30 => ?_)
        · refine g_iconst (n := 37) X dX12_letter_36 rfl ?_
          refine gp_12_13 (n := 40) X (by decide) (gsz hsz (by decide)) lay_190 kw_6_39 (by omega) dX12_letter_37 rfl ?_
          refine G.nm (fun M31 e32 => ?_)
          have IM31 : gI sz M31 := gI.set I rc_190_13.1 (by omega) e32
          have CM31 : gC sz M31 := gC.set C rc_190_13.2.1 e32
          refine g_aload_n (n := 41) X 1 dX12_letter_40 rfl rfl rfl ?_
          refine g_dup (n := 42) X dX12_letter_41 rfl rfl ?_
          refine gg_12_12 (n := 45) (z := v1) X (by decide) (gsz hsz (by decide)) lay_190 kw_6_38 dX12_letter_42 rfl ((congrFun (congrFun e32 _) _).trans ((gset_ne (by omega)).trans hv1)) ?_
          refine g_aload_n (n := 46) X 1 dX12_letter_45 rfl rfl rfl ?_
          refine gg_12_13 (n := 49) (z := 0) X (by decide) (gsz hsz (by decide)) lay_190 kw_6_39 dX12_letter_46 rfl ((congrFun (congrFun e32 _) _).trans (gset_eq _ _ _ _)) ?_
          refine g_if_eq (n := 52) (tgt := 56) X dX12_letter_49 (by decide) (by omega) rfl (fun c33 => ?_) (fun c33 => by exfalso; omega)
          refine g_iconst (n := 57) X dX12_letter_56 rfl ?_
          refine g_iadd (n := 58) (z := v1 + 1) X dX12_letter_57 (by omega) rfl ?_
          refine gp_12_12 (n := 61) X (by decide) (gsz hsz (by decide)) lay_190 kw_6_38 dX12_letter_58 rfl ?_
          refine G.nm (fun M34 e35 => ?_)
          have IM34 : gI sz M34 := gI.set IM31 rc_190_12.1 (by omega) e35
          have CM34 : gC sz M34 := gC.set CM31 rc_190_12.2.1 e35
          refine g_iload (n := 63) X 0 dX12_letter_61 rfl rfl ?_
          refine g_iload_n (n := 64) X 2 dX12_letter_63 rfl rfl rfl ?_
          refine g_icmp_ne (n := 67) (tgt := 71) X dX12_letter_64 (by decide) (by omega) (by omega) rfl (fun c36 => ?_) (fun c36 => ?_)
          · refine g_iload (n := 73) X 0 dX12_letter_71 rfl rfl ?_
            refine g_iload_n (n := 74) X 3 dX12_letter_73 rfl rfl rfl ?_
            refine g_icmp_ne (n := 77) (tgt := 81) X dX12_letter_74 (by decide) (by omega) (by omega) rfl (fun c37 => ?_) (fun c37 => ?_)
            · refine g_iconst (n := 82) X dX12_letter_81 rfl ?_
              exact hq _ _ _ _ dX12_letter_82 ⟨by omega, IM34, CM34, (gFr.s (gFr.s gFr.rf e32 rc_190_13.2.2 rfl) e35 rc_190_12.2.2 rfl), by have q12 := ((congrFun (congrFun e35 _) _).trans (gset_eq _ _ _ _)); omega⟩
            · refine g_iconst (n := 78) X dX12_letter_77 rfl ?_
              refine g_goto (tgt := 82) X dX12_letter_78 (by decide) ?_
              exact hq _ _ _ _ dX12_letter_82 ⟨by omega, IM34, CM34, (gFr.s (gFr.s gFr.rf e32 rc_190_13.2.2 rfl) e35 rc_190_12.2.2 rfl), by have q12 := ((congrFun (congrFun e35 _) _).trans (gset_eq _ _ _ _)); omega⟩
          · refine g_iconst (n := 68) X dX12_letter_67 rfl ?_
            refine g_goto (tgt := 82) X dX12_letter_68 (by decide) ?_
            exact hq _ _ _ _ dX12_letter_82 ⟨by omega, IM34, CM34, (gFr.s (gFr.s gFr.rf e32 rc_190_13.2.2 rfl) e35 rc_190_12.2.2 rfl), by have q12 := ((congrFun (congrFun e35 _) _).trans (gset_eq _ _ _ _)); omega⟩
        · refine g_iconst (n := 33) X dX12_letter_32 rfl ?_
          refine g_goto (tgt := 37) X dX12_letter_33 (by decide) ?_
          refine gp_12_13 (n := 40) X (by decide) (gsz hsz (by decide)) lay_190 kw_6_39 (by omega) dX12_letter_37 rfl ?_
          refine G.nm (fun M38 e39 => ?_)
          have IM38 : gI sz M38 := gI.set I rc_190_13.1 (by omega) e39
          have CM38 : gC sz M38 := gC.set C rc_190_13.2.1 e39
          refine g_aload_n (n := 41) X 1 dX12_letter_40 rfl rfl rfl ?_
          refine g_dup (n := 42) X dX12_letter_41 rfl rfl ?_
          refine gg_12_12 (n := 45) (z := v1) X (by decide) (gsz hsz (by decide)) lay_190 kw_6_38 dX12_letter_42 rfl ((congrFun (congrFun e39 _) _).trans ((gset_ne (by omega)).trans hv1)) ?_
          refine g_aload_n (n := 46) X 1 dX12_letter_45 rfl rfl rfl ?_
          refine gg_12_13 (n := 49) (z := 1) X (by decide) (gsz hsz (by decide)) lay_190 kw_6_39 dX12_letter_46 rfl ((congrFun (congrFun e39 _) _).trans (gset_eq _ _ _ _)) ?_
          refine g_if_eq (n := 52) (tgt := 56) X dX12_letter_49 (by decide) (by omega) rfl (fun c40 => by exfalso; omega) (fun c40 => ?_)
          refine g_iconst (n := 53) X dX12_letter_52 rfl ?_
          refine g_goto (tgt := 57) X dX12_letter_53 (by decide) ?_
          refine g_iadd (n := 58) (z := v1) X dX12_letter_57 (by omega) rfl ?_
          refine gp_12_12 (n := 61) X (by decide) (gsz hsz (by decide)) lay_190 kw_6_38 dX12_letter_58 rfl ?_
          refine G.nm (fun M41 e42 => ?_)
          have IM41 : gI sz M41 := gI.set IM38 rc_190_12.1 (by omega) e42
          have CM41 : gC sz M41 := gC.set CM38 rc_190_12.2.1 e42
          refine g_iload (n := 63) X 0 dX12_letter_61 rfl rfl ?_
          refine g_iload_n (n := 64) X 2 dX12_letter_63 rfl rfl rfl ?_
          refine g_icmp_ne (n := 67) (tgt := 71) X dX12_letter_64 (by decide) (by omega) (by omega) rfl (fun c43 => ?_) (fun c43 => ?_)
          · refine g_iload (n := 73) X 0 dX12_letter_71 rfl rfl ?_
            refine g_iload_n (n := 74) X 3 dX12_letter_73 rfl rfl rfl ?_
            refine g_icmp_ne (n := 77) (tgt := 81) X dX12_letter_74 (by decide) (by omega) (by omega) rfl (fun c44 => ?_) (fun c44 => ?_)
            · refine g_iconst (n := 82) X dX12_letter_81 rfl ?_
              exact hq _ _ _ _ dX12_letter_82 ⟨by omega, IM41, CM41, (gFr.s (gFr.s gFr.rf e39 rc_190_13.2.2 rfl) e42 rc_190_12.2.2 rfl), by have q12 := ((congrFun (congrFun e42 _) _).trans (gset_eq _ _ _ _)); omega⟩
            · refine g_iconst (n := 78) X dX12_letter_77 rfl ?_
              refine g_goto (tgt := 82) X dX12_letter_78 (by decide) ?_
              exact hq _ _ _ _ dX12_letter_82 ⟨by omega, IM41, CM41, (gFr.s (gFr.s gFr.rf e39 rc_190_13.2.2 rfl) e42 rc_190_12.2.2 rfl), by have q12 := ((congrFun (congrFun e42 _) _).trans (gset_eq _ _ _ _)); omega⟩
          · refine g_iconst (n := 68) X dX12_letter_67 rfl ?_
            refine g_goto (tgt := 82) X dX12_letter_68 (by decide) ?_
            exact hq _ _ _ _ dX12_letter_82 ⟨by omega, IM41, CM41, (gFr.s (gFr.s gFr.rf e39 rc_190_13.2.2 rfl) e42 rc_190_12.2.2 rfl), by have q12 := ((congrFun (congrFun e42 _) _).trans (gset_eq _ _ _ _)); omega⟩
theorem dX12_stands_0 : decode cX12_stands 0 = .ok (.aload_n 0, 1) := dc_42 (by decide +kernel)
theorem dX12_stands_1 : decode cX12_stands 1 = .ok (.getfield 180, 3) := dc_180 0 180 (by decide +kernel)
theorem kw_6_41 : (Jvm.Cond.fieldLink "ParishUnionModel" (180 : Nat) "ParishUnionModel" "asked" "I") ∈ gT := gT_of (tb_6 _ (List.mem_of_getElem? (i := 41) rfl)) rfl
theorem rc_190_15 : gRg 190 15 = (-1, 15) ∧ gCr 190 15 = false ∧ gG 190 15 = 71 := by decide +kernel
theorem dX12_stands_4 : decode cX12_stands 4 = .ok (.iconst (-1), 1) := dc_2 (by decide +kernel)
theorem dX12_stands_5 : decode cX12_stands 5 = .ok (.if_icmp .ne 5, 3) := dc_160 0 5 5 (by decide +kernel)
theorem dX12_stands_10 : decode cX12_stands 10 = .ok (.iload_n 1, 1) := dc_27 (by decide +kernel)
theorem dX12_stands_11 : decode cX12_stands 11 = .ok (.lookupswitch 121 #[(97, 49), (102, 92), (103, 64), (104, 78), (115, 108)], 49) := by decide +kernel
theorem dX12_stands_60 : decode cX12_stands 60 = .ok (.aload_n 0, 1) := dc_42 (by decide +kernel)
theorem dX12_stands_61 : decode cX12_stands 61 = .ok (.aload_n 0, 1) := dc_42 (by decide +kernel)
theorem dX12_stands_62 : decode cX12_stands 62 = .ok (.getfield 180, 3) := dc_180 0 180 (by decide +kernel)
theorem dX12_stands_65 : decode cX12_stands 65 = .ok (.aload_n 0, 1) := dc_42 (by decide +kernel)
theorem dX12_stands_66 : decode cX12_stands 66 = .ok (.getfield 7, 3) := dc_180 0 7 (by decide +kernel)
theorem dX12_stands_69 : decode cX12_stands 69 = .ok (.iconst 0, 1) := dc_3 (by decide +kernel)
theorem dX12_stands_70 : decode cX12_stands 70 = .ok (.iaload, 1) := dc_46 (by decide +kernel)
theorem dX12_stands_71 : decode cX12_stands 71 = .ok (.invokevirtual 183, 3) := dc_182 0 183 (by decide +kernel)
theorem dX12_stands_74 : decode cX12_stands 74 = .ok (.ireturn, 1) := dc_172 (by decide +kernel)
theorem dX12_stands_103 : decode cX12_stands 103 = .ok (.aload_n 0, 1) := dc_42 (by decide +kernel)
theorem dX12_stands_104 : decode cX12_stands 104 = .ok (.getfield 7, 3) := dc_180 0 7 (by decide +kernel)
theorem dX12_stands_107 : decode cX12_stands 107 = .ok (.sipush 2800, 3) := dc_17 10 240 2800 (by decide +kernel)
theorem dX12_stands_110 : decode cX12_stands 110 = .ok (.aload_n 0, 1) := dc_42 (by decide +kernel)
theorem dX12_stands_111 : decode cX12_stands 111 = .ok (.getfield 7, 3) := dc_180 0 7 (by decide +kernel)
theorem dX12_stands_114 : decode cX12_stands 114 = .ok (.iconst 0, 1) := dc_3 (by decide +kernel)
theorem dX12_stands_115 : decode cX12_stands 115 = .ok (.iaload, 1) := dc_46 (by decide +kernel)
theorem dX12_stands_116 : decode cX12_stands 116 = .ok (.iadd, 1) := dc_96 (by decide +kernel)
theorem dX12_stands_117 : decode cX12_stands 117 = .ok (.iaload, 1) := dc_46 (by decide +kernel)
theorem dX12_stands_118 : decode cX12_stands 118 = .ok (.ireturn, 1) := dc_172 (by decide +kernel)
theorem dX12_stands_75 : decode cX12_stands 75 = .ok (.aload_n 0, 1) := dc_42 (by decide +kernel)
theorem dX12_stands_76 : decode cX12_stands 76 = .ok (.getfield 7, 3) := dc_180 0 7 (by decide +kernel)
theorem dX12_stands_79 : decode cX12_stands 79 = .ok (.sipush 144, 3) := dc_17 0 144 144 (by decide +kernel)
theorem dX12_stands_82 : decode cX12_stands 82 = .ok (.aload_n 0, 1) := dc_42 (by decide +kernel)
theorem dX12_stands_83 : decode cX12_stands 83 = .ok (.getfield 180, 3) := dc_180 0 180 (by decide +kernel)
theorem dX12_stands_86 : decode cX12_stands 86 = .ok (.iadd, 1) := dc_96 (by decide +kernel)
theorem dX12_stands_87 : decode cX12_stands 87 = .ok (.iaload, 1) := dc_46 (by decide +kernel)
theorem dX12_stands_88 : decode cX12_stands 88 = .ok (.ireturn, 1) := dc_172 (by decide +kernel)
theorem dX12_stands_89 : decode cX12_stands 89 = .ok (.aload_n 0, 1) := dc_42 (by decide +kernel)
theorem dX12_stands_90 : decode cX12_stands 90 = .ok (.getfield 7, 3) := dc_180 0 7 (by decide +kernel)
theorem dX12_stands_93 : decode cX12_stands 93 = .ok (.sipush 176, 3) := dc_17 0 176 176 (by decide +kernel)
theorem dX12_stands_96 : decode cX12_stands 96 = .ok (.aload_n 0, 1) := dc_42 (by decide +kernel)
theorem dX12_stands_97 : decode cX12_stands 97 = .ok (.getfield 180, 3) := dc_180 0 180 (by decide +kernel)
theorem dX12_stands_100 : decode cX12_stands 100 = .ok (.iadd, 1) := dc_96 (by decide +kernel)
theorem dX12_stands_101 : decode cX12_stands 101 = .ok (.iaload, 1) := dc_46 (by decide +kernel)
theorem dX12_stands_102 : decode cX12_stands 102 = .ok (.ireturn, 1) := dc_172 (by decide +kernel)
theorem dX12_stands_119 : decode cX12_stands 119 = .ok (.aload_n 0, 1) := dc_42 (by decide +kernel)
theorem dX12_stands_120 : decode cX12_stands 120 = .ok (.getfield 7, 3) := dc_180 0 7 (by decide +kernel)
theorem dX12_stands_123 : decode cX12_stands 123 = .ok (.bipush 80, 2) := dc_16 80 80 (by decide +kernel)
theorem dX12_stands_125 : decode cX12_stands 125 = .ok (.aload_n 0, 1) := dc_42 (by decide +kernel)
theorem dX12_stands_126 : decode cX12_stands 126 = .ok (.getfield 180, 3) := dc_180 0 180 (by decide +kernel)
theorem dX12_stands_129 : decode cX12_stands 129 = .ok (.iadd, 1) := dc_96 (by decide +kernel)
theorem dX12_stands_130 : decode cX12_stands 130 = .ok (.iaload, 1) := dc_46 (by decide +kernel)
theorem dX12_stands_131 : decode cX12_stands 131 = .ok (.ireturn, 1) := dc_172 (by decide +kernel)
theorem dX12_stands_132 : decode cX12_stands 132 = .ok (.aload_n 0, 1) := dc_42 (by decide +kernel)
theorem dX12_stands_133 : decode cX12_stands 133 = .ok (.getfield 7, 3) := dc_180 0 7 (by decide +kernel)
theorem dX12_stands_136 : decode cX12_stands 136 = .ok (.sipush 160, 3) := dc_17 0 160 160 (by decide +kernel)
theorem dX12_stands_139 : decode cX12_stands 139 = .ok (.aload_n 0, 1) := dc_42 (by decide +kernel)
theorem dX12_stands_140 : decode cX12_stands 140 = .ok (.getfield 180, 3) := dc_180 0 180 (by decide +kernel)
theorem dX12_stands_143 : decode cX12_stands 143 = .ok (.iadd, 1) := dc_96 (by decide +kernel)
theorem dX12_stands_144 : decode cX12_stands 144 = .ok (.iaload, 1) := dc_46 (by decide +kernel)
theorem dX12_stands_145 : decode cX12_stands 145 = .ok (.ireturn, 1) := dc_172 (by decide +kernel)
theorem dX12_stands_8 : decode cX12_stands 8 = .ok (.iconst 0, 1) := dc_3 (by decide +kernel)
theorem dX12_stands_9 : decode cX12_stands 9 = .ok (.ireturn, 1) := dc_172 (by decide +kernel)
abbrev R_X12_stands : Room := { frames := 1, cells := 0, slots := 0, locals := 22 }
set_option maxRecDepth 100000 in
set_option maxHeartbeats 4000000 in
theorem s_X12_stands {l : Launch} {n0 : Nat} {D : va_G} {cA : Nat → ClassId} {M : gM} (a : Int) (r_a : -2147483648 ≤ a ∧ a ≤ 2147483647) {sz : Nat} (hsz : 206 ≤ sz) (I : gI sz M) (C : gC sz M)   : Met l yX12_stands (gWsOf yX12_stands cX12_stands 2 (Option.some Jvm.ClassFile.FieldType.int)) R_X12_stands (gPc n0 D cA [gA n0 190, gJ a] M sz) (gQi n0 D cA sz (fun z M1 => M = M1 ∧ (-2147483648 ≤ z ∧ z ≤ 2147483647))) 0 0 (fun q => n0 ≤ q) := by
  refine gMetI [gA n0 190, gJ a] (by decide) (Nat.le_of_ble_eq_true rfl) ⟨rfl, rfl⟩ ?_
  intro p e s m args below meth cd Q X hq
  have X : gCx p s m args meth cd n0 D cA "ParishUnionModel" cX12_stands 2 := X
  show G p l e R_X12_stands s m args below meth cd n0 D cA 2 Q 0 0 M sz 0 [(0, gA n0 190), (1, gJ a)] []
  refine g_aload_n (n := 1) X 0 dX12_stands_0 rfl rfl rfl ?_
  obtain ⟨v1, hv1, rv1⟩ := gRd I (by decide) (gsz hsz (by decide)) rc_190_15.1
  refine gg_12_15 (n := 4) (z := v1) X (by decide) (gsz hsz (by decide)) lay_190 kw_6_41 dX12_stands_1 rfl hv1 ?_
  refine g_iconst (n := 5) X dX12_stands_4 rfl ?_
  refine g_icmp_ne (n := 8) (tgt := 10) X dX12_stands_5 (by decide) (by omega) (by omega) rfl (fun c2 => ?_) (fun c2 => ?_)
  · refine g_iload_n (n := 11) X 1 dX12_stands_10 rfl rfl rfl ?_
    by_cases c3 : a = 97
    · refine g_lookup (off := 49) (tgt := 60) X dX12_stands_11 (by omega) (by decide) (by show Op.lookupswitch.offset [(97, 49), (102, 92), (103, 64), (104, 78), (115, 108)] 121 a = 49; rw [Op.lookupswitch.offset_cons, if_pos (by omega)]) (by decide) ?_
      refine g_aload_n (n := 61) X 0 dX12_stands_60 rfl rfl rfl ?_
      refine g_aload_n (n := 62) X 0 dX12_stands_61 rfl rfl rfl ?_
      refine gg_12_15 (n := 65) (z := v1) X (by decide) (gsz hsz (by decide)) lay_190 kw_6_41 dX12_stands_62 rfl hv1 ?_
      refine g_aload_n (n := 66) X 0 dX12_stands_65 rfl rfl rfl ?_
      refine gg_12_1 (n := 69) (z := 191) X (by decide) (gsz hsz (by decide)) lay_190 kw_6_27 dX12_stands_66 rfl (rf_190_1 I (gsz hsz (by decide))) (by decide) ?_
      refine g_iconst (n := 70) X dX12_stands_69 rfl ?_
      obtain ⟨v4, hv4, rv4⟩ := gRd I (by decide) (gsz hsz (by decide)) (rs_NOW (k := 0) (by omega)).1
      refine g_iald2 (n := 71) (v := v4) X (by decide) (gsz hsz (by decide)) lay_191 (by omega) (by omega) (by decide) dX12_stands_70 rfl hv4 ?_
      refine g_callVi (n := 74) (As := [gJ v1, gJ v4]) (rest := []) (cs1 := 0) (ss1 := 0) X (s_X12_ageOf v1 (by omega) v4 (by omega) hsz I C ) okX12_ageOf kw_7_66 ⟨kw_7_68, kw_0_68⟩ ⟨rfl, rfl⟩ ⟨Nat.le_of_ble_eq_true rfl, Nat.le_of_ble_eq_true rfl⟩ rfl (by decide) (gsz hsz (by decide)) lay_190 rfl rfl (Nat.le_of_ble_eq_true rfl) ⟨Nat.le_of_ble_eq_true rfl, Nat.le_of_ble_eq_true rfl⟩ rfl rfl dX12_stands_71 rfl (fun v5 M6 P7 => ?_)
      obtain ⟨rfl, rv5⟩ := P7
      exact hq _ _ _ _ dX12_stands_74 ⟨rfl, by omega⟩
    by_cases c8 : a = 102
    · refine g_lookup (off := 92) (tgt := 103) X dX12_stands_11 (by omega) (by decide) (by show Op.lookupswitch.offset [(97, 49), (102, 92), (103, 64), (104, 78), (115, 108)] 121 a = 92; rw [Op.lookupswitch.offset_cons, if_neg (by omega), Op.lookupswitch.offset_cons, if_pos (by omega)]) (by decide) ?_
      refine g_aload_n (n := 104) X 0 dX12_stands_103 rfl rfl rfl ?_
      refine gg_12_1 (n := 107) (z := 191) X (by decide) (gsz hsz (by decide)) lay_190 kw_6_27 dX12_stands_104 rfl (rf_190_1 I (gsz hsz (by decide))) (by decide) ?_
      refine g_sipush (n := 110) X dX12_stands_107 (by decide +kernel) rfl ?_
      refine g_aload_n (n := 111) X 0 dX12_stands_110 rfl rfl rfl ?_
      refine gg_12_1 (n := 114) (z := 191) X (by decide) (gsz hsz (by decide)) lay_190 kw_6_27 dX12_stands_111 rfl (rf_190_1 I (gsz hsz (by decide))) (by decide) ?_
      refine g_iconst (n := 115) X dX12_stands_114 rfl ?_
      obtain ⟨v9, hv9, rv9⟩ := gRd I (by decide) (gsz hsz (by decide)) (rs_NOW (k := 0) (by omega)).1
      refine g_iald2 (n := 116) (v := v9) X (by decide) (gsz hsz (by decide)) lay_191 (by omega) (by omega) (by decide) dX12_stands_115 rfl hv9 ?_
      refine g_iadd (n := 117) (z := v9 + 2800) X dX12_stands_116 (by omega) rfl ?_
      obtain ⟨v10, hv10, rv10⟩ := gRd I (by decide) (gsz hsz (by decide)) (rs_FROST (k := v9 + 2800) (by omega)).1
      refine g_iald2 (n := 118) (v := v10) X (by decide) (gsz hsz (by decide)) lay_191 (by omega) (by omega) (by decide) dX12_stands_117 rfl hv10 ?_
      exact hq _ _ _ _ dX12_stands_118 ⟨rfl, by omega⟩
    by_cases c11 : a = 103
    · refine g_lookup (off := 64) (tgt := 75) X dX12_stands_11 (by omega) (by decide) (by show Op.lookupswitch.offset [(97, 49), (102, 92), (103, 64), (104, 78), (115, 108)] 121 a = 64; rw [Op.lookupswitch.offset_cons, if_neg (by omega), Op.lookupswitch.offset_cons, if_neg (by omega), Op.lookupswitch.offset_cons, if_pos (by omega)]) (by decide) ?_
      refine g_aload_n (n := 76) X 0 dX12_stands_75 rfl rfl rfl ?_
      refine gg_12_1 (n := 79) (z := 191) X (by decide) (gsz hsz (by decide)) lay_190 kw_6_27 dX12_stands_76 rfl (rf_190_1 I (gsz hsz (by decide))) (by decide) ?_
      refine g_sipush (n := 82) X dX12_stands_79 (by decide +kernel) rfl ?_
      refine g_aload_n (n := 83) X 0 dX12_stands_82 rfl rfl rfl ?_
      refine gg_12_15 (n := 86) (z := v1) X (by decide) (gsz hsz (by decide)) lay_190 kw_6_41 dX12_stands_83 rfl hv1 ?_
      refine g_iadd (n := 87) (z := v1 + 144) X dX12_stands_86 (by omega) rfl ?_
      obtain ⟨v12, hv12, rv12⟩ := gRd I (by decide) (gsz hsz (by decide)) (rs_STRONG (k := v1 + 144) (by omega)).1
      refine g_iald2 (n := 88) (v := v12) X (by decide) (gsz hsz (by decide)) lay_191 (by omega) (by omega) (by decide) dX12_stands_87 rfl hv12 ?_
      exact hq _ _ _ _ dX12_stands_88 ⟨rfl, by omega⟩
    by_cases c13 : a = 104
    · refine g_lookup (off := 78) (tgt := 89) X dX12_stands_11 (by omega) (by decide) (by show Op.lookupswitch.offset [(97, 49), (102, 92), (103, 64), (104, 78), (115, 108)] 121 a = 78; rw [Op.lookupswitch.offset_cons, if_neg (by omega), Op.lookupswitch.offset_cons, if_neg (by omega), Op.lookupswitch.offset_cons, if_neg (by omega), Op.lookupswitch.offset_cons, if_pos (by omega)]) (by decide) ?_
      refine g_aload_n (n := 90) X 0 dX12_stands_89 rfl rfl rfl ?_
      refine gg_12_1 (n := 93) (z := 191) X (by decide) (gsz hsz (by decide)) lay_190 kw_6_27 dX12_stands_90 rfl (rf_190_1 I (gsz hsz (by decide))) (by decide) ?_
      refine g_sipush (n := 96) X dX12_stands_93 (by decide +kernel) rfl ?_
      refine g_aload_n (n := 97) X 0 dX12_stands_96 rfl rfl rfl ?_
      refine gg_12_15 (n := 100) (z := v1) X (by decide) (gsz hsz (by decide)) lay_190 kw_6_41 dX12_stands_97 rfl hv1 ?_
      refine g_iadd (n := 101) (z := v1 + 176) X dX12_stands_100 (by omega) rfl ?_
      obtain ⟨v14, hv14, rv14⟩ := gRd I (by decide) (gsz hsz (by decide)) (rs_HUNGER (k := v1 + 176) (by omega)).1
      refine g_iald2 (n := 102) (v := v14) X (by decide) (gsz hsz (by decide)) lay_191 (by omega) (by omega) (by decide) dX12_stands_101 rfl hv14 ?_
      exact hq _ _ _ _ dX12_stands_102 ⟨rfl, by omega⟩
    by_cases c15 : a = 115
    · refine g_lookup (off := 108) (tgt := 119) X dX12_stands_11 (by omega) (by decide) (by show Op.lookupswitch.offset [(97, 49), (102, 92), (103, 64), (104, 78), (115, 108)] 121 a = 108; rw [Op.lookupswitch.offset_cons, if_neg (by omega), Op.lookupswitch.offset_cons, if_neg (by omega), Op.lookupswitch.offset_cons, if_neg (by omega), Op.lookupswitch.offset_cons, if_neg (by omega), Op.lookupswitch.offset_cons, if_pos (by omega)]) (by decide) ?_
      refine g_aload_n (n := 120) X 0 dX12_stands_119 rfl rfl rfl ?_
      refine gg_12_1 (n := 123) (z := 191) X (by decide) (gsz hsz (by decide)) lay_190 kw_6_27 dX12_stands_120 rfl (rf_190_1 I (gsz hsz (by decide))) (by decide) ?_
      refine g_bipush (n := 125) X dX12_stands_123 (by decide +kernel) rfl ?_
      refine g_aload_n (n := 126) X 0 dX12_stands_125 rfl rfl rfl ?_
      refine gg_12_15 (n := 129) (z := v1) X (by decide) (gsz hsz (by decide)) lay_190 kw_6_41 dX12_stands_126 rfl hv1 ?_
      refine g_iadd (n := 130) (z := v1 + 80) X dX12_stands_129 (by omega) rfl ?_
      obtain ⟨v16, hv16, rv16⟩ := gRd I (by decide) (gsz hsz (by decide)) (rs_SEX (k := v1 + 80) (by omega)).1
      refine g_iald2 (n := 131) (v := v16) X (by decide) (gsz hsz (by decide)) lay_191 (by omega) (by omega) (by decide) dX12_stands_130 rfl hv16 ?_
      exact hq _ _ _ _ dX12_stands_131 ⟨rfl, by omega⟩
    refine g_lookup (off := 121) (tgt := 132) X dX12_stands_11 (by omega) (by decide) (by show Op.lookupswitch.offset [(97, 49), (102, 92), (103, 64), (104, 78), (115, 108)] 121 a = 121; rw [Op.lookupswitch.offset_cons, if_neg (by omega), Op.lookupswitch.offset_cons, if_neg (by omega), Op.lookupswitch.offset_cons, if_neg (by omega), Op.lookupswitch.offset_cons, if_neg (by omega), Op.lookupswitch.offset_cons, if_neg (by omega), Op.lookupswitch.offset_nil]) (by decide) ?_
    refine g_aload_n (n := 133) X 0 dX12_stands_132 rfl rfl rfl ?_
    refine gg_12_1 (n := 136) (z := 191) X (by decide) (gsz hsz (by decide)) lay_190 kw_6_27 dX12_stands_133 rfl (rf_190_1 I (gsz hsz (by decide))) (by decide) ?_
    refine g_sipush (n := 139) X dX12_stands_136 (by decide +kernel) rfl ?_
    refine g_aload_n (n := 140) X 0 dX12_stands_139 rfl rfl rfl ?_
    refine gg_12_15 (n := 143) (z := v1) X (by decide) (gsz hsz (by decide)) lay_190 kw_6_41 dX12_stands_140 rfl hv1 ?_
    refine g_iadd (n := 144) (z := v1 + 160) X dX12_stands_143 (by omega) rfl ?_
    obtain ⟨v17, hv17, rv17⟩ := gRd I (by decide) (gsz hsz (by decide)) (rs_AT (k := v1 + 160) (by omega)).1
    refine g_iald2 (n := 145) (v := v17) X (by decide) (gsz hsz (by decide)) lay_191 (by omega) (by omega) (by decide) dX12_stands_144 rfl hv17 ?_
    exact hq _ _ _ _ dX12_stands_145 ⟨rfl, by omega⟩
  · refine g_iconst (n := 9) X dX12_stands_8 rfl ?_
    exact hq _ _ _ _ dX12_stands_9 ⟨rfl, by omega⟩
theorem dX12_counts_0 : decode cX12_counts 0 = .ok (.aload_n 0, 1) := dc_42 (by decide +kernel)
theorem dX12_counts_1 : decode cX12_counts 1 = .ok (.getfield 22, 3) := dc_180 0 22 (by decide +kernel)
theorem kw_6_32 : (Jvm.Cond.fieldLink "ParishUnionModel" (22 : Nat) "ParishUnionModel" "known" "[I") ∈ gT := gT_of (tb_6 _ (List.mem_of_getElem? (i := 32) rfl)) rfl
theorem rf_190_6 {sz : Nat} {M : gM} (I : gI sz M) (h : (190 : Int) < (sz : Int)) : M 190 6 = 195 + 1 := gI.rf I (by decide) h (by decide +kernel)
theorem dX12_counts_4 : decode cX12_counts 4 = .ok (.iload_n 1, 1) := dc_27 (by decide +kernel)
theorem dX12_counts_5 : decode cX12_counts 5 = .ok (.iaload, 1) := dc_46 (by decide +kernel)
theorem ra_195 (k : Int) : gRg 195 k = (-2147483648, 2147483647) ∧ gCr 195 k = false ∧ gG 195 k = 91 := ⟨rfl, rfl, rfl⟩
theorem dX12_counts_6 : decode cX12_counts 6 = .ok (.iconst 1, 1) := dc_4 (by decide +kernel)
theorem dX12_counts_7 : decode cX12_counts 7 = .ok (.if_icmp .eq 21, 3) := dc_159 0 21 21 (by decide +kernel)
theorem dX12_counts_28 : decode cX12_counts 28 = .ok (.iconst 1, 1) := dc_4 (by decide +kernel)
theorem dX12_counts_29 : decode cX12_counts 29 = .ok (.goto 4, 3) := dc_167 0 4 4 (by decide +kernel)
theorem dX12_counts_33 : decode cX12_counts 33 = .ok (.ireturn, 1) := dc_172 (by decide +kernel)
theorem dX12_counts_10 : decode cX12_counts 10 = .ok (.aload_n 0, 1) := dc_42 (by decide +kernel)
theorem dX12_counts_11 : decode cX12_counts 11 = .ok (.getfield 22, 3) := dc_180 0 22 (by decide +kernel)
theorem dX12_counts_14 : decode cX12_counts 14 = .ok (.iload_n 1, 1) := dc_27 (by decide +kernel)
theorem dX12_counts_15 : decode cX12_counts 15 = .ok (.iaload, 1) := dc_46 (by decide +kernel)
theorem dX12_counts_16 : decode cX12_counts 16 = .ok (.ifCond .ne 16, 3) := dc_154 0 16 16 (by decide +kernel)
theorem dX12_counts_32 : decode cX12_counts 32 = .ok (.iconst 0, 1) := dc_3 (by decide +kernel)
theorem dX12_counts_19 : decode cX12_counts 19 = .ok (.aload_n 0, 1) := dc_42 (by decide +kernel)
theorem dX12_counts_20 : decode cX12_counts 20 = .ok (.getfield 28, 3) := dc_180 0 28 (by decide +kernel)
theorem kw_6_35 : (Jvm.Cond.fieldLink "ParishUnionModel" (28 : Nat) "ParishUnionModel" "isSo" "[Z") ∈ gT := gT_of (tb_6 _ (List.mem_of_getElem? (i := 35) rfl)) rfl
theorem rf_190_9 {sz : Nat} {M : gM} (I : gI sz M) (h : (190 : Int) < (sz : Int)) : M 190 9 = 197 + 1 := gI.rf I (by decide) h (by decide +kernel)
theorem dX12_counts_23 : decode cX12_counts 23 = .ok (.iload_n 1, 1) := dc_27 (by decide +kernel)
theorem dX12_counts_24 : decode cX12_counts 24 = .ok (.baload, 1) := dc_51 (by decide +kernel)
theorem ra_197 (k : Int) : gRg 197 k = (0, 1) ∧ gCr 197 k = false ∧ gG 197 k = 65 := ⟨rfl, rfl, rfl⟩
theorem dX12_counts_25 : decode cX12_counts 25 = .ok (.ifCond .eq 7, 3) := dc_153 0 7 7 (by decide +kernel)
abbrev R_X12_counts : Room := { frames := 0, cells := 0, slots := 0, locals := 0 }
set_option maxRecDepth 100000 in
set_option maxHeartbeats 4000000 in
theorem s_X12_counts {l : Launch} {n0 : Nat} {D : va_G} {cA : Nat → ClassId} {M : gM} (a : Int) (r_a : 0 ≤ a ∧ a ≤ 39) {sz : Nat} (hsz : 206 ≤ sz) (I : gI sz M) (C : gC sz M)   : Met l yX12_counts (gWsOf yX12_counts cX12_counts 2 (Option.some Jvm.ClassFile.FieldType.boolean)) R_X12_counts (gPc n0 D cA [gA n0 190, gJ a] M sz) (gQi n0 D cA sz (fun z M1 => M = M1 ∧ (0 ≤ z ∧ z ≤ 1))) 0 0 (fun q => n0 ≤ q) := by
  refine gMetZ [gA n0 190, gJ a] (by decide) (Nat.le_of_ble_eq_true rfl) ⟨rfl, rfl⟩ ?_
  intro p e s m args below meth cd Q X hq
  have X : gCx p s m args meth cd n0 D cA "ParishUnionModel" cX12_counts 2 := X
  show G p l e R_X12_counts s m args below meth cd n0 D cA 2 Q 0 0 M sz 0 [(0, gA n0 190), (1, gJ a)] []
  refine g_aload_n (n := 1) X 0 dX12_counts_0 rfl rfl rfl ?_
  refine gg_12_6 (n := 4) (z := 195) X (by decide) (gsz hsz (by decide)) lay_190 kw_6_32 dX12_counts_1 rfl (rf_190_6 I (gsz hsz (by decide))) (by decide) ?_
  refine g_iload_n (n := 5) X 1 dX12_counts_4 rfl rfl rfl ?_
  obtain ⟨v1, hv1, rv1⟩ := gRd I (by decide) (gsz hsz (by decide)) (ra_195 a).1
  refine g_iald2 (n := 6) (v := v1) X (by decide) (gsz hsz (by decide)) lay_195 (by omega) (by omega) (by decide) dX12_counts_5 rfl hv1 ?_
  refine g_iconst (n := 7) X dX12_counts_6 rfl ?_
  refine g_icmp_eq (n := 10) (tgt := 28) X dX12_counts_7 (by decide) (by omega) (by omega) rfl (fun c2 => ?_) (fun c2 => ?_)
  · refine g_iconst (n := 29) X dX12_counts_28 rfl ?_
    refine g_goto (tgt := 33) X dX12_counts_29 (by decide) ?_
    exact hq _ _ _ _ dX12_counts_33 (by omega) ⟨rfl, by omega⟩
  · refine g_aload_n (n := 11) X 0 dX12_counts_10 rfl rfl rfl ?_
    refine gg_12_6 (n := 14) (z := 195) X (by decide) (gsz hsz (by decide)) lay_190 kw_6_32 dX12_counts_11 rfl (rf_190_6 I (gsz hsz (by decide))) (by decide) ?_
    refine g_iload_n (n := 15) X 1 dX12_counts_14 rfl rfl rfl ?_
    refine g_iald2 (n := 16) (v := v1) X (by decide) (gsz hsz (by decide)) lay_195 (by omega) (by omega) (by decide) dX12_counts_15 rfl hv1 ?_
    refine g_if_ne (n := 19) (tgt := 32) X dX12_counts_16 (by decide) (by omega) rfl (fun c3 => ?_) (fun c3 => ?_)
    · refine g_iconst (n := 33) X dX12_counts_32 rfl ?_
      exact hq _ _ _ _ dX12_counts_33 (by omega) ⟨rfl, by omega⟩
    · refine g_aload_n (n := 20) X 0 dX12_counts_19 rfl rfl rfl ?_
      refine gg_12_9 (n := 23) (z := 197) X (by decide) (gsz hsz (by decide)) lay_190 kw_6_35 dX12_counts_20 rfl (rf_190_9 I (gsz hsz (by decide))) (by decide) ?_
      refine g_iload_n (n := 24) X 1 dX12_counts_23 rfl rfl rfl ?_
      obtain ⟨v4, hv4, rv4⟩ := gRd I (by decide) (gsz hsz (by decide)) (ra_197 a).1
      refine g_zald2 (n := 25) (v := v4) X (by decide) (gsz hsz (by decide)) lay_197 (by omega) (by omega) (by decide) dX12_counts_24 rfl hv4 ?_
      refine g_if_eq (n := 28) (tgt := 32) X dX12_counts_25 (by decide) (by omega) rfl (fun c5 => ?_) (fun c5 => ?_)
      · refine g_iconst (n := 33) X dX12_counts_32 rfl ?_
        exact hq _ _ _ _ dX12_counts_33 (by omega) ⟨rfl, by omega⟩
      · refine g_iconst (n := 29) X dX12_counts_28 rfl ?_
        refine g_goto (tgt := 33) X dX12_counts_29 (by decide) ?_
        exact hq _ _ _ _ dX12_counts_33 (by omega) ⟨rfl, by omega⟩
theorem dX12_looks_0 : decode cX12_looks 0 = .ok (.iload_n 1, 1) := dc_27 (by decide +kernel)
theorem dX12_looks_1 : decode cX12_looks 1 = .ok (.iconst (-1), 1) := dc_2 (by decide +kernel)
theorem dX12_looks_2 : decode cX12_looks 2 = .ok (.if_icmp .ne 12, 3) := dc_160 0 12 12 (by decide +kernel)
theorem dX12_looks_14 : decode cX12_looks 14 = .ok (.iload_n 1, 1) := dc_27 (by decide +kernel)
theorem dX12_looks_15 : decode cX12_looks 15 = .ok (.istore_n 2, 1) := dc_61 (by decide +kernel)
theorem dX12_looks_16 : decode cX12_looks 16 = .ok (.iconst 0, 1) := dc_3 (by decide +kernel)
theorem dX12_looks_17 : decode cX12_looks 17 = .ok (.istore_n 3, 1) := dc_62 (by decide +kernel)
theorem dX12_looks_18 : decode cX12_looks 18 = .ok (.iload_n 3, 1) := dc_29 (by decide +kernel)
theorem dX12_looks_19 : decode cX12_looks 19 = .ok (.bipush 40, 2) := dc_16 40 40 (by decide +kernel)
theorem dX12_looks_21 : decode cX12_looks 21 = .ok (.if_icmp .ge 16, 3) := dc_162 0 16 16 (by decide +kernel)
theorem dX12_looks_24 : decode cX12_looks 24 = .ok (.aload_n 0, 1) := dc_42 (by decide +kernel)
theorem dX12_looks_25 : decode cX12_looks 25 = .ok (.getfield 22, 3) := dc_180 0 22 (by decide +kernel)
theorem dX12_looks_28 : decode cX12_looks 28 = .ok (.iload_n 3, 1) := dc_29 (by decide +kernel)
theorem dX12_looks_29 : decode cX12_looks 29 = .ok (.iconst (-1), 1) := dc_2 (by decide +kernel)
theorem dX12_looks_30 : decode cX12_looks 30 = .ok (.iastore, 1) := dc_79 (by decide +kernel)
theorem dX12_looks_31 : decode cX12_looks 31 = .ok (.iinc 3 1, 3) := dc_132 3 1 1 (by decide +kernel)
theorem dX12_looks_34 : decode cX12_looks 34 = .ok (.goto (-16), 3) := dc_167 255 240 (-16) (by decide +kernel)
theorem dX12_looks_37 : decode cX12_looks 37 = .ok (.iconst 0, 1) := dc_3 (by decide +kernel)
theorem dX12_looks_38 : decode cX12_looks 38 = .ok (.istore_n 3, 1) := dc_62 (by decide +kernel)
theorem dX12_looks_39 : decode cX12_looks 39 = .ok (.iload_n 3, 1) := dc_29 (by decide +kernel)
theorem dX12_looks_40 : decode cX12_looks 40 = .ok (.iload_n 2, 1) := dc_28 (by decide +kernel)
theorem dX12_looks_41 : decode cX12_looks 41 = .ok (.if_icmp .ge 65, 3) := dc_162 0 65 65 (by decide +kernel)
theorem dX12_looks_106 : decode cX12_looks 106 = .ok (.aload_n 0, 1) := dc_42 (by decide +kernel)
theorem dX12_looks_107 : decode cX12_looks 107 = .ok (.iconst 0, 1) := dc_3 (by decide +kernel)
theorem dX12_looks_108 : decode cX12_looks 108 = .ok (.putfield 90, 3) := dc_181 0 90 (by decide +kernel)
theorem kw_6_34 : (Jvm.Cond.fieldLink "ParishUnionModel" (90 : Nat) "ParishUnionModel" "lined" "I") ∈ gT := gT_of (tb_6 _ (List.mem_of_getElem? (i := 34) rfl)) rfl
theorem rc_190_8 : gRg 190 8 = (0, 40) ∧ gCr 190 8 = false ∧ gG 190 8 = 66 := by decide +kernel
theorem dX12_looks_111 : decode cX12_looks 111 = .ok (.iconst 0, 1) := dc_3 (by decide +kernel)
theorem dX12_looks_112 : decode cX12_looks 112 = .ok (.istore_n 3, 1) := dc_62 (by decide +kernel)
theorem dX12_looks_113 : decode cX12_looks 113 = .ok (.iload_n 3, 1) := dc_29 (by decide +kernel)
theorem dX12_looks_114 : decode cX12_looks 114 = .ok (.aload_n 0, 1) := dc_42 (by decide +kernel)
theorem dX12_looks_115 : decode cX12_looks 115 = .ok (.getfield 7, 3) := dc_180 0 7 (by decide +kernel)
theorem dX12_looks_118 : decode cX12_looks 118 = .ok (.iconst 2, 1) := dc_5 (by decide +kernel)
theorem dX12_looks_119 : decode cX12_looks 119 = .ok (.iaload, 1) := dc_46 (by decide +kernel)
theorem dX12_looks_120 : decode cX12_looks 120 = .ok (.if_icmp .ge 91, 3) := dc_162 0 91 91 (by decide +kernel)
theorem dX12_looks_211 : decode cX12_looks 211 = .ok (.return_, 1) := dc_177 (by decide +kernel)
theorem dX12_looks_123 : decode cX12_looks 123 = .ok (.aload_n 0, 1) := dc_42 (by decide +kernel)
theorem dX12_looks_124 : decode cX12_looks 124 = .ok (.getfield 90, 3) := dc_180 0 90 (by decide +kernel)
theorem dX12_looks_127 : decode cX12_looks 127 = .ok (.istore 4, 2) := dc_54 4 (by decide +kernel)
theorem dX12_looks_129 : decode cX12_looks 129 = .ok (.iload 4, 2) := dc_21 4 (by decide +kernel)
theorem dX12_looks_131 : decode cX12_looks 131 = .ok (.ifCond .le 56, 3) := dc_158 0 56 56 (by decide +kernel)
theorem dX12_looks_187 : decode cX12_looks 187 = .ok (.aload_n 0, 1) := dc_42 (by decide +kernel)
theorem dX12_looks_188 : decode cX12_looks 188 = .ok (.getfield 25, 3) := dc_180 0 25 (by decide +kernel)
theorem kw_6_33 : (Jvm.Cond.fieldLink "ParishUnionModel" (25 : Nat) "ParishUnionModel" "line" "[I") ∈ gT := gT_of (tb_6 _ (List.mem_of_getElem? (i := 33) rfl)) rfl
theorem rf_190_7 {sz : Nat} {M : gM} (I : gI sz M) (h : (190 : Int) < (sz : Int)) : M 190 7 = 196 + 1 := gI.rf I (by decide) h (by decide +kernel)
theorem dX12_looks_191 : decode cX12_looks 191 = .ok (.iload 4, 2) := dc_21 4 (by decide +kernel)
theorem dX12_looks_193 : decode cX12_looks 193 = .ok (.iload_n 3, 1) := dc_29 (by decide +kernel)
theorem dX12_looks_194 : decode cX12_looks 194 = .ok (.iastore, 1) := dc_79 (by decide +kernel)
theorem ra_196 (k : Int) : gRg 196 k = (0, 39) ∧ gCr 196 k = false ∧ gG 196 k = 65 := ⟨rfl, rfl, rfl⟩
theorem dX12_looks_195 : decode cX12_looks 195 = .ok (.aload_n 0, 1) := dc_42 (by decide +kernel)
theorem dX12_looks_196 : decode cX12_looks 196 = .ok (.dup, 1) := dc_89 (by decide +kernel)
theorem dX12_looks_197 : decode cX12_looks 197 = .ok (.getfield 90, 3) := dc_180 0 90 (by decide +kernel)
theorem dX12_looks_200 : decode cX12_looks 200 = .ok (.iconst 1, 1) := dc_4 (by decide +kernel)
theorem dX12_looks_201 : decode cX12_looks 201 = .ok (.iadd, 1) := dc_96 (by decide +kernel)
theorem dX12_looks_202 : decode cX12_looks 202 = .ok (.putfield 90, 3) := dc_181 0 90 (by decide +kernel)
theorem dX12_looks_205 : decode cX12_looks 205 = .ok (.iinc 3 1, 3) := dc_132 3 1 1 (by decide +kernel)
theorem dX12_looks_208 : decode cX12_looks 208 = .ok (.goto (-95), 3) := dc_167 255 161 (-95) (by decide +kernel)
theorem dX12_looks_134 : decode cX12_looks 134 = .ok (.aload_n 0, 1) := dc_42 (by decide +kernel)
theorem dX12_looks_135 : decode cX12_looks 135 = .ok (.getfield 7, 3) := dc_180 0 7 (by decide +kernel)
theorem dX12_looks_138 : decode cX12_looks 138 = .ok (.sipush 416, 3) := dc_17 1 160 416 (by decide +kernel)
theorem dX12_looks_141 : decode cX12_looks 141 = .ok (.aload_n 0, 1) := dc_42 (by decide +kernel)
theorem dX12_looks_142 : decode cX12_looks 142 = .ok (.getfield 25, 3) := dc_180 0 25 (by decide +kernel)
theorem dX12_looks_145 : decode cX12_looks 145 = .ok (.iload 4, 2) := dc_21 4 (by decide +kernel)
theorem dX12_looks_147 : decode cX12_looks 147 = .ok (.iconst 1, 1) := dc_4 (by decide +kernel)
theorem dX12_looks_148 : decode cX12_looks 148 = .ok (.isub, 1) := dc_100 (by decide +kernel)
theorem dX12_looks_149 : decode cX12_looks 149 = .ok (.iaload, 1) := dc_46 (by decide +kernel)
theorem dX12_looks_150 : decode cX12_looks 150 = .ok (.iadd, 1) := dc_96 (by decide +kernel)
theorem dX12_looks_151 : decode cX12_looks 151 = .ok (.iaload, 1) := dc_46 (by decide +kernel)
theorem dX12_looks_152 : decode cX12_looks 152 = .ok (.aload_n 0, 1) := dc_42 (by decide +kernel)
theorem dX12_looks_153 : decode cX12_looks 153 = .ok (.getfield 7, 3) := dc_180 0 7 (by decide +kernel)
theorem dX12_looks_156 : decode cX12_looks 156 = .ok (.sipush 416, 3) := dc_17 1 160 416 (by decide +kernel)
theorem dX12_looks_159 : decode cX12_looks 159 = .ok (.iload_n 3, 1) := dc_29 (by decide +kernel)
theorem dX12_looks_160 : decode cX12_looks 160 = .ok (.iadd, 1) := dc_96 (by decide +kernel)
theorem dX12_looks_161 : decode cX12_looks 161 = .ok (.iaload, 1) := dc_46 (by decide +kernel)
theorem dX12_looks_162 : decode cX12_looks 162 = .ok (.if_icmp .le 25, 3) := dc_164 0 25 25 (by decide +kernel)
theorem dX12_looks_165 : decode cX12_looks 165 = .ok (.aload_n 0, 1) := dc_42 (by decide +kernel)
theorem dX12_looks_166 : decode cX12_looks 166 = .ok (.getfield 25, 3) := dc_180 0 25 (by decide +kernel)
theorem dX12_looks_169 : decode cX12_looks 169 = .ok (.iload 4, 2) := dc_21 4 (by decide +kernel)
theorem dX12_looks_171 : decode cX12_looks 171 = .ok (.aload_n 0, 1) := dc_42 (by decide +kernel)
theorem dX12_looks_172 : decode cX12_looks 172 = .ok (.getfield 25, 3) := dc_180 0 25 (by decide +kernel)
theorem dX12_looks_175 : decode cX12_looks 175 = .ok (.iload 4, 2) := dc_21 4 (by decide +kernel)
theorem dX12_looks_177 : decode cX12_looks 177 = .ok (.iconst 1, 1) := dc_4 (by decide +kernel)
theorem dX12_looks_178 : decode cX12_looks 178 = .ok (.isub, 1) := dc_100 (by decide +kernel)
theorem dX12_looks_179 : decode cX12_looks 179 = .ok (.iaload, 1) := dc_46 (by decide +kernel)
theorem dX12_looks_180 : decode cX12_looks 180 = .ok (.iastore, 1) := dc_79 (by decide +kernel)
theorem dX12_looks_181 : decode cX12_looks 181 = .ok (.iinc 4 (-1), 3) := dc_132 4 255 (-1) (by decide +kernel)
theorem dX12_looks_184 : decode cX12_looks 184 = .ok (.goto (-55), 3) := dc_167 255 201 (-55) (by decide +kernel)
theorem dX12_looks_44 : decode cX12_looks 44 = .ok (.aload_n 0, 1) := dc_42 (by decide +kernel)
theorem dX12_looks_45 : decode cX12_looks 45 = .ok (.getfield 7, 3) := dc_180 0 7 (by decide +kernel)
theorem dX12_looks_48 : decode cX12_looks 48 = .ok (.sipush 576, 3) := dc_17 2 64 576 (by decide +kernel)
theorem dX12_looks_51 : decode cX12_looks 51 = .ok (.iload_n 3, 1) := dc_29 (by decide +kernel)
theorem dX12_looks_52 : decode cX12_looks 52 = .ok (.iadd, 1) := dc_96 (by decide +kernel)
theorem dX12_looks_53 : decode cX12_looks 53 = .ok (.iaload, 1) := dc_46 (by decide +kernel)
theorem dX12_looks_54 : decode cX12_looks 54 = .ok (.istore 4, 2) := dc_54 4 (by decide +kernel)
theorem dX12_looks_56 : decode cX12_looks 56 = .ok (.aload_n 0, 1) := dc_42 (by decide +kernel)
theorem dX12_looks_57 : decode cX12_looks 57 = .ok (.getfield 22, 3) := dc_180 0 22 (by decide +kernel)
theorem dX12_looks_60 : decode cX12_looks 60 = .ok (.iload 4, 2) := dc_21 4 (by decide +kernel)
theorem dX12_looks_62 : decode cX12_looks 62 = .ok (.aload_n 0, 1) := dc_42 (by decide +kernel)
theorem dX12_looks_63 : decode cX12_looks 63 = .ok (.getfield 7, 3) := dc_180 0 7 (by decide +kernel)
theorem dX12_looks_66 : decode cX12_looks 66 = .ok (.sipush 496, 3) := dc_17 1 240 496 (by decide +kernel)
theorem dX12_looks_69 : decode cX12_looks 69 = .ok (.iload_n 3, 1) := dc_29 (by decide +kernel)
theorem dX12_looks_70 : decode cX12_looks 70 = .ok (.iadd, 1) := dc_96 (by decide +kernel)
theorem dX12_looks_71 : decode cX12_looks 71 = .ok (.iaload, 1) := dc_46 (by decide +kernel)
theorem dX12_looks_72 : decode cX12_looks 72 = .ok (.ifCond .ne 17, 3) := dc_154 0 17 17 (by decide +kernel)
theorem dX12_looks_89 : decode cX12_looks 89 = .ok (.aload_n 0, 1) := dc_42 (by decide +kernel)
theorem dX12_looks_90 : decode cX12_looks 90 = .ok (.getfield 7, 3) := dc_180 0 7 (by decide +kernel)
theorem dX12_looks_93 : decode cX12_looks 93 = .ok (.sipush 496, 3) := dc_17 1 240 496 (by decide +kernel)
theorem dX12_looks_96 : decode cX12_looks 96 = .ok (.iload_n 3, 1) := dc_29 (by decide +kernel)
theorem dX12_looks_97 : decode cX12_looks 97 = .ok (.iadd, 1) := dc_96 (by decide +kernel)
theorem dX12_looks_98 : decode cX12_looks 98 = .ok (.iaload, 1) := dc_46 (by decide +kernel)
theorem dX12_looks_99 : decode cX12_looks 99 = .ok (.iastore, 1) := dc_79 (by decide +kernel)
theorem dX12_looks_100 : decode cX12_looks 100 = .ok (.iinc 3 1, 3) := dc_132 3 1 1 (by decide +kernel)
theorem dX12_looks_103 : decode cX12_looks 103 = .ok (.goto (-64), 3) := dc_167 255 192 (-64) (by decide +kernel)
theorem dX12_looks_75 : decode cX12_looks 75 = .ok (.aload_n 0, 1) := dc_42 (by decide +kernel)
theorem dX12_looks_76 : decode cX12_looks 76 = .ok (.getfield 7, 3) := dc_180 0 7 (by decide +kernel)
theorem dX12_looks_79 : decode cX12_looks 79 = .ok (.sipush 456, 3) := dc_17 1 200 456 (by decide +kernel)
theorem dX12_looks_82 : decode cX12_looks 82 = .ok (.iload 4, 2) := dc_21 4 (by decide +kernel)
theorem dX12_looks_84 : decode cX12_looks 84 = .ok (.iadd, 1) := dc_96 (by decide +kernel)
theorem dX12_looks_85 : decode cX12_looks 85 = .ok (.iaload, 1) := dc_46 (by decide +kernel)
theorem dX12_looks_86 : decode cX12_looks 86 = .ok (.goto 13, 3) := dc_167 0 13 13 (by decide +kernel)
theorem dX12_looks_5 : decode cX12_looks 5 = .ok (.aload_n 0, 1) := dc_42 (by decide +kernel)
theorem dX12_looks_6 : decode cX12_looks 6 = .ok (.getfield 7, 3) := dc_180 0 7 (by decide +kernel)
theorem dX12_looks_9 : decode cX12_looks 9 = .ok (.iconst 3, 1) := dc_6 (by decide +kernel)
theorem dX12_looks_10 : decode cX12_looks 10 = .ok (.iaload, 1) := dc_46 (by decide +kernel)
theorem dX12_looks_11 : decode cX12_looks 11 = .ok (.goto 4, 3) := dc_167 0 4 4 (by decide +kernel)
abbrev R_X12_looks : Room := { frames := 0, cells := 0, slots := 0, locals := 0 }
set_option maxRecDepth 100000 in
set_option maxHeartbeats 4000000 in
theorem s_X12_looks {l : Launch} {n0 : Nat} {D : va_G} {cA : Nat → ClassId} {M : gM} (a : Int) (r_a : -1 ≤ a ∧ a ≤ 80) {sz : Nat} (hsz : 206 ≤ sz) (I : gI sz M) (C : gC sz M)   : Met l yX12_looks (gWsOf yX12_looks cX12_looks 5 (Option.none : Option Jvm.ClassFile.FieldType)) R_X12_looks (gPc n0 D cA [gA n0 190, gJ a] M sz) (gQv n0 D cA sz (fun M1 => gI sz M1 ∧ gC sz M1 ∧ gFr 2475880189251224992055558144 M M1 ∧ (a = -1 → ∀ r : Int, 0 ≤ r → r < 40 → pKn M r (M 191 3) (M1 195 r)))) 0 0 (fun q => n0 ≤ q) := by
  refine gMetV [gA n0 190, gJ a] (by decide) (Nat.le_of_ble_eq_true rfl) ⟨rfl, rfl⟩ ?_
  intro p e s m args below meth cd Q X hq
  have X : gCx p s m args meth cd n0 D cA "ParishUnionModel" cX12_looks 5 := X
  show G p l e R_X12_looks s m args below meth cd n0 D cA 5 Q 0 0 M sz 0 [(0, gA n0 190), (1, gJ a)] []
  obtain ⟨v1, hv1, rv1⟩ := gRd I (by decide) (gsz hsz (by decide)) (rs_NE (k := 3) (by omega)).1
  refine g_iload_n (n := 1) X 1 dX12_looks_0 rfl rfl rfl ?_
  refine g_iconst (n := 2) X dX12_looks_1 rfl ?_
  refine g_icmp_ne (n := 5) (tgt := 14) X dX12_looks_2 (by decide) (by omega) (by omega) rfl (fun c2 => ?_) (fun c2 => ?_)
  · refine g_iload_n (n := 15) X 1 dX12_looks_14 rfl rfl rfl ?_
    refine g_istore_n (n := 16) (L' := [(2, gJ a), (0, gA n0 190), (1, gJ a)]) X dX12_looks_15 rfl (by decide) rfl rfl ?_
    refine g_iconst (n := 17) X dX12_looks_16 rfl ?_
    refine g_istore_n (n := 18) (L' := [(3, gJ 0), (2, gJ a), (0, gA n0 190), (1, gJ a)]) X dX12_looks_17 rfl (by decide) rfl rfl ?_
    have j5 : ∀ (N6291 : Nat) (v3 : Int) (M4 : gM) , (0 ≤ v3 ∧ v3 ≤ 40) → gI sz M4 → gC sz M4 → gFr 2475880078570760549798248448 M M4 → (∀ r : Int, 0 ≤ r → r < v3 → M4 195 r = -1) → (40 - v3).toNat < N6291 → G p l e R_X12_looks s m args below meth cd n0 D cA 5 Q 0 0 M4 sz 18 [(0, gA n0 190), (2, gJ a), (3, gJ v3)] [] := by
      intro N6291; induction N6291 with
      | zero => intro v3 M4 rv3 IM4 CM4 FM4 hk5 hm6293; exfalso; omega
      | succ N6291 ih6292 =>
        intro v3 M4 rv3 IM4 CM4 FM4 hk5 hm6293
        refine g_iload_n (n := 19) X 2 dX12_looks_18 rfl rfl rfl ?_
        refine g_bipush (n := 21) X dX12_looks_19 (by decide +kernel) rfl ?_
        refine g_icmp_ge (n := 24) (tgt := 37) X dX12_looks_21 (by decide) (by omega) (by omega) rfl (fun c6294 => ?_) (fun c6294 => ?_)
        · refine g_iconst (n := 38) X dX12_looks_37 rfl ?_
          refine g_istore_n (n := 39) (L' := [(3, gJ 0), (0, gA n0 190), (2, gJ a)]) X dX12_looks_38 rfl (by decide) rfl rfl ?_
          have j6297 : ∀ (N12029 : Nat) (v6295 : Int) (M6296 : gM) , (0 ≤ v6295 ∧ v6295 ≤ 80) → gI sz M6296 → gC sz M6296 → gFr 2475880078570760549798248448 M4 M6296 → (v6295 ≤ a ∧ ∀ r : Int, 0 ≤ r → r < 40 → pKn M r v6295 (M6296 195 r)) → (80 - v6295).toNat < N12029 → G p l e R_X12_looks s m args below meth cd n0 D cA 5 Q 0 0 M6296 sz 39 [(0, gA n0 190), (2, gJ a), (3, gJ v6295)] [] := by
            intro N12029; induction N12029 with
            | zero => intro v6295 M6296 rv6295 IM6296 CM6296 FM6296 hk6 hm12031; exfalso; omega
            | succ N12029 ih12030 =>
              intro v6295 M6296 rv6295 IM6296 CM6296 FM6296 hk6 hm12031
              refine g_iload_n (n := 40) X 2 dX12_looks_39 rfl rfl rfl ?_
              refine g_iload_n (n := 41) X 1 dX12_looks_40 rfl rfl rfl ?_
              refine g_icmp_ge (n := 44) (tgt := 106) X dX12_looks_41 (by decide) (by omega) (by omega) rfl (fun c12032 => ?_) (fun c12032 => ?_)
              · refine g_aload_n (n := 107) X 0 dX12_looks_106 rfl rfl rfl ?_
                refine g_iconst (n := 108) X dX12_looks_107 rfl ?_
                refine gp_12_8 (n := 111) X (by decide) (gsz hsz (by decide)) lay_190 kw_6_34 dX12_looks_108 rfl ?_
                refine G.nm (fun M12033 e12034 => ?_)
                have IM12033 : gI sz M12033 := gI.set IM6296 rc_190_8.1 (by omega) e12034
                have CM12033 : gC sz M12033 := gC.set CM6296 rc_190_8.2.1 e12034
                refine g_iconst (n := 112) X dX12_looks_111 rfl ?_
                refine g_istore_n (n := 113) (L' := [(3, gJ 0), (0, gA n0 190), (2, gJ a)]) X dX12_looks_112 rfl (by decide) rfl rfl ?_
                have j12037 : ∀ (N12488 : Nat) (v12035 : Int) (M12036 : gM) , (0 ≤ v12035 ∧ v12035 ≤ 40) → gI sz M12036 → gC sz M12036 → gFr 110680464442257309696 M12033 M12036 → (M12036 190 8 = v12035) → (40 - v12035).toNat < N12488 → G p l e R_X12_looks s m args below meth cd n0 D cA 5 Q 0 0 M12036 sz 113 [(0, gA n0 190), (3, gJ v12035)] [] := by
                  intro N12488; induction N12488 with
                  | zero => intro v12035 M12036 rv12035 IM12036 CM12036 FM12036 hl hm12490; exfalso; omega
                  | succ N12488 ih12489 =>
                    intro v12035 M12036 rv12035 IM12036 CM12036 FM12036 hl hm12490
                    refine g_iload_n (n := 114) X 1 dX12_looks_113 rfl rfl rfl ?_
                    refine g_aload_n (n := 115) X 0 dX12_looks_114 rfl rfl rfl ?_
                    refine gg_12_1 (n := 118) (z := 191) X (by decide) (gsz hsz (by decide)) lay_190 kw_6_27 dX12_looks_115 rfl (rf_190_1 IM12036 (gsz hsz (by decide))) (by decide) ?_
                    refine g_iconst (n := 119) X dX12_looks_118 rfl ?_
                    obtain ⟨v12491, hv12491, rv12491⟩ := gRd IM12036 (by decide) (gsz hsz (by decide)) (rs_NR (k := 2) (by omega)).1
                    refine g_iald2 (n := 120) (v := v12491) X (by decide) (gsz hsz (by decide)) lay_191 (by omega) (by omega) (by decide) dX12_looks_119 rfl hv12491 ?_
                    refine g_icmp_ge (n := 123) (tgt := 211) X dX12_looks_120 (by decide) (by omega) (by omega) rfl (fun c12492 => ?_) (fun c12492 => ?_)
                    · exact hq _ _ _ dX12_looks_211 ⟨IM12036, CM12036, (gFr.c (gFr.s (gFr.c (gFr.c gFr.rf FM4 rfl) FM6296 rfl) e12034 rc_190_8.2.2 rfl) FM12036 rfl), fun ha r h0 h1 => by rw [gFr.at ((gFr.c (gFr.s gFr.rf e12034 rc_190_8.2.2 rfl) FM12036 rfl) : gFr 110680464442257309696 M6296 M12036) (ra_195 r).2.2 rfl]; have q := hv1; rw [show M 191 3 = v6295 by omega]; exact hk6.2 r h0 h1⟩
                    · refine g_aload_n (n := 124) X 0 dX12_looks_123 rfl rfl rfl ?_
                      obtain ⟨v12493, hv12493, rv12493⟩ := gRd IM12036 (by decide) (gsz hsz (by decide)) rc_190_8.1
                      refine gg_12_8 (n := 127) (z := v12493) X (by decide) (gsz hsz (by decide)) lay_190 kw_6_34 dX12_looks_124 rfl hv12493 ?_
                      refine g_istore (n := 129) (L' := [(4, gJ v12493), (0, gA n0 190), (3, gJ v12035)]) X dX12_looks_127 (by decide) rfl rfl ?_
                      have j12496 : ∀ (N12527 : Nat) (v12494 : Int) (M12495 : gM) , (0 ≤ v12494 ∧ v12494 ≤ 39) → gI sz M12495 → gC sz M12495 → gFr 36893488147419103232 M12036 M12495 → (v12494 - 0).toNat < N12527 → G p l e R_X12_looks s m args below meth cd n0 D cA 5 Q 0 0 M12495 sz 129 [(0, gA n0 190), (3, gJ v12035), (4, gJ v12494)] [] := by
                        intro N12527; induction N12527 with
                        | zero => intro v12494 M12495 rv12494 IM12495 CM12495 FM12495 hm12529; exfalso; omega
                        | succ N12527 ih12528 =>
                          intro v12494 M12495 rv12494 IM12495 CM12495 FM12495 hm12529
                          refine g_iload (n := 131) X 2 dX12_looks_129 rfl rfl ?_
                          refine g_if_le (n := 134) (tgt := 187) X dX12_looks_131 (by decide) (by omega) rfl (fun c12530 => ?_) (fun c12530 => ?_)
                          · refine g_aload_n (n := 188) X 0 dX12_looks_187 rfl rfl rfl ?_
                            refine gg_12_7 (n := 191) (z := 196) X (by decide) (gsz hsz (by decide)) lay_190 kw_6_33 dX12_looks_188 rfl (rf_190_7 IM12495 (gsz hsz (by decide))) (by decide) ?_
                            refine g_iload (n := 193) X 2 dX12_looks_191 rfl rfl ?_
                            refine g_iload_n (n := 194) X 1 dX12_looks_193 rfl rfl rfl ?_
                            refine g_iast (n := 195) X (by decide) (gsz hsz (by decide)) lay_196 (by omega) (by omega) (by decide) dX12_looks_194 rfl ?_
                            refine G.nm (fun M12531 e12532 => ?_)
                            have IM12531 : gI sz M12531 := gI.set IM12495 (ra_196 v12494).1 (by omega) e12532
                            have CM12531 : gC sz M12531 := gC.set CM12495 (ra_196 v12494).2.1 e12532
                            refine g_aload_n (n := 196) X 0 dX12_looks_195 rfl rfl rfl ?_
                            refine g_dup (n := 197) X dX12_looks_196 rfl rfl ?_
                            refine gg_12_8 (n := 200) (z := v12493) X (by decide) (gsz hsz (by decide)) lay_190 kw_6_34 dX12_looks_197 rfl ((congrFun (congrFun e12532 _) _).trans ((gset_ne (by omega)).trans ((gFr.at FM12495 rc_190_8.2.2 rfl).trans hv12493))) ?_
                            refine g_iconst (n := 201) X dX12_looks_200 rfl ?_
                            refine g_iadd (n := 202) (z := v12493 + 1) X dX12_looks_201 (by omega) rfl ?_
                            refine gp_12_8 (n := 205) X (by decide) (gsz hsz (by decide)) lay_190 kw_6_34 dX12_looks_202 rfl ?_
                            refine G.nm (fun M12533 e12534 => ?_)
                            have IM12533 : gI sz M12533 := gI.set IM12531 rc_190_8.1 (by omega) e12534
                            have CM12533 : gC sz M12533 := gC.set CM12531 rc_190_8.2.1 e12534
                            refine g_iinc (n := 208) (w := v12035 + 1) (L' := [(3, gJ (v12035 + 1)), (0, gA n0 190), (4, gJ v12494)]) X 1 dX12_looks_205 rfl rfl (by decide) rfl rfl ?_
                            refine g_goto (tgt := 113) X dX12_looks_208 (by decide) ?_
                            refine G.sub (L' := [(0, gA n0 190), (3, gJ (v12035 + 1))]) [1, 0] rfl ?_
                            exact ih12489 (v12035 + 1) M12533 (by omega) IM12533 CM12533 (gFr.s (gFr.s (gFr.c (gFr.c gFr.rf FM12036 rfl) FM12495 rfl) e12532 (ra_196 v12494).2.2 rfl) e12534 rc_190_8.2.2 rfl) (by have h1 := ((congrFun (congrFun e12534 _) _).trans (gset_eq _ _ _ _)); omega) (by omega)
                          · refine g_aload_n (n := 135) X 0 dX12_looks_134 rfl rfl rfl ?_
                            refine gg_12_1 (n := 138) (z := 191) X (by decide) (gsz hsz (by decide)) lay_190 kw_6_27 dX12_looks_135 rfl (rf_190_1 IM12495 (gsz hsz (by decide))) (by decide) ?_
                            refine g_sipush (n := 141) X dX12_looks_138 (by decide +kernel) rfl ?_
                            refine g_aload_n (n := 142) X 0 dX12_looks_141 rfl rfl rfl ?_
                            refine gg_12_7 (n := 145) (z := 196) X (by decide) (gsz hsz (by decide)) lay_190 kw_6_33 dX12_looks_142 rfl (rf_190_7 IM12495 (gsz hsz (by decide))) (by decide) ?_
                            refine g_iload (n := 147) X 2 dX12_looks_145 rfl rfl ?_
                            refine g_iconst (n := 148) X dX12_looks_147 rfl ?_
                            refine g_isub (n := 149) (z := v12494 - 1) X dX12_looks_148 (by omega) rfl ?_
                            obtain ⟨v12535, hv12535, rv12535⟩ := gRd IM12495 (by decide) (gsz hsz (by decide)) (ra_196 (v12494 - 1)).1
                            refine g_iald2 (n := 150) (v := v12535) X (by decide) (gsz hsz (by decide)) lay_196 (by omega) (by omega) (by decide) dX12_looks_149 rfl hv12535 ?_
                            refine g_iadd (n := 151) (z := v12535 + 416) X dX12_looks_150 (by omega) rfl ?_
                            obtain ⟨v12536, hv12536, rv12536⟩ := gRd IM12495 (by decide) (gsz hsz (by decide)) (rs_RWEEK (k := v12535 + 416) (by omega)).1
                            refine g_iald2 (n := 152) (v := v12536) X (by decide) (gsz hsz (by decide)) lay_191 (by omega) (by omega) (by decide) dX12_looks_151 rfl hv12536 ?_
                            refine g_aload_n (n := 153) X 0 dX12_looks_152 rfl rfl rfl ?_
                            refine gg_12_1 (n := 156) (z := 191) X (by decide) (gsz hsz (by decide)) lay_190 kw_6_27 dX12_looks_153 rfl (rf_190_1 IM12495 (gsz hsz (by decide))) (by decide) ?_
                            refine g_sipush (n := 159) X dX12_looks_156 (by decide +kernel) rfl ?_
                            refine g_iload_n (n := 160) X 1 dX12_looks_159 rfl rfl rfl ?_
                            refine g_iadd (n := 161) (z := v12035 + 416) X dX12_looks_160 (by omega) rfl ?_
                            obtain ⟨v12537, hv12537, rv12537⟩ := gRd IM12495 (by decide) (gsz hsz (by decide)) (rs_RWEEK (k := v12035 + 416) (by omega)).1
                            refine g_iald2 (n := 162) (v := v12537) X (by decide) (gsz hsz (by decide)) lay_191 (by omega) (by omega) (by decide) dX12_looks_161 rfl hv12537 ?_
                            refine g_icmp_le (n := 165) (tgt := 187) X dX12_looks_162 (by decide) (by omega) (by omega) rfl (fun c12538 => ?_) (fun c12538 => ?_)
                            · refine g_aload_n (n := 188) X 0 dX12_looks_187 rfl rfl rfl ?_
                              refine gg_12_7 (n := 191) (z := 196) X (by decide) (gsz hsz (by decide)) lay_190 kw_6_33 dX12_looks_188 rfl (rf_190_7 IM12495 (gsz hsz (by decide))) (by decide) ?_
                              refine g_iload (n := 193) X 2 dX12_looks_191 rfl rfl ?_
                              refine g_iload_n (n := 194) X 1 dX12_looks_193 rfl rfl rfl ?_
                              refine g_iast (n := 195) X (by decide) (gsz hsz (by decide)) lay_196 (by omega) (by omega) (by decide) dX12_looks_194 rfl ?_
                              refine G.nm (fun M12539 e12540 => ?_)
                              have IM12539 : gI sz M12539 := gI.set IM12495 (ra_196 v12494).1 (by omega) e12540
                              have CM12539 : gC sz M12539 := gC.set CM12495 (ra_196 v12494).2.1 e12540
                              refine g_aload_n (n := 196) X 0 dX12_looks_195 rfl rfl rfl ?_
                              refine g_dup (n := 197) X dX12_looks_196 rfl rfl ?_
                              refine gg_12_8 (n := 200) (z := v12493) X (by decide) (gsz hsz (by decide)) lay_190 kw_6_34 dX12_looks_197 rfl ((congrFun (congrFun e12540 _) _).trans ((gset_ne (by omega)).trans ((gFr.at FM12495 rc_190_8.2.2 rfl).trans hv12493))) ?_
                              refine g_iconst (n := 201) X dX12_looks_200 rfl ?_
                              refine g_iadd (n := 202) (z := v12493 + 1) X dX12_looks_201 (by omega) rfl ?_
                              refine gp_12_8 (n := 205) X (by decide) (gsz hsz (by decide)) lay_190 kw_6_34 dX12_looks_202 rfl ?_
                              refine G.nm (fun M12541 e12542 => ?_)
                              have IM12541 : gI sz M12541 := gI.set IM12539 rc_190_8.1 (by omega) e12542
                              have CM12541 : gC sz M12541 := gC.set CM12539 rc_190_8.2.1 e12542
                              refine g_iinc (n := 208) (w := v12035 + 1) (L' := [(3, gJ (v12035 + 1)), (0, gA n0 190), (4, gJ v12494)]) X 1 dX12_looks_205 rfl rfl (by decide) rfl rfl ?_
                              refine g_goto (tgt := 113) X dX12_looks_208 (by decide) ?_
                              refine G.sub (L' := [(0, gA n0 190), (3, gJ (v12035 + 1))]) [1, 0] rfl ?_
                              exact ih12489 (v12035 + 1) M12541 (by omega) IM12541 CM12541 (gFr.s (gFr.s (gFr.c (gFr.c gFr.rf FM12036 rfl) FM12495 rfl) e12540 (ra_196 v12494).2.2 rfl) e12542 rc_190_8.2.2 rfl) (by have h1 := ((congrFun (congrFun e12542 _) _).trans (gset_eq _ _ _ _)); omega) (by omega)
                            · refine g_aload_n (n := 166) X 0 dX12_looks_165 rfl rfl rfl ?_
                              refine gg_12_7 (n := 169) (z := 196) X (by decide) (gsz hsz (by decide)) lay_190 kw_6_33 dX12_looks_166 rfl (rf_190_7 IM12495 (gsz hsz (by decide))) (by decide) ?_
                              refine g_iload (n := 171) X 2 dX12_looks_169 rfl rfl ?_
                              refine g_aload_n (n := 172) X 0 dX12_looks_171 rfl rfl rfl ?_
                              refine gg_12_7 (n := 175) (z := 196) X (by decide) (gsz hsz (by decide)) lay_190 kw_6_33 dX12_looks_172 rfl (rf_190_7 IM12495 (gsz hsz (by decide))) (by decide) ?_
                              refine g_iload (n := 177) X 2 dX12_looks_175 rfl rfl ?_
                              refine g_iconst (n := 178) X dX12_looks_177 rfl ?_
                              refine g_isub (n := 179) (z := v12494 - 1) X dX12_looks_178 (by omega) rfl ?_
                              refine g_iald2 (n := 180) (v := v12535) X (by decide) (gsz hsz (by decide)) lay_196 (by omega) (by omega) (by decide) dX12_looks_179 rfl hv12535 ?_
                              refine g_iast (n := 181) X (by decide) (gsz hsz (by decide)) lay_196 (by omega) (by omega) (by decide) dX12_looks_180 rfl ?_
                              refine G.nm (fun M12543 e12544 => ?_)
                              have IM12543 : gI sz M12543 := gI.set IM12495 (ra_196 v12494).1 (by omega) e12544
                              have CM12543 : gC sz M12543 := gC.set CM12495 (ra_196 v12494).2.1 e12544
                              refine g_iinc (n := 184) (w := v12494 - 1) (L' := [(4, gJ (v12494 - 1)), (0, gA n0 190), (3, gJ v12035)]) X 2 dX12_looks_181 rfl rfl (by decide) rfl rfl ?_
                              refine g_goto (tgt := 129) X dX12_looks_184 (by decide) ?_
                              refine G.sub (L' := [(0, gA n0 190), (3, gJ v12035), (4, gJ (v12494 - 1))]) [1, 2, 0] rfl ?_
                              exact ih12528 (v12494 - 1) M12543 (by omega) IM12543 CM12543 (gFr.s (gFr.c gFr.rf FM12495 rfl) e12544 (ra_196 v12494).2.2 rfl) (by omega)
                      refine G.sub (L' := [(0, gA n0 190), (3, gJ v12035), (4, gJ v12493)]) [1, 2, 0] rfl ?_
                      exact j12496 _ v12493 M12036 (by omega) IM12036 CM12036 gFr.rf (Nat.lt_succ_self _)
                refine G.sub (L' := [(0, gA n0 190), (3, gJ 0)]) [1, 0] rfl ?_
                exact j12037 _ 0 M12033 (by omega) IM12033 CM12033 gFr.rf (by have h1 := ((congrFun (congrFun e12034 _) _).trans (gset_eq _ _ _ _)); omega) (Nat.lt_succ_self _)
              · refine g_aload_n (n := 45) X 0 dX12_looks_44 rfl rfl rfl ?_
                refine gg_12_1 (n := 48) (z := 191) X (by decide) (gsz hsz (by decide)) lay_190 kw_6_27 dX12_looks_45 rfl (rf_190_1 IM6296 (gsz hsz (by decide))) (by decide) ?_
                refine g_sipush (n := 51) X dX12_looks_48 (by decide +kernel) rfl ?_
                refine g_iload_n (n := 52) X 2 dX12_looks_51 rfl rfl rfl ?_
                refine g_iadd (n := 53) (z := v6295 + 576) X dX12_looks_52 (by omega) rfl ?_
                obtain ⟨v12545, hv12545, rv12545⟩ := gRd IM6296 (by decide) (gsz hsz (by decide)) (rs_ERIGHT (k := v6295 + 576) (by omega)).1
                refine g_iald2 (n := 54) (v := v12545) X (by decide) (gsz hsz (by decide)) lay_191 (by omega) (by omega) (by decide) dX12_looks_53 rfl hv12545 ?_
                refine g_istore (n := 56) (L' := [(4, gJ v12545), (0, gA n0 190), (2, gJ a), (3, gJ v6295)]) X dX12_looks_54 (by decide) rfl rfl ?_
                refine g_aload_n (n := 57) X 1 dX12_looks_56 rfl rfl rfl ?_
                refine gg_12_6 (n := 60) (z := 195) X (by decide) (gsz hsz (by decide)) lay_190 kw_6_32 dX12_looks_57 rfl (rf_190_6 IM6296 (gsz hsz (by decide))) (by decide) ?_
                refine g_iload (n := 62) X 0 dX12_looks_60 rfl rfl ?_
                refine g_aload_n (n := 63) X 1 dX12_looks_62 rfl rfl rfl ?_
                refine gg_12_1 (n := 66) (z := 191) X (by decide) (gsz hsz (by decide)) lay_190 kw_6_27 dX12_looks_63 rfl (rf_190_1 IM6296 (gsz hsz (by decide))) (by decide) ?_
                refine g_sipush (n := 69) X dX12_looks_66 (by decide +kernel) rfl ?_
                refine g_iload_n (n := 70) X 3 dX12_looks_69 rfl rfl rfl ?_
                refine g_iadd (n := 71) (z := v6295 + 496) X dX12_looks_70 (by omega) rfl ?_
                obtain ⟨v12546, hv12546, rv12546⟩ := gRd IM6296 (by decide) (gsz hsz (by decide)) (rs_EKIND (k := v6295 + 496) (by omega)).1
                refine g_iald2 (n := 72) (v := v12546) X (by decide) (gsz hsz (by decide)) lay_191 (by omega) (by omega) (by decide) dX12_looks_71 rfl hv12546 ?_
                refine g_if_ne (n := 75) (tgt := 89) X dX12_looks_72 (by decide) (by omega) rfl (fun c12547 => ?_) (fun c12547 => ?_)
                · refine g_aload_n (n := 90) X 1 dX12_looks_89 rfl rfl rfl ?_
                  refine gg_12_1 (n := 93) (z := 191) X (by decide) (gsz hsz (by decide)) lay_190 kw_6_27 dX12_looks_90 rfl (rf_190_1 IM6296 (gsz hsz (by decide))) (by decide) ?_
                  refine g_sipush (n := 96) X dX12_looks_93 (by decide +kernel) rfl ?_
                  refine g_iload_n (n := 97) X 3 dX12_looks_96 rfl rfl rfl ?_
                  refine g_iadd (n := 98) (z := v6295 + 496) X dX12_looks_97 (by omega) rfl ?_
                  refine g_iald2 (n := 99) (v := v12546) X (by decide) (gsz hsz (by decide)) lay_191 (by omega) (by omega) (by decide) dX12_looks_98 rfl hv12546 ?_
                  refine g_iast (n := 100) X (by decide) (gsz hsz (by decide)) lay_195 (by omega) (by omega) (by decide) dX12_looks_99 rfl ?_
                  refine G.nm (fun M12548 e12549 => ?_)
                  have IM12548 : gI sz M12548 := gI.set IM6296 (ra_195 v12545).1 (by omega) e12549
                  have CM12548 : gC sz M12548 := gC.set CM6296 (ra_195 v12545).2.1 e12549
                  refine g_iinc (n := 103) (w := v6295 + 1) (L' := [(3, gJ (v6295 + 1)), (4, gJ v12545), (0, gA n0 190), (2, gJ a)]) X 3 dX12_looks_100 rfl rfl (by decide) rfl rfl ?_
                  refine g_goto (tgt := 39) X dX12_looks_103 (by decide) ?_
                  refine G.sub (L' := [(0, gA n0 190), (2, gJ a), (3, gJ (v6295 + 1))]) [2, 3, 0] rfl ?_
                  exact ih12030 (v6295 + 1) M12548 (by omega) IM12548 CM12548 (gFr.s (gFr.c gFr.rf FM6296 rfl) e12549 (ra_195 v12545).2.2 rfl) ⟨by omega, fun r h0 h1 => if g : r = v12545 then (by rw [show M12548 195 r = v12546 from by rw [e12549, g, gset_eq], g]; have q2 := ((((fun b h0 h1 => ((gFr.s191 FM6296 rfl b).trans ((gFr.s191 FM4 rfl b).trans rfl))) : ∀ b : Int, 0 ≤ b → b < 25301 → M6296 191 b = M 191 b) (v6295 + 496) (by omega) (by omega)).symm.trans hv12546); exact pKn.t (by omega) ((((fun b h0 h1 => ((gFr.s191 FM6296 rfl b).trans ((gFr.s191 FM4 rfl b).trans rfl))) : ∀ b : Int, 0 ≤ b → b < 25301 → M6296 191 b = M 191 b) (v6295 + 576) (by omega) (by omega)).symm.trans hv12545) (by omega)) else (pKn.o (hk6.2 r h0 h1) (fun q => g (q.symm.trans ((((fun b h0 h1 => ((gFr.s191 FM6296 rfl b).trans ((gFr.s191 FM4 rfl b).trans rfl))) : ∀ b : Int, 0 ≤ b → b < 25301 → M6296 191 b = M 191 b) (v6295 + 576) (by omega) (by omega)).symm.trans hv12545))) (by rw [e12549, gset_ne (by omega)]))⟩ (by omega)
                · refine g_aload_n (n := 76) X 1 dX12_looks_75 rfl rfl rfl ?_
                  refine gg_12_1 (n := 79) (z := 191) X (by decide) (gsz hsz (by decide)) lay_190 kw_6_27 dX12_looks_76 rfl (rf_190_1 IM6296 (gsz hsz (by decide))) (by decide) ?_
                  refine g_sipush (n := 82) X dX12_looks_79 (by decide +kernel) rfl ?_
                  refine g_iload (n := 84) X 0 dX12_looks_82 rfl rfl ?_
                  refine g_iadd (n := 85) (z := v12545 + 456) X dX12_looks_84 (by omega) rfl ?_
                  obtain ⟨v12550, hv12550, rv12550⟩ := gRd IM6296 (by decide) (gsz hsz (by decide)) (rs_RSURE (k := v12545 + 456) (by omega)).1
                  refine g_iald2 (n := 86) (v := v12550) X (by decide) (gsz hsz (by decide)) lay_191 (by omega) (by omega) (by decide) dX12_looks_85 rfl hv12550 ?_
                  refine g_goto (tgt := 99) X dX12_looks_86 (by decide) ?_
                  refine g_iast (n := 100) X (by decide) (gsz hsz (by decide)) lay_195 (by omega) (by omega) (by decide) dX12_looks_99 rfl ?_
                  refine G.nm (fun M12551 e12552 => ?_)
                  have IM12551 : gI sz M12551 := gI.set IM6296 (ra_195 v12545).1 (by omega) e12552
                  have CM12551 : gC sz M12551 := gC.set CM6296 (ra_195 v12545).2.1 e12552
                  refine g_iinc (n := 103) (w := v6295 + 1) (L' := [(3, gJ (v6295 + 1)), (4, gJ v12545), (0, gA n0 190), (2, gJ a)]) X 3 dX12_looks_100 rfl rfl (by decide) rfl rfl ?_
                  refine g_goto (tgt := 39) X dX12_looks_103 (by decide) ?_
                  refine G.sub (L' := [(0, gA n0 190), (2, gJ a), (3, gJ (v6295 + 1))]) [2, 3, 0] rfl ?_
                  exact ih12030 (v6295 + 1) M12551 (by omega) IM12551 CM12551 (gFr.s (gFr.c gFr.rf FM6296 rfl) e12552 (ra_195 v12545).2.2 rfl) ⟨by omega, fun r h0 h1 => if g : r = v12545 then (by rw [show M12551 195 r = v12550 from by rw [e12552, g, gset_eq], g]; have q2 := ((((fun b h0 h1 => ((gFr.s191 FM6296 rfl b).trans ((gFr.s191 FM4 rfl b).trans rfl))) : ∀ b : Int, 0 ≤ b → b < 25301 → M6296 191 b = M 191 b) (v6295 + 496) (by omega) (by omega)).symm.trans hv12546); have q3 := (((fun b h0 h1 => ((gFr.s191 FM6296 rfl b).trans ((gFr.s191 FM4 rfl b).trans rfl))) : ∀ b : Int, 0 ≤ b → b < 25301 → M6296 191 b = M 191 b) (v12545 + 456) (by omega) (by omega)).symm.trans hv12550; exact pKn.t (by omega) ((((fun b h0 h1 => ((gFr.s191 FM6296 rfl b).trans ((gFr.s191 FM4 rfl b).trans rfl))) : ∀ b : Int, 0 ≤ b → b < 25301 → M6296 191 b = M 191 b) (v6295 + 576) (by omega) (by omega)).symm.trans hv12545) (by omega)) else (pKn.o (hk6.2 r h0 h1) (fun q => g (q.symm.trans ((((fun b h0 h1 => ((gFr.s191 FM6296 rfl b).trans ((gFr.s191 FM4 rfl b).trans rfl))) : ∀ b : Int, 0 ≤ b → b < 25301 → M6296 191 b = M 191 b) (v6295 + 576) (by omega) (by omega)).symm.trans hv12545))) (by rw [e12552, gset_ne (by omega)]))⟩ (by omega)
          refine G.sub (L' := [(0, gA n0 190), (2, gJ a), (3, gJ 0)]) [1, 2, 0] rfl ?_
          exact j6297 _ 0 M4 (by omega) IM4 CM4 gFr.rf ⟨by omega, fun r h0 h1 => pKn.z (hk5 r h0 (by omega))⟩ (Nat.lt_succ_self _)
        · refine g_aload_n (n := 25) X 0 dX12_looks_24 rfl rfl rfl ?_
          refine gg_12_6 (n := 28) (z := 195) X (by decide) (gsz hsz (by decide)) lay_190 kw_6_32 dX12_looks_25 rfl (rf_190_6 IM4 (gsz hsz (by decide))) (by decide) ?_
          refine g_iload_n (n := 29) X 2 dX12_looks_28 rfl rfl rfl ?_
          refine g_iconst (n := 30) X dX12_looks_29 rfl ?_
          refine g_iast (n := 31) X (by decide) (gsz hsz (by decide)) lay_195 (by omega) (by omega) (by decide) dX12_looks_30 rfl ?_
          refine G.nm (fun M12553 e12554 => ?_)
          have IM12553 : gI sz M12553 := gI.set IM4 (ra_195 v3).1 (by omega) e12554
          have CM12553 : gC sz M12553 := gC.set CM4 (ra_195 v3).2.1 e12554
          refine g_iinc (n := 34) (w := v3 + 1) (L' := [(3, gJ (v3 + 1)), (0, gA n0 190), (2, gJ a)]) X 2 dX12_looks_31 rfl rfl (by decide) rfl rfl ?_
          refine g_goto (tgt := 18) X dX12_looks_34 (by decide) ?_
          refine G.sub (L' := [(0, gA n0 190), (2, gJ a), (3, gJ (v3 + 1))]) [1, 2, 0] rfl ?_
          exact ih6292 (v3 + 1) M12553 (by omega) IM12553 CM12553 (gFr.s (gFr.c gFr.rf FM4 rfl) e12554 (ra_195 v3).2.2 rfl) (fun r h0 h1 => if g : r = v3 then (by rw [e12554, g, gset_eq]) else (by rw [e12554, gset_ne (by omega)]; exact hk5 r h0 (by omega))) (by omega)
    refine G.sub (L' := [(0, gA n0 190), (2, gJ a), (3, gJ 0)]) [2, 1, 0] rfl ?_
    exact j5 _ 0 M (by omega) I C gFr.rf (fun r h0 h1 => by exfalso; omega) (Nat.lt_succ_self _)
  · refine g_aload_n (n := 6) X 0 dX12_looks_5 rfl rfl rfl ?_
    refine gg_12_1 (n := 9) (z := 191) X (by decide) (gsz hsz (by decide)) lay_190 kw_6_27 dX12_looks_6 rfl (rf_190_1 I (gsz hsz (by decide))) (by decide) ?_
    refine g_iconst (n := 10) X dX12_looks_9 rfl ?_
    refine g_iald2 (n := 11) (v := v1) X (by decide) (gsz hsz (by decide)) lay_191 (by omega) (by omega) (by decide) dX12_looks_10 rfl hv1 ?_
    refine g_goto (tgt := 15) X dX12_looks_11 (by decide) ?_
    refine g_istore_n (n := 16) (L' := [(2, gJ v1), (0, gA n0 190), (1, gJ a)]) X dX12_looks_15 rfl (by decide) rfl rfl ?_
    refine g_iconst (n := 17) X dX12_looks_16 rfl ?_
    refine g_istore_n (n := 18) (L' := [(3, gJ 0), (2, gJ v1), (0, gA n0 190), (1, gJ a)]) X dX12_looks_17 rfl (by decide) rfl rfl ?_
    have j12557 : ∀ (N18843 : Nat) (v12555 : Int) (M12556 : gM) , (0 ≤ v12555 ∧ v12555 ≤ 40) → gI sz M12556 → gC sz M12556 → gFr 2475880078570760549798248448 M M12556 → (∀ r : Int, 0 ≤ r → r < v12555 → M12556 195 r = -1) → (40 - v12555).toNat < N18843 → G p l e R_X12_looks s m args below meth cd n0 D cA 5 Q 0 0 M12556 sz 18 [(0, gA n0 190), (2, gJ v1), (3, gJ v12555)] [] := by
      intro N18843; induction N18843 with
      | zero => intro v12555 M12556 rv12555 IM12556 CM12556 FM12556 hk5 hm18845; exfalso; omega
      | succ N18843 ih18844 =>
        intro v12555 M12556 rv12555 IM12556 CM12556 FM12556 hk5 hm18845
        refine g_iload_n (n := 19) X 2 dX12_looks_18 rfl rfl rfl ?_
        refine g_bipush (n := 21) X dX12_looks_19 (by decide +kernel) rfl ?_
        refine g_icmp_ge (n := 24) (tgt := 37) X dX12_looks_21 (by decide) (by omega) (by omega) rfl (fun c18846 => ?_) (fun c18846 => ?_)
        · refine g_iconst (n := 38) X dX12_looks_37 rfl ?_
          refine g_istore_n (n := 39) (L' := [(3, gJ 0), (0, gA n0 190), (2, gJ v1)]) X dX12_looks_38 rfl (by decide) rfl rfl ?_
          have j18849 : ∀ (N24581 : Nat) (v18847 : Int) (M18848 : gM) , (0 ≤ v18847 ∧ v18847 ≤ 80) → gI sz M18848 → gC sz M18848 → gFr 2475880078570760549798248448 M12556 M18848 → (v18847 ≤ v1 ∧ ∀ r : Int, 0 ≤ r → r < 40 → pKn M r v18847 (M18848 195 r)) → (80 - v18847).toNat < N24581 → G p l e R_X12_looks s m args below meth cd n0 D cA 5 Q 0 0 M18848 sz 39 [(0, gA n0 190), (2, gJ v1), (3, gJ v18847)] [] := by
            intro N24581; induction N24581 with
            | zero => intro v18847 M18848 rv18847 IM18848 CM18848 FM18848 hk6 hm24583; exfalso; omega
            | succ N24581 ih24582 =>
              intro v18847 M18848 rv18847 IM18848 CM18848 FM18848 hk6 hm24583
              refine g_iload_n (n := 40) X 2 dX12_looks_39 rfl rfl rfl ?_
              refine g_iload_n (n := 41) X 1 dX12_looks_40 rfl rfl rfl ?_
              refine g_icmp_ge (n := 44) (tgt := 106) X dX12_looks_41 (by decide) (by omega) (by omega) rfl (fun c24584 => ?_) (fun c24584 => ?_)
              · refine g_aload_n (n := 107) X 0 dX12_looks_106 rfl rfl rfl ?_
                refine g_iconst (n := 108) X dX12_looks_107 rfl ?_
                refine gp_12_8 (n := 111) X (by decide) (gsz hsz (by decide)) lay_190 kw_6_34 dX12_looks_108 rfl ?_
                refine G.nm (fun M24585 e24586 => ?_)
                have IM24585 : gI sz M24585 := gI.set IM18848 rc_190_8.1 (by omega) e24586
                have CM24585 : gC sz M24585 := gC.set CM18848 rc_190_8.2.1 e24586
                refine g_iconst (n := 112) X dX12_looks_111 rfl ?_
                refine g_istore_n (n := 113) (L' := [(3, gJ 0), (0, gA n0 190), (2, gJ v1)]) X dX12_looks_112 rfl (by decide) rfl rfl ?_
                have j24589 : ∀ (N25040 : Nat) (v24587 : Int) (M24588 : gM) , (0 ≤ v24587 ∧ v24587 ≤ 40) → gI sz M24588 → gC sz M24588 → gFr 110680464442257309696 M24585 M24588 → (M24588 190 8 = v24587) → (40 - v24587).toNat < N25040 → G p l e R_X12_looks s m args below meth cd n0 D cA 5 Q 0 0 M24588 sz 113 [(0, gA n0 190), (3, gJ v24587)] [] := by
                  intro N25040; induction N25040 with
                  | zero => intro v24587 M24588 rv24587 IM24588 CM24588 FM24588 hl hm25042; exfalso; omega
                  | succ N25040 ih25041 =>
                    intro v24587 M24588 rv24587 IM24588 CM24588 FM24588 hl hm25042
                    refine g_iload_n (n := 114) X 1 dX12_looks_113 rfl rfl rfl ?_
                    refine g_aload_n (n := 115) X 0 dX12_looks_114 rfl rfl rfl ?_
                    refine gg_12_1 (n := 118) (z := 191) X (by decide) (gsz hsz (by decide)) lay_190 kw_6_27 dX12_looks_115 rfl (rf_190_1 IM24588 (gsz hsz (by decide))) (by decide) ?_
                    refine g_iconst (n := 119) X dX12_looks_118 rfl ?_
                    obtain ⟨v25043, hv25043, rv25043⟩ := gRd IM24588 (by decide) (gsz hsz (by decide)) (rs_NR (k := 2) (by omega)).1
                    refine g_iald2 (n := 120) (v := v25043) X (by decide) (gsz hsz (by decide)) lay_191 (by omega) (by omega) (by decide) dX12_looks_119 rfl hv25043 ?_
                    refine g_icmp_ge (n := 123) (tgt := 211) X dX12_looks_120 (by decide) (by omega) (by omega) rfl (fun c25044 => ?_) (fun c25044 => ?_)
                    · exact hq _ _ _ dX12_looks_211 ⟨IM24588, CM24588, (gFr.c (gFr.s (gFr.c (gFr.c gFr.rf FM12556 rfl) FM18848 rfl) e24586 rc_190_8.2.2 rfl) FM24588 rfl), fun ha r h0 h1 => by rw [gFr.at ((gFr.c (gFr.s gFr.rf e24586 rc_190_8.2.2 rfl) FM24588 rfl) : gFr 110680464442257309696 M18848 M24588) (ra_195 r).2.2 rfl]; have q := hv1; rw [show M 191 3 = v18847 by omega]; exact hk6.2 r h0 h1⟩
                    · refine g_aload_n (n := 124) X 0 dX12_looks_123 rfl rfl rfl ?_
                      obtain ⟨v25045, hv25045, rv25045⟩ := gRd IM24588 (by decide) (gsz hsz (by decide)) rc_190_8.1
                      refine gg_12_8 (n := 127) (z := v25045) X (by decide) (gsz hsz (by decide)) lay_190 kw_6_34 dX12_looks_124 rfl hv25045 ?_
                      refine g_istore (n := 129) (L' := [(4, gJ v25045), (0, gA n0 190), (3, gJ v24587)]) X dX12_looks_127 (by decide) rfl rfl ?_
                      have j25048 : ∀ (N25079 : Nat) (v25046 : Int) (M25047 : gM) , (0 ≤ v25046 ∧ v25046 ≤ 39) → gI sz M25047 → gC sz M25047 → gFr 36893488147419103232 M24588 M25047 → (v25046 - 0).toNat < N25079 → G p l e R_X12_looks s m args below meth cd n0 D cA 5 Q 0 0 M25047 sz 129 [(0, gA n0 190), (3, gJ v24587), (4, gJ v25046)] [] := by
                        intro N25079; induction N25079 with
                        | zero => intro v25046 M25047 rv25046 IM25047 CM25047 FM25047 hm25081; exfalso; omega
                        | succ N25079 ih25080 =>
                          intro v25046 M25047 rv25046 IM25047 CM25047 FM25047 hm25081
                          refine g_iload (n := 131) X 2 dX12_looks_129 rfl rfl ?_
                          refine g_if_le (n := 134) (tgt := 187) X dX12_looks_131 (by decide) (by omega) rfl (fun c25082 => ?_) (fun c25082 => ?_)
                          · refine g_aload_n (n := 188) X 0 dX12_looks_187 rfl rfl rfl ?_
                            refine gg_12_7 (n := 191) (z := 196) X (by decide) (gsz hsz (by decide)) lay_190 kw_6_33 dX12_looks_188 rfl (rf_190_7 IM25047 (gsz hsz (by decide))) (by decide) ?_
                            refine g_iload (n := 193) X 2 dX12_looks_191 rfl rfl ?_
                            refine g_iload_n (n := 194) X 1 dX12_looks_193 rfl rfl rfl ?_
                            refine g_iast (n := 195) X (by decide) (gsz hsz (by decide)) lay_196 (by omega) (by omega) (by decide) dX12_looks_194 rfl ?_
                            refine G.nm (fun M25083 e25084 => ?_)
                            have IM25083 : gI sz M25083 := gI.set IM25047 (ra_196 v25046).1 (by omega) e25084
                            have CM25083 : gC sz M25083 := gC.set CM25047 (ra_196 v25046).2.1 e25084
                            refine g_aload_n (n := 196) X 0 dX12_looks_195 rfl rfl rfl ?_
                            refine g_dup (n := 197) X dX12_looks_196 rfl rfl ?_
                            refine gg_12_8 (n := 200) (z := v25045) X (by decide) (gsz hsz (by decide)) lay_190 kw_6_34 dX12_looks_197 rfl ((congrFun (congrFun e25084 _) _).trans ((gset_ne (by omega)).trans ((gFr.at FM25047 rc_190_8.2.2 rfl).trans hv25045))) ?_
                            refine g_iconst (n := 201) X dX12_looks_200 rfl ?_
                            refine g_iadd (n := 202) (z := v25045 + 1) X dX12_looks_201 (by omega) rfl ?_
                            refine gp_12_8 (n := 205) X (by decide) (gsz hsz (by decide)) lay_190 kw_6_34 dX12_looks_202 rfl ?_
                            refine G.nm (fun M25085 e25086 => ?_)
                            have IM25085 : gI sz M25085 := gI.set IM25083 rc_190_8.1 (by omega) e25086
                            have CM25085 : gC sz M25085 := gC.set CM25083 rc_190_8.2.1 e25086
                            refine g_iinc (n := 208) (w := v24587 + 1) (L' := [(3, gJ (v24587 + 1)), (0, gA n0 190), (4, gJ v25046)]) X 1 dX12_looks_205 rfl rfl (by decide) rfl rfl ?_
                            refine g_goto (tgt := 113) X dX12_looks_208 (by decide) ?_
                            refine G.sub (L' := [(0, gA n0 190), (3, gJ (v24587 + 1))]) [1, 0] rfl ?_
                            exact ih25041 (v24587 + 1) M25085 (by omega) IM25085 CM25085 (gFr.s (gFr.s (gFr.c (gFr.c gFr.rf FM24588 rfl) FM25047 rfl) e25084 (ra_196 v25046).2.2 rfl) e25086 rc_190_8.2.2 rfl) (by have h1 := ((congrFun (congrFun e25086 _) _).trans (gset_eq _ _ _ _)); omega) (by omega)
                          · refine g_aload_n (n := 135) X 0 dX12_looks_134 rfl rfl rfl ?_
                            refine gg_12_1 (n := 138) (z := 191) X (by decide) (gsz hsz (by decide)) lay_190 kw_6_27 dX12_looks_135 rfl (rf_190_1 IM25047 (gsz hsz (by decide))) (by decide) ?_
                            refine g_sipush (n := 141) X dX12_looks_138 (by decide +kernel) rfl ?_
                            refine g_aload_n (n := 142) X 0 dX12_looks_141 rfl rfl rfl ?_
                            refine gg_12_7 (n := 145) (z := 196) X (by decide) (gsz hsz (by decide)) lay_190 kw_6_33 dX12_looks_142 rfl (rf_190_7 IM25047 (gsz hsz (by decide))) (by decide) ?_
                            refine g_iload (n := 147) X 2 dX12_looks_145 rfl rfl ?_
                            refine g_iconst (n := 148) X dX12_looks_147 rfl ?_
                            refine g_isub (n := 149) (z := v25046 - 1) X dX12_looks_148 (by omega) rfl ?_
                            obtain ⟨v25087, hv25087, rv25087⟩ := gRd IM25047 (by decide) (gsz hsz (by decide)) (ra_196 (v25046 - 1)).1
                            refine g_iald2 (n := 150) (v := v25087) X (by decide) (gsz hsz (by decide)) lay_196 (by omega) (by omega) (by decide) dX12_looks_149 rfl hv25087 ?_
                            refine g_iadd (n := 151) (z := v25087 + 416) X dX12_looks_150 (by omega) rfl ?_
                            obtain ⟨v25088, hv25088, rv25088⟩ := gRd IM25047 (by decide) (gsz hsz (by decide)) (rs_RWEEK (k := v25087 + 416) (by omega)).1
                            refine g_iald2 (n := 152) (v := v25088) X (by decide) (gsz hsz (by decide)) lay_191 (by omega) (by omega) (by decide) dX12_looks_151 rfl hv25088 ?_
                            refine g_aload_n (n := 153) X 0 dX12_looks_152 rfl rfl rfl ?_
                            refine gg_12_1 (n := 156) (z := 191) X (by decide) (gsz hsz (by decide)) lay_190 kw_6_27 dX12_looks_153 rfl (rf_190_1 IM25047 (gsz hsz (by decide))) (by decide) ?_
                            refine g_sipush (n := 159) X dX12_looks_156 (by decide +kernel) rfl ?_
                            refine g_iload_n (n := 160) X 1 dX12_looks_159 rfl rfl rfl ?_
                            refine g_iadd (n := 161) (z := v24587 + 416) X dX12_looks_160 (by omega) rfl ?_
                            obtain ⟨v25089, hv25089, rv25089⟩ := gRd IM25047 (by decide) (gsz hsz (by decide)) (rs_RWEEK (k := v24587 + 416) (by omega)).1
                            refine g_iald2 (n := 162) (v := v25089) X (by decide) (gsz hsz (by decide)) lay_191 (by omega) (by omega) (by decide) dX12_looks_161 rfl hv25089 ?_
                            refine g_icmp_le (n := 165) (tgt := 187) X dX12_looks_162 (by decide) (by omega) (by omega) rfl (fun c25090 => ?_) (fun c25090 => ?_)
                            · refine g_aload_n (n := 188) X 0 dX12_looks_187 rfl rfl rfl ?_
                              refine gg_12_7 (n := 191) (z := 196) X (by decide) (gsz hsz (by decide)) lay_190 kw_6_33 dX12_looks_188 rfl (rf_190_7 IM25047 (gsz hsz (by decide))) (by decide) ?_
                              refine g_iload (n := 193) X 2 dX12_looks_191 rfl rfl ?_
                              refine g_iload_n (n := 194) X 1 dX12_looks_193 rfl rfl rfl ?_
                              refine g_iast (n := 195) X (by decide) (gsz hsz (by decide)) lay_196 (by omega) (by omega) (by decide) dX12_looks_194 rfl ?_
                              refine G.nm (fun M25091 e25092 => ?_)
                              have IM25091 : gI sz M25091 := gI.set IM25047 (ra_196 v25046).1 (by omega) e25092
                              have CM25091 : gC sz M25091 := gC.set CM25047 (ra_196 v25046).2.1 e25092
                              refine g_aload_n (n := 196) X 0 dX12_looks_195 rfl rfl rfl ?_
                              refine g_dup (n := 197) X dX12_looks_196 rfl rfl ?_
                              refine gg_12_8 (n := 200) (z := v25045) X (by decide) (gsz hsz (by decide)) lay_190 kw_6_34 dX12_looks_197 rfl ((congrFun (congrFun e25092 _) _).trans ((gset_ne (by omega)).trans ((gFr.at FM25047 rc_190_8.2.2 rfl).trans hv25045))) ?_
                              refine g_iconst (n := 201) X dX12_looks_200 rfl ?_
                              refine g_iadd (n := 202) (z := v25045 + 1) X dX12_looks_201 (by omega) rfl ?_
                              refine gp_12_8 (n := 205) X (by decide) (gsz hsz (by decide)) lay_190 kw_6_34 dX12_looks_202 rfl ?_
                              refine G.nm (fun M25093 e25094 => ?_)
                              have IM25093 : gI sz M25093 := gI.set IM25091 rc_190_8.1 (by omega) e25094
                              have CM25093 : gC sz M25093 := gC.set CM25091 rc_190_8.2.1 e25094
                              refine g_iinc (n := 208) (w := v24587 + 1) (L' := [(3, gJ (v24587 + 1)), (0, gA n0 190), (4, gJ v25046)]) X 1 dX12_looks_205 rfl rfl (by decide) rfl rfl ?_
                              refine g_goto (tgt := 113) X dX12_looks_208 (by decide) ?_
                              refine G.sub (L' := [(0, gA n0 190), (3, gJ (v24587 + 1))]) [1, 0] rfl ?_
                              exact ih25041 (v24587 + 1) M25093 (by omega) IM25093 CM25093 (gFr.s (gFr.s (gFr.c (gFr.c gFr.rf FM24588 rfl) FM25047 rfl) e25092 (ra_196 v25046).2.2 rfl) e25094 rc_190_8.2.2 rfl) (by have h1 := ((congrFun (congrFun e25094 _) _).trans (gset_eq _ _ _ _)); omega) (by omega)
                            · refine g_aload_n (n := 166) X 0 dX12_looks_165 rfl rfl rfl ?_
                              refine gg_12_7 (n := 169) (z := 196) X (by decide) (gsz hsz (by decide)) lay_190 kw_6_33 dX12_looks_166 rfl (rf_190_7 IM25047 (gsz hsz (by decide))) (by decide) ?_
                              refine g_iload (n := 171) X 2 dX12_looks_169 rfl rfl ?_
                              refine g_aload_n (n := 172) X 0 dX12_looks_171 rfl rfl rfl ?_
                              refine gg_12_7 (n := 175) (z := 196) X (by decide) (gsz hsz (by decide)) lay_190 kw_6_33 dX12_looks_172 rfl (rf_190_7 IM25047 (gsz hsz (by decide))) (by decide) ?_
                              refine g_iload (n := 177) X 2 dX12_looks_175 rfl rfl ?_
                              refine g_iconst (n := 178) X dX12_looks_177 rfl ?_
                              refine g_isub (n := 179) (z := v25046 - 1) X dX12_looks_178 (by omega) rfl ?_
                              refine g_iald2 (n := 180) (v := v25087) X (by decide) (gsz hsz (by decide)) lay_196 (by omega) (by omega) (by decide) dX12_looks_179 rfl hv25087 ?_
                              refine g_iast (n := 181) X (by decide) (gsz hsz (by decide)) lay_196 (by omega) (by omega) (by decide) dX12_looks_180 rfl ?_
                              refine G.nm (fun M25095 e25096 => ?_)
                              have IM25095 : gI sz M25095 := gI.set IM25047 (ra_196 v25046).1 (by omega) e25096
                              have CM25095 : gC sz M25095 := gC.set CM25047 (ra_196 v25046).2.1 e25096
                              refine g_iinc (n := 184) (w := v25046 - 1) (L' := [(4, gJ (v25046 - 1)), (0, gA n0 190), (3, gJ v24587)]) X 2 dX12_looks_181 rfl rfl (by decide) rfl rfl ?_
                              refine g_goto (tgt := 129) X dX12_looks_184 (by decide) ?_
                              refine G.sub (L' := [(0, gA n0 190), (3, gJ v24587), (4, gJ (v25046 - 1))]) [1, 2, 0] rfl ?_
                              exact ih25080 (v25046 - 1) M25095 (by omega) IM25095 CM25095 (gFr.s (gFr.c gFr.rf FM25047 rfl) e25096 (ra_196 v25046).2.2 rfl) (by omega)
                      refine G.sub (L' := [(0, gA n0 190), (3, gJ v24587), (4, gJ v25045)]) [1, 2, 0] rfl ?_
                      exact j25048 _ v25045 M24588 (by omega) IM24588 CM24588 gFr.rf (Nat.lt_succ_self _)
                refine G.sub (L' := [(0, gA n0 190), (3, gJ 0)]) [1, 0] rfl ?_
                exact j24589 _ 0 M24585 (by omega) IM24585 CM24585 gFr.rf (by have h1 := ((congrFun (congrFun e24586 _) _).trans (gset_eq _ _ _ _)); omega) (Nat.lt_succ_self _)
              · refine g_aload_n (n := 45) X 0 dX12_looks_44 rfl rfl rfl ?_
                refine gg_12_1 (n := 48) (z := 191) X (by decide) (gsz hsz (by decide)) lay_190 kw_6_27 dX12_looks_45 rfl (rf_190_1 IM18848 (gsz hsz (by decide))) (by decide) ?_
                refine g_sipush (n := 51) X dX12_looks_48 (by decide +kernel) rfl ?_
                refine g_iload_n (n := 52) X 2 dX12_looks_51 rfl rfl rfl ?_
                refine g_iadd (n := 53) (z := v18847 + 576) X dX12_looks_52 (by omega) rfl ?_
                obtain ⟨v25097, hv25097, rv25097⟩ := gRd IM18848 (by decide) (gsz hsz (by decide)) (rs_ERIGHT (k := v18847 + 576) (by omega)).1
                refine g_iald2 (n := 54) (v := v25097) X (by decide) (gsz hsz (by decide)) lay_191 (by omega) (by omega) (by decide) dX12_looks_53 rfl hv25097 ?_
                refine g_istore (n := 56) (L' := [(4, gJ v25097), (0, gA n0 190), (2, gJ v1), (3, gJ v18847)]) X dX12_looks_54 (by decide) rfl rfl ?_
                refine g_aload_n (n := 57) X 1 dX12_looks_56 rfl rfl rfl ?_
                refine gg_12_6 (n := 60) (z := 195) X (by decide) (gsz hsz (by decide)) lay_190 kw_6_32 dX12_looks_57 rfl (rf_190_6 IM18848 (gsz hsz (by decide))) (by decide) ?_
                refine g_iload (n := 62) X 0 dX12_looks_60 rfl rfl ?_
                refine g_aload_n (n := 63) X 1 dX12_looks_62 rfl rfl rfl ?_
                refine gg_12_1 (n := 66) (z := 191) X (by decide) (gsz hsz (by decide)) lay_190 kw_6_27 dX12_looks_63 rfl (rf_190_1 IM18848 (gsz hsz (by decide))) (by decide) ?_
                refine g_sipush (n := 69) X dX12_looks_66 (by decide +kernel) rfl ?_
                refine g_iload_n (n := 70) X 3 dX12_looks_69 rfl rfl rfl ?_
                refine g_iadd (n := 71) (z := v18847 + 496) X dX12_looks_70 (by omega) rfl ?_
                obtain ⟨v25098, hv25098, rv25098⟩ := gRd IM18848 (by decide) (gsz hsz (by decide)) (rs_EKIND (k := v18847 + 496) (by omega)).1
                refine g_iald2 (n := 72) (v := v25098) X (by decide) (gsz hsz (by decide)) lay_191 (by omega) (by omega) (by decide) dX12_looks_71 rfl hv25098 ?_
                refine g_if_ne (n := 75) (tgt := 89) X dX12_looks_72 (by decide) (by omega) rfl (fun c25099 => ?_) (fun c25099 => ?_)
                · refine g_aload_n (n := 90) X 1 dX12_looks_89 rfl rfl rfl ?_
                  refine gg_12_1 (n := 93) (z := 191) X (by decide) (gsz hsz (by decide)) lay_190 kw_6_27 dX12_looks_90 rfl (rf_190_1 IM18848 (gsz hsz (by decide))) (by decide) ?_
                  refine g_sipush (n := 96) X dX12_looks_93 (by decide +kernel) rfl ?_
                  refine g_iload_n (n := 97) X 3 dX12_looks_96 rfl rfl rfl ?_
                  refine g_iadd (n := 98) (z := v18847 + 496) X dX12_looks_97 (by omega) rfl ?_
                  refine g_iald2 (n := 99) (v := v25098) X (by decide) (gsz hsz (by decide)) lay_191 (by omega) (by omega) (by decide) dX12_looks_98 rfl hv25098 ?_
                  refine g_iast (n := 100) X (by decide) (gsz hsz (by decide)) lay_195 (by omega) (by omega) (by decide) dX12_looks_99 rfl ?_
                  refine G.nm (fun M25100 e25101 => ?_)
                  have IM25100 : gI sz M25100 := gI.set IM18848 (ra_195 v25097).1 (by omega) e25101
                  have CM25100 : gC sz M25100 := gC.set CM18848 (ra_195 v25097).2.1 e25101
                  refine g_iinc (n := 103) (w := v18847 + 1) (L' := [(3, gJ (v18847 + 1)), (4, gJ v25097), (0, gA n0 190), (2, gJ v1)]) X 3 dX12_looks_100 rfl rfl (by decide) rfl rfl ?_
                  refine g_goto (tgt := 39) X dX12_looks_103 (by decide) ?_
                  refine G.sub (L' := [(0, gA n0 190), (2, gJ v1), (3, gJ (v18847 + 1))]) [2, 3, 0] rfl ?_
                  exact ih24582 (v18847 + 1) M25100 (by omega) IM25100 CM25100 (gFr.s (gFr.c gFr.rf FM18848 rfl) e25101 (ra_195 v25097).2.2 rfl) ⟨by omega, fun r h0 h1 => if g : r = v25097 then (by rw [show M25100 195 r = v25098 from by rw [e25101, g, gset_eq], g]; have q2 := ((((fun b h0 h1 => ((gFr.s191 FM18848 rfl b).trans ((gFr.s191 FM12556 rfl b).trans rfl))) : ∀ b : Int, 0 ≤ b → b < 25301 → M18848 191 b = M 191 b) (v18847 + 496) (by omega) (by omega)).symm.trans hv25098); exact pKn.t (by omega) ((((fun b h0 h1 => ((gFr.s191 FM18848 rfl b).trans ((gFr.s191 FM12556 rfl b).trans rfl))) : ∀ b : Int, 0 ≤ b → b < 25301 → M18848 191 b = M 191 b) (v18847 + 576) (by omega) (by omega)).symm.trans hv25097) (by omega)) else (pKn.o (hk6.2 r h0 h1) (fun q => g (q.symm.trans ((((fun b h0 h1 => ((gFr.s191 FM18848 rfl b).trans ((gFr.s191 FM12556 rfl b).trans rfl))) : ∀ b : Int, 0 ≤ b → b < 25301 → M18848 191 b = M 191 b) (v18847 + 576) (by omega) (by omega)).symm.trans hv25097))) (by rw [e25101, gset_ne (by omega)]))⟩ (by omega)
                · refine g_aload_n (n := 76) X 1 dX12_looks_75 rfl rfl rfl ?_
                  refine gg_12_1 (n := 79) (z := 191) X (by decide) (gsz hsz (by decide)) lay_190 kw_6_27 dX12_looks_76 rfl (rf_190_1 IM18848 (gsz hsz (by decide))) (by decide) ?_
                  refine g_sipush (n := 82) X dX12_looks_79 (by decide +kernel) rfl ?_
                  refine g_iload (n := 84) X 0 dX12_looks_82 rfl rfl ?_
                  refine g_iadd (n := 85) (z := v25097 + 456) X dX12_looks_84 (by omega) rfl ?_
                  obtain ⟨v25102, hv25102, rv25102⟩ := gRd IM18848 (by decide) (gsz hsz (by decide)) (rs_RSURE (k := v25097 + 456) (by omega)).1
                  refine g_iald2 (n := 86) (v := v25102) X (by decide) (gsz hsz (by decide)) lay_191 (by omega) (by omega) (by decide) dX12_looks_85 rfl hv25102 ?_
                  refine g_goto (tgt := 99) X dX12_looks_86 (by decide) ?_
                  refine g_iast (n := 100) X (by decide) (gsz hsz (by decide)) lay_195 (by omega) (by omega) (by decide) dX12_looks_99 rfl ?_
                  refine G.nm (fun M25103 e25104 => ?_)
                  have IM25103 : gI sz M25103 := gI.set IM18848 (ra_195 v25097).1 (by omega) e25104
                  have CM25103 : gC sz M25103 := gC.set CM18848 (ra_195 v25097).2.1 e25104
                  refine g_iinc (n := 103) (w := v18847 + 1) (L' := [(3, gJ (v18847 + 1)), (4, gJ v25097), (0, gA n0 190), (2, gJ v1)]) X 3 dX12_looks_100 rfl rfl (by decide) rfl rfl ?_
                  refine g_goto (tgt := 39) X dX12_looks_103 (by decide) ?_
                  refine G.sub (L' := [(0, gA n0 190), (2, gJ v1), (3, gJ (v18847 + 1))]) [2, 3, 0] rfl ?_
                  exact ih24582 (v18847 + 1) M25103 (by omega) IM25103 CM25103 (gFr.s (gFr.c gFr.rf FM18848 rfl) e25104 (ra_195 v25097).2.2 rfl) ⟨by omega, fun r h0 h1 => if g : r = v25097 then (by rw [show M25103 195 r = v25102 from by rw [e25104, g, gset_eq], g]; have q2 := ((((fun b h0 h1 => ((gFr.s191 FM18848 rfl b).trans ((gFr.s191 FM12556 rfl b).trans rfl))) : ∀ b : Int, 0 ≤ b → b < 25301 → M18848 191 b = M 191 b) (v18847 + 496) (by omega) (by omega)).symm.trans hv25098); have q3 := (((fun b h0 h1 => ((gFr.s191 FM18848 rfl b).trans ((gFr.s191 FM12556 rfl b).trans rfl))) : ∀ b : Int, 0 ≤ b → b < 25301 → M18848 191 b = M 191 b) (v25097 + 456) (by omega) (by omega)).symm.trans hv25102; exact pKn.t (by omega) ((((fun b h0 h1 => ((gFr.s191 FM18848 rfl b).trans ((gFr.s191 FM12556 rfl b).trans rfl))) : ∀ b : Int, 0 ≤ b → b < 25301 → M18848 191 b = M 191 b) (v18847 + 576) (by omega) (by omega)).symm.trans hv25097) (by omega)) else (pKn.o (hk6.2 r h0 h1) (fun q => g (q.symm.trans ((((fun b h0 h1 => ((gFr.s191 FM18848 rfl b).trans ((gFr.s191 FM12556 rfl b).trans rfl))) : ∀ b : Int, 0 ≤ b → b < 25301 → M18848 191 b = M 191 b) (v18847 + 576) (by omega) (by omega)).symm.trans hv25097))) (by rw [e25104, gset_ne (by omega)]))⟩ (by omega)
          refine G.sub (L' := [(0, gA n0 190), (2, gJ v1), (3, gJ 0)]) [1, 2, 0] rfl ?_
          exact j18849 _ 0 M12556 (by omega) IM12556 CM12556 gFr.rf ⟨by omega, fun r h0 h1 => pKn.z (hk5 r h0 (by omega))⟩ (Nat.lt_succ_self _)
        · refine g_aload_n (n := 25) X 0 dX12_looks_24 rfl rfl rfl ?_
          refine gg_12_6 (n := 28) (z := 195) X (by decide) (gsz hsz (by decide)) lay_190 kw_6_32 dX12_looks_25 rfl (rf_190_6 IM12556 (gsz hsz (by decide))) (by decide) ?_
          refine g_iload_n (n := 29) X 2 dX12_looks_28 rfl rfl rfl ?_
          refine g_iconst (n := 30) X dX12_looks_29 rfl ?_
          refine g_iast (n := 31) X (by decide) (gsz hsz (by decide)) lay_195 (by omega) (by omega) (by decide) dX12_looks_30 rfl ?_
          refine G.nm (fun M25105 e25106 => ?_)
          have IM25105 : gI sz M25105 := gI.set IM12556 (ra_195 v12555).1 (by omega) e25106
          have CM25105 : gC sz M25105 := gC.set CM12556 (ra_195 v12555).2.1 e25106
          refine g_iinc (n := 34) (w := v12555 + 1) (L' := [(3, gJ (v12555 + 1)), (0, gA n0 190), (2, gJ v1)]) X 2 dX12_looks_31 rfl rfl (by decide) rfl rfl ?_
          refine g_goto (tgt := 18) X dX12_looks_34 (by decide) ?_
          refine G.sub (L' := [(0, gA n0 190), (2, gJ v1), (3, gJ (v12555 + 1))]) [1, 2, 0] rfl ?_
          exact ih18844 (v12555 + 1) M25105 (by omega) IM25105 CM25105 (gFr.s (gFr.c gFr.rf FM12556 rfl) e25106 (ra_195 v12555).2.2 rfl) (fun r h0 h1 => if g : r = v12555 then (by rw [e25106, g, gset_eq]) else (by rw [e25106, gset_ne (by omega)]; exact hk5 r h0 (by omega))) (by omega)
    refine G.sub (L' := [(0, gA n0 190), (2, gJ v1), (3, gJ 0)]) [2, 1, 0] rfl ?_
    exact j12557 _ 0 M (by omega) I C gFr.rf (fun r h0 h1 => by exfalso; omega) (Nat.lt_succ_self _)
theorem dX12_right_0 : decode cX12_right 0 = .ok (.iload_n 1, 1) := dc_27 (by decide +kernel)
theorem dX12_right_1 : decode cX12_right 1 = .ok (.iconst 0, 1) := dc_3 (by decide +kernel)
theorem dX12_right_2 : decode cX12_right 2 = .ok (.aload_n 0, 1) := dc_42 (by decide +kernel)
theorem dX12_right_3 : decode cX12_right 3 = .ok (.getfield 7, 3) := dc_180 0 7 (by decide +kernel)
theorem dX12_right_6 : decode cX12_right 6 = .ok (.iconst 2, 1) := dc_5 (by decide +kernel)
theorem dX12_right_7 : decode cX12_right 7 = .ok (.iaload, 1) := dc_46 (by decide +kernel)
theorem dX12_right_8 : decode cX12_right 8 = .ok (.iconst 1, 1) := dc_4 (by decide +kernel)
theorem dX12_right_9 : decode cX12_right 9 = .ok (.isub, 1) := dc_100 (by decide +kernel)
theorem dX12_right_10 : decode cX12_right 10 = .ok (.invokestatic 64, 3) := dc_184 0 64 (by decide +kernel)
theorem dX12_right_13 : decode cX12_right 13 = .ok (.ifCond .ne 5, 3) := dc_154 0 5 5 (by decide +kernel)
theorem dX12_right_18 : decode cX12_right 18 = .ok (.aload_n 0, 1) := dc_42 (by decide +kernel)
theorem dX12_right_19 : decode cX12_right 19 = .ok (.iconst (-1), 1) := dc_2 (by decide +kernel)
theorem dX12_right_20 : decode cX12_right 20 = .ok (.invokevirtual 93, 3) := dc_182 0 93 (by decide +kernel)
theorem kw_6_165 : (Jvm.Cond.methodLink "ParishUnionModel" (93 : Nat) ({ cls := "ParishUnionModel", name := "looks", desc := "(I)V" } : Jvm.MethodName)) ∈ gT := gT_of (tb_6 _ (List.mem_of_getElem? (i := 165) rfl)) rfl
theorem kw_6_168 : (Jvm.Cond.code ({ cls := "ParishUnionModel", name := "looks", desc := "(I)V" } : Jvm.MethodName) prog_14_method_21_code (5 : Nat) (Option.none : Option Jvm.ClassFile.FieldType)) ∈ gT := gT_of (tb_6 _ (List.mem_of_getElem? (i := 168) rfl)) rfl
theorem okX12_looks : gQok yX12_looks cX12_looks 5 (Option.none : Option Jvm.ClassFile.FieldType) 1 := ⟨kw_6_168, kw_1_13, by decide +kernel, by decide +kernel, by decide +kernel⟩
theorem kw_6_167 : (Jvm.Cond.instanceMethod ({ cls := "ParishUnionModel", name := "looks", desc := "(I)V" } : Jvm.MethodName)) ∈ gT := gT_of (tb_6 _ (List.mem_of_getElem? (i := 167) rfl)) rfl
theorem kw_0_44 : (Jvm.Cond.selects "ParishUnionModel" ({ cls := "ParishUnionModel", name := "looks", desc := "(I)V" } : Jvm.MethodName) ({ cls := "ParishUnionModel", name := "looks", desc := "(I)V" } : Jvm.MethodName)) ∈ gT := gT_of (tb_0 _ (List.mem_of_getElem? (i := 44) rfl)) rfl
theorem dX12_right_23 : decode cX12_right 23 = .ok (.iload_n 2, 1) := dc_28 (by decide +kernel)
theorem dX12_right_24 : decode cX12_right 24 = .ok (.tableswitch 102 0 5 #[40, 51, 62, 73, 84, 95], 40) := by decide +kernel
theorem dX12_right_64 : decode cX12_right 64 = .ok (.aload_n 0, 1) := dc_42 (by decide +kernel)
theorem dX12_right_65 : decode cX12_right 65 = .ok (.getfield 7, 3) := dc_180 0 7 (by decide +kernel)
theorem dX12_right_68 : decode cX12_right 68 = .ok (.sipush 256, 3) := dc_17 1 0 256 (by decide +kernel)
theorem dX12_right_71 : decode cX12_right 71 = .ok (.iload_n 1, 1) := dc_27 (by decide +kernel)
theorem dX12_right_72 : decode cX12_right 72 = .ok (.iadd, 1) := dc_96 (by decide +kernel)
theorem dX12_right_73 : decode cX12_right 73 = .ok (.iaload, 1) := dc_46 (by decide +kernel)
theorem dX12_right_74 : decode cX12_right 74 = .ok (.ireturn, 1) := dc_172 (by decide +kernel)
theorem dX12_right_75 : decode cX12_right 75 = .ok (.aload_n 0, 1) := dc_42 (by decide +kernel)
theorem dX12_right_76 : decode cX12_right 76 = .ok (.getfield 7, 3) := dc_180 0 7 (by decide +kernel)
theorem dX12_right_79 : decode cX12_right 79 = .ok (.sipush 296, 3) := dc_17 1 40 296 (by decide +kernel)
theorem dX12_right_82 : decode cX12_right 82 = .ok (.iload_n 1, 1) := dc_27 (by decide +kernel)
theorem dX12_right_83 : decode cX12_right 83 = .ok (.iadd, 1) := dc_96 (by decide +kernel)
theorem dX12_right_84 : decode cX12_right 84 = .ok (.iaload, 1) := dc_46 (by decide +kernel)
theorem dX12_right_85 : decode cX12_right 85 = .ok (.ireturn, 1) := dc_172 (by decide +kernel)
theorem dX12_right_86 : decode cX12_right 86 = .ok (.aload_n 0, 1) := dc_42 (by decide +kernel)
theorem dX12_right_87 : decode cX12_right 87 = .ok (.getfield 7, 3) := dc_180 0 7 (by decide +kernel)
theorem dX12_right_90 : decode cX12_right 90 = .ok (.sipush 336, 3) := dc_17 1 80 336 (by decide +kernel)
theorem dX12_right_93 : decode cX12_right 93 = .ok (.iload_n 1, 1) := dc_27 (by decide +kernel)
theorem dX12_right_94 : decode cX12_right 94 = .ok (.iadd, 1) := dc_96 (by decide +kernel)
theorem dX12_right_95 : decode cX12_right 95 = .ok (.iaload, 1) := dc_46 (by decide +kernel)
theorem dX12_right_96 : decode cX12_right 96 = .ok (.ireturn, 1) := dc_172 (by decide +kernel)
theorem dX12_right_97 : decode cX12_right 97 = .ok (.aload_n 0, 1) := dc_42 (by decide +kernel)
theorem dX12_right_98 : decode cX12_right 98 = .ok (.getfield 7, 3) := dc_180 0 7 (by decide +kernel)
theorem dX12_right_101 : decode cX12_right 101 = .ok (.sipush 376, 3) := dc_17 1 120 376 (by decide +kernel)
theorem dX12_right_104 : decode cX12_right 104 = .ok (.iload_n 1, 1) := dc_27 (by decide +kernel)
theorem dX12_right_105 : decode cX12_right 105 = .ok (.iadd, 1) := dc_96 (by decide +kernel)
theorem dX12_right_106 : decode cX12_right 106 = .ok (.iaload, 1) := dc_46 (by decide +kernel)
theorem dX12_right_107 : decode cX12_right 107 = .ok (.ireturn, 1) := dc_172 (by decide +kernel)
theorem dX12_right_108 : decode cX12_right 108 = .ok (.aload_n 0, 1) := dc_42 (by decide +kernel)
theorem dX12_right_109 : decode cX12_right 109 = .ok (.getfield 7, 3) := dc_180 0 7 (by decide +kernel)
theorem dX12_right_112 : decode cX12_right 112 = .ok (.sipush 416, 3) := dc_17 1 160 416 (by decide +kernel)
theorem dX12_right_115 : decode cX12_right 115 = .ok (.iload_n 1, 1) := dc_27 (by decide +kernel)
theorem dX12_right_116 : decode cX12_right 116 = .ok (.iadd, 1) := dc_96 (by decide +kernel)
theorem dX12_right_117 : decode cX12_right 117 = .ok (.iaload, 1) := dc_46 (by decide +kernel)
theorem dX12_right_118 : decode cX12_right 118 = .ok (.ireturn, 1) := dc_172 (by decide +kernel)
theorem dX12_right_119 : decode cX12_right 119 = .ok (.aload_n 0, 1) := dc_42 (by decide +kernel)
theorem dX12_right_120 : decode cX12_right 120 = .ok (.getfield 22, 3) := dc_180 0 22 (by decide +kernel)
theorem dX12_right_123 : decode cX12_right 123 = .ok (.iload_n 1, 1) := dc_27 (by decide +kernel)
theorem dX12_right_124 : decode cX12_right 124 = .ok (.iaload, 1) := dc_46 (by decide +kernel)
theorem dX12_right_125 : decode cX12_right 125 = .ok (.ireturn, 1) := dc_172 (by decide +kernel)
theorem dX12_right_126 : decode cX12_right 126 = .ok (.iconst (-1), 1) := dc_2 (by decide +kernel)
theorem dX12_right_127 : decode cX12_right 127 = .ok (.ireturn, 1) := dc_172 (by decide +kernel)
theorem dX12_right_16 : decode cX12_right 16 = .ok (.iconst (-1), 1) := dc_2 (by decide +kernel)
theorem dX12_right_17 : decode cX12_right 17 = .ok (.ireturn, 1) := dc_172 (by decide +kernel)
abbrev R_X12_right : Room := { frames := 1, cells := 0, slots := 0, locals := 24 }
set_option maxRecDepth 100000 in
set_option maxHeartbeats 4000000 in
theorem s_X12_right {l : Launch} {n0 : Nat} {D : va_G} {cA : Nat → ClassId} {M : gM} (a : Int) (r_a : -2147483648 ≤ a ∧ a ≤ 2147483647) (b : Int) (r_b : -2147483648 ≤ b ∧ b ≤ 2147483647) {sz : Nat} (hsz : 206 ≤ sz) (I : gI sz M) (C : gC sz M)   : Met l yX12_right (gWsOf yX12_right cX12_right 3 (Option.some Jvm.ClassFile.FieldType.int)) R_X12_right (gPc n0 D cA [gA n0 190, gJ a, gJ b] M sz) (gQi n0 D cA sz (fun z M1 => (-2147483648 ≤ z ∧ z ≤ 2147483647) ∧ gI sz M1 ∧ gC sz M1 ∧ gFr 2475880189251224992055558144 M M1 ∧ ((¬ (0 ≤ a ∧ a < M 191 2) ∧ z = -1) ∨ ((0 ≤ a ∧ a < M 191 2) ∧ ((b = 0 ∧ z = M 191 (a + 256)) ∨ (b = 1 ∧ z = M 191 (a + 296)) ∨ (b = 2 ∧ z = M 191 (a + 336)) ∨ (b = 3 ∧ z = M 191 (a + 376)) ∨ (b = 4 ∧ z = M 191 (a + 416)) ∨ (b = 5 ∧ pKn M a (M 191 3) z) ∨ (¬ (0 ≤ b ∧ b ≤ 5) ∧ z = -1)))))) 0 0 (fun q => n0 ≤ q) := by
  refine gMetI [gA n0 190, gJ a, gJ b] (by decide) (Nat.le_of_ble_eq_true rfl) ⟨rfl, rfl⟩ ?_
  intro p e s m args below meth cd Q X hq
  have X : gCx p s m args meth cd n0 D cA "ParishUnionModel" cX12_right 3 := X
  show G p l e R_X12_right s m args below meth cd n0 D cA 3 Q 0 0 M sz 0 [(0, gA n0 190), (1, gJ a), (2, gJ b)] []
  obtain ⟨v1, hv1, rv1⟩ := gRd I (by decide) (gsz hsz (by decide)) (rs_NR (k := 2) (by omega)).1
  refine g_iload_n (n := 1) X 1 dX12_right_0 rfl rfl rfl ?_
  refine g_iconst (n := 2) X dX12_right_1 rfl ?_
  refine g_aload_n (n := 3) X 0 dX12_right_2 rfl rfl rfl ?_
  refine gg_12_1 (n := 6) (z := 191) X (by decide) (gsz hsz (by decide)) lay_190 kw_6_27 dX12_right_3 rfl (rf_190_1 I (gsz hsz (by decide))) (by decide) ?_
  refine g_iconst (n := 7) X dX12_right_6 rfl ?_
  refine g_iald2 (n := 8) (v := v1) X (by decide) (gsz hsz (by decide)) lay_191 (by omega) (by omega) (by decide) dX12_right_7 rfl hv1 ?_
  refine g_iconst (n := 9) X dX12_right_8 rfl ?_
  refine g_isub (n := 10) (z := v1 - 1) X dX12_right_9 (by omega) rfl ?_
  refine g_callSi (n := 13) (As := [gJ a, gJ 0, gJ (v1 - 1)]) (rest := []) (cs1 := 0) (ss1 := 0) X (s_X12_in a (by omega) 0 (by omega) (v1 - 1) (by omega) hsz I C ) okX12_in kw_6_106 kw_6_107 ⟨rfl, rfl⟩ ⟨Nat.le_of_ble_eq_true rfl, Nat.le_of_ble_eq_true rfl⟩ rfl rfl (Nat.le_of_ble_eq_true rfl) ⟨Nat.le_of_ble_eq_true rfl, Nat.le_of_ble_eq_true rfl⟩ rfl rfl dX12_right_10 rfl (fun v2 M3 P4 => ?_)
  obtain ⟨rfl, rv2, xv2⟩ := P4
  refine g_if_ne (n := 16) (tgt := 18) X dX12_right_13 (by decide) (by omega) rfl (fun c5 => ?_) (fun c5 => ?_)
  · refine g_aload_n (n := 19) X 0 dX12_right_18 rfl rfl rfl ?_
    refine g_iconst (n := 20) X dX12_right_19 rfl ?_
    refine g_callVv (n := 23) (As := [gJ (-1)]) (rest := []) (cs1 := 0) (ss1 := 0) X (s_X12_looks (-1) (by omega) hsz I C ) okX12_looks kw_6_165 ⟨kw_6_167, kw_0_44⟩ ⟨rfl, rfl⟩ ⟨Nat.le_of_ble_eq_true rfl, Nat.le_of_ble_eq_true rfl⟩ rfl (by decide) (gsz hsz (by decide)) lay_190 rfl rfl (Nat.le_of_ble_eq_true rfl) ⟨Nat.le_of_ble_eq_true rfl, Nat.le_of_ble_eq_true rfl⟩ rfl rfl dX12_right_20 rfl (fun M7 P8 => ?_)
    obtain ⟨IM7, CM7, FM7, xM7⟩ := P8
    refine g_iload_n (n := 24) X 2 dX12_right_23 rfl rfl rfl ?_
    by_cases c9 : b = 0
    · refine g_tableIn (tgt := 64) X 0 dX12_right_24 (by omega) (by omega) (by omega) (by omega) rfl (by decide) ?_
      refine g_aload_n (n := 65) X 0 dX12_right_64 rfl rfl rfl ?_
      refine gg_12_1 (n := 68) (z := 191) X (by decide) (gsz hsz (by decide)) lay_190 kw_6_27 dX12_right_65 rfl (rf_190_1 IM7 (gsz hsz (by decide))) (by decide) ?_
      refine g_sipush (n := 71) X dX12_right_68 (by decide +kernel) rfl ?_
      refine g_iload_n (n := 72) X 1 dX12_right_71 rfl rfl rfl ?_
      refine g_iadd (n := 73) (z := a + 256) X dX12_right_72 (by omega) rfl ?_
      obtain ⟨v10, hv10, rv10⟩ := gRd IM7 (by decide) (gsz hsz (by decide)) (rs_RKIND (k := a + 256) (by omega)).1
      refine g_iald2 (n := 74) (v := v10) X (by decide) (gsz hsz (by decide)) lay_191 (by omega) (by omega) (by decide) dX12_right_73 rfl hv10 ?_
      exact hq _ _ _ _ dX12_right_74 ⟨by omega, IM7, CM7, (gFr.c gFr.rf FM7 rfl), by have q0 := (gFr.s191 FM7 rfl (a + 256)); have q1 := (gFr.s191 FM7 rfl (a + 296)); have q2 := (gFr.s191 FM7 rfl (a + 336)); have q3 := (gFr.s191 FM7 rfl (a + 376)); have q4 := (gFr.s191 FM7 rfl (a + 416)); (first | exact Or.inl ⟨by omega, by omega⟩ | exact Or.inr ⟨by omega, Or.inl ⟨by omega, by omega⟩⟩ | exact Or.inr ⟨by omega, Or.inr (Or.inl ⟨by omega, by omega⟩)⟩ | exact Or.inr ⟨by omega, Or.inr (Or.inr (Or.inl ⟨by omega, by omega⟩))⟩ | exact Or.inr ⟨by omega, Or.inr (Or.inr (Or.inr (Or.inl ⟨by omega, by omega⟩)))⟩ | exact Or.inr ⟨by omega, Or.inr (Or.inr (Or.inr (Or.inr (Or.inl ⟨by omega, by omega⟩))))⟩ | exact Or.inr ⟨by omega, Or.inr (Or.inr (Or.inr (Or.inr (Or.inr (Or.inl ⟨by omega, (by have q9 := xM7 rfl a (by omega) (by omega); rw [hv10] at q9; exact q9)⟩)))))⟩ | exact Or.inr ⟨by omega, Or.inr (Or.inr (Or.inr (Or.inr (Or.inr (Or.inr (⟨by omega, by omega⟩))))))⟩)⟩
    by_cases c11 : b = 1
    · refine g_tableIn (tgt := 75) X 1 dX12_right_24 (by omega) (by omega) (by omega) (by omega) rfl (by decide) ?_
      refine g_aload_n (n := 76) X 0 dX12_right_75 rfl rfl rfl ?_
      refine gg_12_1 (n := 79) (z := 191) X (by decide) (gsz hsz (by decide)) lay_190 kw_6_27 dX12_right_76 rfl (rf_190_1 IM7 (gsz hsz (by decide))) (by decide) ?_
      refine g_sipush (n := 82) X dX12_right_79 (by decide +kernel) rfl ?_
      refine g_iload_n (n := 83) X 1 dX12_right_82 rfl rfl rfl ?_
      refine g_iadd (n := 84) (z := a + 296) X dX12_right_83 (by omega) rfl ?_
      obtain ⟨v12, hv12, rv12⟩ := gRd IM7 (by decide) (gsz hsz (by decide)) (rs_RWHO (k := a + 296) (by omega)).1
      refine g_iald2 (n := 85) (v := v12) X (by decide) (gsz hsz (by decide)) lay_191 (by omega) (by omega) (by decide) dX12_right_84 rfl hv12 ?_
      exact hq _ _ _ _ dX12_right_85 ⟨by omega, IM7, CM7, (gFr.c gFr.rf FM7 rfl), by have q0 := (gFr.s191 FM7 rfl (a + 256)); have q1 := (gFr.s191 FM7 rfl (a + 296)); have q2 := (gFr.s191 FM7 rfl (a + 336)); have q3 := (gFr.s191 FM7 rfl (a + 376)); have q4 := (gFr.s191 FM7 rfl (a + 416)); (first | exact Or.inl ⟨by omega, by omega⟩ | exact Or.inr ⟨by omega, Or.inl ⟨by omega, by omega⟩⟩ | exact Or.inr ⟨by omega, Or.inr (Or.inl ⟨by omega, by omega⟩)⟩ | exact Or.inr ⟨by omega, Or.inr (Or.inr (Or.inl ⟨by omega, by omega⟩))⟩ | exact Or.inr ⟨by omega, Or.inr (Or.inr (Or.inr (Or.inl ⟨by omega, by omega⟩)))⟩ | exact Or.inr ⟨by omega, Or.inr (Or.inr (Or.inr (Or.inr (Or.inl ⟨by omega, by omega⟩))))⟩ | exact Or.inr ⟨by omega, Or.inr (Or.inr (Or.inr (Or.inr (Or.inr (Or.inl ⟨by omega, (by have q9 := xM7 rfl a (by omega) (by omega); rw [hv12] at q9; exact q9)⟩)))))⟩ | exact Or.inr ⟨by omega, Or.inr (Or.inr (Or.inr (Or.inr (Or.inr (Or.inr (⟨by omega, by omega⟩))))))⟩)⟩
    by_cases c13 : b = 2
    · refine g_tableIn (tgt := 86) X 2 dX12_right_24 (by omega) (by omega) (by omega) (by omega) rfl (by decide) ?_
      refine g_aload_n (n := 87) X 0 dX12_right_86 rfl rfl rfl ?_
      refine gg_12_1 (n := 90) (z := 191) X (by decide) (gsz hsz (by decide)) lay_190 kw_6_27 dX12_right_87 rfl (rf_190_1 IM7 (gsz hsz (by decide))) (by decide) ?_
      refine g_sipush (n := 93) X dX12_right_90 (by decide +kernel) rfl ?_
      refine g_iload_n (n := 94) X 1 dX12_right_93 rfl rfl rfl ?_
      refine g_iadd (n := 95) (z := a + 336) X dX12_right_94 (by omega) rfl ?_
      obtain ⟨v14, hv14, rv14⟩ := gRd IM7 (by decide) (gsz hsz (by decide)) (rs_RTO (k := a + 336) (by omega)).1
      refine g_iald2 (n := 96) (v := v14) X (by decide) (gsz hsz (by decide)) lay_191 (by omega) (by omega) (by decide) dX12_right_95 rfl hv14 ?_
      exact hq _ _ _ _ dX12_right_96 ⟨by omega, IM7, CM7, (gFr.c gFr.rf FM7 rfl), by have q0 := (gFr.s191 FM7 rfl (a + 256)); have q1 := (gFr.s191 FM7 rfl (a + 296)); have q2 := (gFr.s191 FM7 rfl (a + 336)); have q3 := (gFr.s191 FM7 rfl (a + 376)); have q4 := (gFr.s191 FM7 rfl (a + 416)); (first | exact Or.inl ⟨by omega, by omega⟩ | exact Or.inr ⟨by omega, Or.inl ⟨by omega, by omega⟩⟩ | exact Or.inr ⟨by omega, Or.inr (Or.inl ⟨by omega, by omega⟩)⟩ | exact Or.inr ⟨by omega, Or.inr (Or.inr (Or.inl ⟨by omega, by omega⟩))⟩ | exact Or.inr ⟨by omega, Or.inr (Or.inr (Or.inr (Or.inl ⟨by omega, by omega⟩)))⟩ | exact Or.inr ⟨by omega, Or.inr (Or.inr (Or.inr (Or.inr (Or.inl ⟨by omega, by omega⟩))))⟩ | exact Or.inr ⟨by omega, Or.inr (Or.inr (Or.inr (Or.inr (Or.inr (Or.inl ⟨by omega, (by have q9 := xM7 rfl a (by omega) (by omega); rw [hv14] at q9; exact q9)⟩)))))⟩ | exact Or.inr ⟨by omega, Or.inr (Or.inr (Or.inr (Or.inr (Or.inr (Or.inr (⟨by omega, by omega⟩))))))⟩)⟩
    by_cases c15 : b = 3
    · refine g_tableIn (tgt := 97) X 3 dX12_right_24 (by omega) (by omega) (by omega) (by omega) rfl (by decide) ?_
      refine g_aload_n (n := 98) X 0 dX12_right_97 rfl rfl rfl ?_
      refine gg_12_1 (n := 101) (z := 191) X (by decide) (gsz hsz (by decide)) lay_190 kw_6_27 dX12_right_98 rfl (rf_190_1 IM7 (gsz hsz (by decide))) (by decide) ?_
      refine g_sipush (n := 104) X dX12_right_101 (by decide +kernel) rfl ?_
      refine g_iload_n (n := 105) X 1 dX12_right_104 rfl rfl rfl ?_
      refine g_iadd (n := 106) (z := a + 376) X dX12_right_105 (by omega) rfl ?_
      obtain ⟨v16, hv16, rv16⟩ := gRd IM7 (by decide) (gsz hsz (by decide)) (rs_RN (k := a + 376) (by omega)).1
      refine g_iald2 (n := 107) (v := v16) X (by decide) (gsz hsz (by decide)) lay_191 (by omega) (by omega) (by decide) dX12_right_106 rfl hv16 ?_
      exact hq _ _ _ _ dX12_right_107 ⟨by omega, IM7, CM7, (gFr.c gFr.rf FM7 rfl), by have q0 := (gFr.s191 FM7 rfl (a + 256)); have q1 := (gFr.s191 FM7 rfl (a + 296)); have q2 := (gFr.s191 FM7 rfl (a + 336)); have q3 := (gFr.s191 FM7 rfl (a + 376)); have q4 := (gFr.s191 FM7 rfl (a + 416)); (first | exact Or.inl ⟨by omega, by omega⟩ | exact Or.inr ⟨by omega, Or.inl ⟨by omega, by omega⟩⟩ | exact Or.inr ⟨by omega, Or.inr (Or.inl ⟨by omega, by omega⟩)⟩ | exact Or.inr ⟨by omega, Or.inr (Or.inr (Or.inl ⟨by omega, by omega⟩))⟩ | exact Or.inr ⟨by omega, Or.inr (Or.inr (Or.inr (Or.inl ⟨by omega, by omega⟩)))⟩ | exact Or.inr ⟨by omega, Or.inr (Or.inr (Or.inr (Or.inr (Or.inl ⟨by omega, by omega⟩))))⟩ | exact Or.inr ⟨by omega, Or.inr (Or.inr (Or.inr (Or.inr (Or.inr (Or.inl ⟨by omega, (by have q9 := xM7 rfl a (by omega) (by omega); rw [hv16] at q9; exact q9)⟩)))))⟩ | exact Or.inr ⟨by omega, Or.inr (Or.inr (Or.inr (Or.inr (Or.inr (Or.inr (⟨by omega, by omega⟩))))))⟩)⟩
    by_cases c17 : b = 4
    · refine g_tableIn (tgt := 108) X 4 dX12_right_24 (by omega) (by omega) (by omega) (by omega) rfl (by decide) ?_
      refine g_aload_n (n := 109) X 0 dX12_right_108 rfl rfl rfl ?_
      refine gg_12_1 (n := 112) (z := 191) X (by decide) (gsz hsz (by decide)) lay_190 kw_6_27 dX12_right_109 rfl (rf_190_1 IM7 (gsz hsz (by decide))) (by decide) ?_
      refine g_sipush (n := 115) X dX12_right_112 (by decide +kernel) rfl ?_
      refine g_iload_n (n := 116) X 1 dX12_right_115 rfl rfl rfl ?_
      refine g_iadd (n := 117) (z := a + 416) X dX12_right_116 (by omega) rfl ?_
      obtain ⟨v18, hv18, rv18⟩ := gRd IM7 (by decide) (gsz hsz (by decide)) (rs_RWEEK (k := a + 416) (by omega)).1
      refine g_iald2 (n := 118) (v := v18) X (by decide) (gsz hsz (by decide)) lay_191 (by omega) (by omega) (by decide) dX12_right_117 rfl hv18 ?_
      exact hq _ _ _ _ dX12_right_118 ⟨by omega, IM7, CM7, (gFr.c gFr.rf FM7 rfl), by have q0 := (gFr.s191 FM7 rfl (a + 256)); have q1 := (gFr.s191 FM7 rfl (a + 296)); have q2 := (gFr.s191 FM7 rfl (a + 336)); have q3 := (gFr.s191 FM7 rfl (a + 376)); have q4 := (gFr.s191 FM7 rfl (a + 416)); (first | exact Or.inl ⟨by omega, by omega⟩ | exact Or.inr ⟨by omega, Or.inl ⟨by omega, by omega⟩⟩ | exact Or.inr ⟨by omega, Or.inr (Or.inl ⟨by omega, by omega⟩)⟩ | exact Or.inr ⟨by omega, Or.inr (Or.inr (Or.inl ⟨by omega, by omega⟩))⟩ | exact Or.inr ⟨by omega, Or.inr (Or.inr (Or.inr (Or.inl ⟨by omega, by omega⟩)))⟩ | exact Or.inr ⟨by omega, Or.inr (Or.inr (Or.inr (Or.inr (Or.inl ⟨by omega, by omega⟩))))⟩ | exact Or.inr ⟨by omega, Or.inr (Or.inr (Or.inr (Or.inr (Or.inr (Or.inl ⟨by omega, (by have q9 := xM7 rfl a (by omega) (by omega); rw [hv18] at q9; exact q9)⟩)))))⟩ | exact Or.inr ⟨by omega, Or.inr (Or.inr (Or.inr (Or.inr (Or.inr (Or.inr (⟨by omega, by omega⟩))))))⟩)⟩
    by_cases c19 : b = 5
    · refine g_tableIn (tgt := 119) X 5 dX12_right_24 (by omega) (by omega) (by omega) (by omega) rfl (by decide) ?_
      refine g_aload_n (n := 120) X 0 dX12_right_119 rfl rfl rfl ?_
      refine gg_12_6 (n := 123) (z := 195) X (by decide) (gsz hsz (by decide)) lay_190 kw_6_32 dX12_right_120 rfl (rf_190_6 IM7 (gsz hsz (by decide))) (by decide) ?_
      refine g_iload_n (n := 124) X 1 dX12_right_123 rfl rfl rfl ?_
      obtain ⟨v20, hv20, rv20⟩ := gRd IM7 (by decide) (gsz hsz (by decide)) (ra_195 a).1
      refine g_iald2 (n := 125) (v := v20) X (by decide) (gsz hsz (by decide)) lay_195 (by omega) (by omega) (by decide) dX12_right_124 rfl hv20 ?_
      exact hq _ _ _ _ dX12_right_125 ⟨by omega, IM7, CM7, (gFr.c gFr.rf FM7 rfl), by have q0 := (gFr.s191 FM7 rfl (a + 256)); have q1 := (gFr.s191 FM7 rfl (a + 296)); have q2 := (gFr.s191 FM7 rfl (a + 336)); have q3 := (gFr.s191 FM7 rfl (a + 376)); have q4 := (gFr.s191 FM7 rfl (a + 416)); (first | exact Or.inl ⟨by omega, by omega⟩ | exact Or.inr ⟨by omega, Or.inl ⟨by omega, by omega⟩⟩ | exact Or.inr ⟨by omega, Or.inr (Or.inl ⟨by omega, by omega⟩)⟩ | exact Or.inr ⟨by omega, Or.inr (Or.inr (Or.inl ⟨by omega, by omega⟩))⟩ | exact Or.inr ⟨by omega, Or.inr (Or.inr (Or.inr (Or.inl ⟨by omega, by omega⟩)))⟩ | exact Or.inr ⟨by omega, Or.inr (Or.inr (Or.inr (Or.inr (Or.inl ⟨by omega, by omega⟩))))⟩ | exact Or.inr ⟨by omega, Or.inr (Or.inr (Or.inr (Or.inr (Or.inr (Or.inl ⟨by omega, (by have q9 := xM7 rfl a (by omega) (by omega); rw [hv20] at q9; exact q9)⟩)))))⟩ | exact Or.inr ⟨by omega, Or.inr (Or.inr (Or.inr (Or.inr (Or.inr (Or.inr (⟨by omega, by omega⟩))))))⟩)⟩
    refine g_tableOut (tgt := 126) X dX12_right_24 (by omega) (by omega) (by decide) ?_
    refine g_iconst (n := 127) X dX12_right_126 rfl ?_
    exact hq _ _ _ _ dX12_right_127 ⟨by omega, IM7, CM7, (gFr.c gFr.rf FM7 rfl), by have q0 := (gFr.s191 FM7 rfl (a + 256)); have q1 := (gFr.s191 FM7 rfl (a + 296)); have q2 := (gFr.s191 FM7 rfl (a + 336)); have q3 := (gFr.s191 FM7 rfl (a + 376)); have q4 := (gFr.s191 FM7 rfl (a + 416)); (first | exact Or.inl ⟨by omega, by omega⟩ | exact Or.inr ⟨by omega, Or.inl ⟨by omega, by omega⟩⟩ | exact Or.inr ⟨by omega, Or.inr (Or.inl ⟨by omega, by omega⟩)⟩ | exact Or.inr ⟨by omega, Or.inr (Or.inr (Or.inl ⟨by omega, by omega⟩))⟩ | exact Or.inr ⟨by omega, Or.inr (Or.inr (Or.inr (Or.inl ⟨by omega, by omega⟩)))⟩ | exact Or.inr ⟨by omega, Or.inr (Or.inr (Or.inr (Or.inr (Or.inl ⟨by omega, by omega⟩))))⟩ | exact Or.inr ⟨by omega, Or.inr (Or.inr (Or.inr (Or.inr (Or.inr (Or.inl ⟨by omega, (by omega)⟩)))))⟩ | exact Or.inr ⟨by omega, Or.inr (Or.inr (Or.inr (Or.inr (Or.inr (Or.inr (⟨by omega, by omega⟩))))))⟩)⟩
  · refine g_iconst (n := 17) X dX12_right_16 rfl ?_
    exact hq _ _ _ _ dX12_right_17 ⟨by omega, I, C, gFr.rf, by (first | exact Or.inl ⟨by omega, by omega⟩ | exact Or.inr ⟨by omega, Or.inl ⟨by omega, by omega⟩⟩ | exact Or.inr ⟨by omega, Or.inr (Or.inl ⟨by omega, by omega⟩)⟩ | exact Or.inr ⟨by omega, Or.inr (Or.inr (Or.inl ⟨by omega, by omega⟩))⟩ | exact Or.inr ⟨by omega, Or.inr (Or.inr (Or.inr (Or.inl ⟨by omega, by omega⟩)))⟩ | exact Or.inr ⟨by omega, Or.inr (Or.inr (Or.inr (Or.inr (Or.inl ⟨by omega, by omega⟩))))⟩ | exact Or.inr ⟨by omega, Or.inr (Or.inr (Or.inr (Or.inr (Or.inr (Or.inl ⟨by omega, (by omega)⟩)))))⟩ | exact Or.inr ⟨by omega, Or.inr (Or.inr (Or.inr (Or.inr (Or.inr (Or.inr (⟨by omega, by omega⟩))))))⟩)⟩
theorem dX12_enter_0 : decode cX12_enter 0 = .ok (.aload_n 0, 1) := dc_42 (by decide +kernel)
theorem dX12_enter_1 : decode cX12_enter 1 = .ok (.dup, 1) := dc_89 (by decide +kernel)
theorem dX12_enter_2 : decode cX12_enter 2 = .ok (.getfield 44, 3) := dc_180 0 44 (by decide +kernel)
theorem dX12_enter_5 : decode cX12_enter 5 = .ok (.iconst 1, 1) := dc_4 (by decide +kernel)
theorem dX12_enter_6 : decode cX12_enter 6 = .ok (.iadd, 1) := dc_96 (by decide +kernel)
theorem dX12_enter_7 : decode cX12_enter 7 = .ok (.putfield 44, 3) := dc_181 0 44 (by decide +kernel)
theorem dX12_enter_10 : decode cX12_enter 10 = .ok (.aload_n 0, 1) := dc_42 (by decide +kernel)
theorem dX12_enter_11 : decode cX12_enter 11 = .ok (.getfield 7, 3) := dc_180 0 7 (by decide +kernel)
theorem dX12_enter_14 : decode cX12_enter 14 = .ok (.sipush 496, 3) := dc_17 1 240 496 (by decide +kernel)
theorem dX12_enter_17 : decode cX12_enter 17 = .ok (.aload_n 0, 1) := dc_42 (by decide +kernel)
theorem dX12_enter_18 : decode cX12_enter 18 = .ok (.getfield 7, 3) := dc_180 0 7 (by decide +kernel)
theorem dX12_enter_21 : decode cX12_enter 21 = .ok (.iconst 3, 1) := dc_6 (by decide +kernel)
theorem dX12_enter_22 : decode cX12_enter 22 = .ok (.iaload, 1) := dc_46 (by decide +kernel)
theorem dX12_enter_23 : decode cX12_enter 23 = .ok (.iadd, 1) := dc_96 (by decide +kernel)
theorem dX12_enter_24 : decode cX12_enter 24 = .ok (.iload_n 1, 1) := dc_27 (by decide +kernel)
theorem dX12_enter_25 : decode cX12_enter 25 = .ok (.iastore, 1) := dc_79 (by decide +kernel)
theorem dX12_enter_26 : decode cX12_enter 26 = .ok (.aload_n 0, 1) := dc_42 (by decide +kernel)
theorem dX12_enter_27 : decode cX12_enter 27 = .ok (.getfield 7, 3) := dc_180 0 7 (by decide +kernel)
theorem dX12_enter_30 : decode cX12_enter 30 = .ok (.sipush 576, 3) := dc_17 2 64 576 (by decide +kernel)
theorem dX12_enter_33 : decode cX12_enter 33 = .ok (.aload_n 0, 1) := dc_42 (by decide +kernel)
theorem dX12_enter_34 : decode cX12_enter 34 = .ok (.getfield 7, 3) := dc_180 0 7 (by decide +kernel)
theorem dX12_enter_37 : decode cX12_enter 37 = .ok (.iconst 3, 1) := dc_6 (by decide +kernel)
theorem dX12_enter_38 : decode cX12_enter 38 = .ok (.iaload, 1) := dc_46 (by decide +kernel)
theorem dX12_enter_39 : decode cX12_enter 39 = .ok (.iadd, 1) := dc_96 (by decide +kernel)
theorem dX12_enter_40 : decode cX12_enter 40 = .ok (.iload_n 2, 1) := dc_28 (by decide +kernel)
theorem dX12_enter_41 : decode cX12_enter 41 = .ok (.iastore, 1) := dc_79 (by decide +kernel)
theorem dX12_enter_42 : decode cX12_enter 42 = .ok (.aload_n 0, 1) := dc_42 (by decide +kernel)
theorem dX12_enter_43 : decode cX12_enter 43 = .ok (.getfield 7, 3) := dc_180 0 7 (by decide +kernel)
theorem dX12_enter_46 : decode cX12_enter 46 = .ok (.iconst 3, 1) := dc_6 (by decide +kernel)
theorem dX12_enter_47 : decode cX12_enter 47 = .ok (.dup2, 1) := dc_92 (by decide +kernel)
theorem dX12_enter_48 : decode cX12_enter 48 = .ok (.iaload, 1) := dc_46 (by decide +kernel)
theorem dX12_enter_49 : decode cX12_enter 49 = .ok (.iconst 1, 1) := dc_4 (by decide +kernel)
theorem dX12_enter_50 : decode cX12_enter 50 = .ok (.iadd, 1) := dc_96 (by decide +kernel)
theorem dX12_enter_51 : decode cX12_enter 51 = .ok (.iastore, 1) := dc_79 (by decide +kernel)
theorem dX12_enter_52 : decode cX12_enter 52 = .ok (.return_, 1) := dc_177 (by decide +kernel)
abbrev R_X12_enter : Room := { frames := 0, cells := 0, slots := 0, locals := 0 }
set_option maxRecDepth 100000 in
set_option maxHeartbeats 4000000 in
theorem s_X12_enter {l : Launch} {n0 : Nat} {D : va_G} {cA : Nat → ClassId} {M : gM} (a : Int) (r_a : -2147483648 ≤ a ∧ a ≤ 2147483647) (b : Int) (r_b : 0 ≤ b ∧ b ≤ 39) {sz : Nat} (hsz : 206 ≤ sz) (I : gI sz M) (C : gC sz M) (q_191_3 : 0 ≤ M 191 3 ∧ M 191 3 ≤ 79)  : Met l yX12_enter (gWsOf yX12_enter cX12_enter 3 (Option.none : Option Jvm.ClassFile.FieldType)) R_X12_enter (gPc n0 D cA [gA n0 190, gJ a, gJ b] M sz) (gQv n0 D cA sz (fun M1 => gI sz M1 ∧ gC sz M1 ∧ gFr 464228105027827961792823296 M M1 ∧ (M1 191 3 = M 191 3 + 1 ∧ M1 191 (M 191 3 + 496) = a ∧ M1 191 (M 191 3 + 576) = b ∧ (∀ k : Int, ¬ k = 3 → ¬ k = M 191 3 + 496 → ¬ k = M 191 3 + 576 → M1 191 k = M 191 k)))) 0 0 (fun q => n0 ≤ q) := by
  refine gMetV [gA n0 190, gJ a, gJ b] (by decide) (Nat.le_of_ble_eq_true rfl) ⟨rfl, rfl⟩ ?_
  intro p e s m args below meth cd Q X hq
  have X : gCx p s m args meth cd n0 D cA "ParishUnionModel" cX12_enter 3 := X
  show G p l e R_X12_enter s m args below meth cd n0 D cA 3 Q 0 0 M sz 0 [(0, gA n0 190), (1, gJ a), (2, gJ b)] []
  obtain ⟨v1, hv1, rv1⟩ := gRd I (by decide) (gsz hsz (by decide)) (rs_NE (k := 3) (by omega)).1
  refine g_aload_n (n := 1) X 0 dX12_enter_0 rfl rfl rfl ?_
  refine g_dup (n := 2) X dX12_enter_1 rfl rfl ?_
  obtain ⟨v2, hv2, rv2⟩ := gRd I (by decide) (gsz hsz (by decide)) rc_190_19.1
  refine gg_12_19 (n := 5) (z := v2) X (by decide) (gsz hsz (by decide)) lay_190 kw_6_45 dX12_enter_2 rfl hv2 ?_
  refine g_iconst (n := 6) X dX12_enter_5 rfl ?_
  refine g_iaddA (n := 7) X dX12_enter_6 rfl (fun v3 rv3 xv3 => ?_)
  clear xv3
  refine gp_12_19 (n := 10) X (by decide) (gsz hsz (by decide)) lay_190 kw_6_45 dX12_enter_7 rfl ?_
  refine G.nm (fun M4 e5 => ?_)
  have IM4 : gI sz M4 := gI.set I rc_190_19.1 (by omega) e5
  have CM4 : gC sz M4 := gC.set C rc_190_19.2.1 e5
  refine g_aload_n (n := 11) X 0 dX12_enter_10 rfl rfl rfl ?_
  refine gg_12_1 (n := 14) (z := 191) X (by decide) (gsz hsz (by decide)) lay_190 kw_6_27 dX12_enter_11 rfl (rf_190_1 IM4 (gsz hsz (by decide))) (by decide) ?_
  refine g_sipush (n := 17) X dX12_enter_14 (by decide +kernel) rfl ?_
  refine g_aload_n (n := 18) X 0 dX12_enter_17 rfl rfl rfl ?_
  refine gg_12_1 (n := 21) (z := 191) X (by decide) (gsz hsz (by decide)) lay_190 kw_6_27 dX12_enter_18 rfl (rf_190_1 IM4 (gsz hsz (by decide))) (by decide) ?_
  refine g_iconst (n := 22) X dX12_enter_21 rfl ?_
  refine g_iald2 (n := 23) (v := v1) X (by decide) (gsz hsz (by decide)) lay_191 (by omega) (by omega) (by decide) dX12_enter_22 rfl ((congrFun (congrFun e5 _) _).trans ((gset_ne (by omega)).trans hv1)) ?_
  refine g_iadd (n := 24) (z := v1 + 496) X dX12_enter_23 (by omega) rfl ?_
  refine g_iload_n (n := 25) X 1 dX12_enter_24 rfl rfl rfl ?_
  refine g_iast (n := 26) X (by decide) (gsz hsz (by decide)) lay_191 (by omega) (by omega) (by decide) dX12_enter_25 rfl ?_
  refine G.nm (fun M6 e7 => ?_)
  have IM6 : gI sz M6 := gI.set IM4 (rs_EKIND (k := v1 + 496) (by omega)).1 (by omega) e7
  have CM6 : gC sz M6 := gC.set CM4 (rs_EKIND (k := v1 + 496) (by omega)).2.1 e7
  refine g_aload_n (n := 27) X 0 dX12_enter_26 rfl rfl rfl ?_
  refine gg_12_1 (n := 30) (z := 191) X (by decide) (gsz hsz (by decide)) lay_190 kw_6_27 dX12_enter_27 rfl (rf_190_1 IM6 (gsz hsz (by decide))) (by decide) ?_
  refine g_sipush (n := 33) X dX12_enter_30 (by decide +kernel) rfl ?_
  refine g_aload_n (n := 34) X 0 dX12_enter_33 rfl rfl rfl ?_
  refine gg_12_1 (n := 37) (z := 191) X (by decide) (gsz hsz (by decide)) lay_190 kw_6_27 dX12_enter_34 rfl (rf_190_1 IM6 (gsz hsz (by decide))) (by decide) ?_
  refine g_iconst (n := 38) X dX12_enter_37 rfl ?_
  refine g_iald2 (n := 39) (v := v1) X (by decide) (gsz hsz (by decide)) lay_191 (by omega) (by omega) (by decide) dX12_enter_38 rfl ((congrFun (congrFun e7 _) _).trans ((gset_ne (by omega)).trans ((congrFun (congrFun e5 _) _).trans ((gset_ne (by omega)).trans hv1)))) ?_
  refine g_iadd (n := 40) (z := v1 + 576) X dX12_enter_39 (by omega) rfl ?_
  refine g_iload_n (n := 41) X 2 dX12_enter_40 rfl rfl rfl ?_
  refine g_iast (n := 42) X (by decide) (gsz hsz (by decide)) lay_191 (by omega) (by omega) (by decide) dX12_enter_41 rfl ?_
  refine G.nm (fun M8 e9 => ?_)
  have IM8 : gI sz M8 := gI.set IM6 (rs_ERIGHT (k := v1 + 576) (by omega)).1 (by omega) e9
  have CM8 : gC sz M8 := gC.set CM6 (rs_ERIGHT (k := v1 + 576) (by omega)).2.1 e9
  refine g_aload_n (n := 43) X 0 dX12_enter_42 rfl rfl rfl ?_
  refine gg_12_1 (n := 46) (z := 191) X (by decide) (gsz hsz (by decide)) lay_190 kw_6_27 dX12_enter_43 rfl (rf_190_1 IM8 (gsz hsz (by decide))) (by decide) ?_
  refine g_iconst (n := 47) X dX12_enter_46 rfl ?_
  refine g_dup2 (n := 48) X dX12_enter_47 rfl rfl rfl ?_
  refine g_iald2 (n := 49) (v := v1) X (by decide) (gsz hsz (by decide)) lay_191 (by omega) (by omega) (by decide) dX12_enter_48 rfl ((congrFun (congrFun e9 _) _).trans ((gset_ne (by omega)).trans ((congrFun (congrFun e7 _) _).trans ((gset_ne (by omega)).trans ((congrFun (congrFun e5 _) _).trans ((gset_ne (by omega)).trans hv1)))))) ?_
  refine g_iconst (n := 50) X dX12_enter_49 rfl ?_
  refine g_iadd (n := 51) (z := v1 + 1) X dX12_enter_50 (by omega) rfl ?_
  refine g_iast (n := 52) X (by decide) (gsz hsz (by decide)) lay_191 (by omega) (by omega) (by decide) dX12_enter_51 rfl ?_
  refine G.nm (fun M10 e11 => ?_)
  have IM10 : gI sz M10 := gI.set IM8 (rs_NE (k := 3) (by omega)).1 (by omega) e11
  have CM10 : gC sz M10 := gC.set CM8 (rs_NE (k := 3) (by omega)).2.1 e11
  exact hq _ _ _ dX12_enter_52 ⟨IM10, CM10, (gFr.s (gFr.s (gFr.s (gFr.s gFr.rf e5 rc_190_19.2.2 rfl) e7 (rs_EKIND (k := v1 + 496) (by omega)).2.2 rfl) e9 (rs_ERIGHT (k := v1 + 576) (by omega)).2.2 rfl) e11 (rs_NE (k := 3) (by omega)).2.2 rfl), ⟨(by have q := ((congrFun (congrFun e11 _) _).trans (gset_eq _ _ _ _)); omega), (by rw [hv1]; exact ((congrFun (congrFun e11 _) _).trans ((gset_ne (by omega)).trans ((congrFun (congrFun e9 _) _).trans ((gset_ne (by omega)).trans ((congrFun (congrFun e7 _) _).trans (gset_eq _ _ _ _))))))), (by rw [hv1]; exact ((congrFun (congrFun e11 _) _).trans ((gset_ne (by omega)).trans ((congrFun (congrFun e9 _) _).trans (gset_eq _ _ _ _))))), (fun k g1 g2 g3 => ((congrFun (congrFun e11 _) _).trans ((gset_ne (by omega)).trans ((congrFun (congrFun e9 _) _).trans ((gset_ne (by omega)).trans ((congrFun (congrFun e7 _) _).trans ((gset_ne (by omega)).trans ((congrFun (congrFun e5 _) _).trans ((gset_ne (by omega)).trans rfl)))))))))⟩⟩
theorem dX12_proof_0 : decode cX12_proof 0 = .ok (.iload_n 1, 1) := dc_27 (by decide +kernel)
theorem dX12_proof_1 : decode cX12_proof 1 = .ok (.iconst 0, 1) := dc_3 (by decide +kernel)
theorem dX12_proof_2 : decode cX12_proof 2 = .ok (.aload_n 0, 1) := dc_42 (by decide +kernel)
theorem dX12_proof_3 : decode cX12_proof 3 = .ok (.getfield 7, 3) := dc_180 0 7 (by decide +kernel)
theorem dX12_proof_6 : decode cX12_proof 6 = .ok (.iconst 2, 1) := dc_5 (by decide +kernel)
theorem dX12_proof_7 : decode cX12_proof 7 = .ok (.iaload, 1) := dc_46 (by decide +kernel)
theorem dX12_proof_8 : decode cX12_proof 8 = .ok (.iconst 1, 1) := dc_4 (by decide +kernel)
theorem dX12_proof_9 : decode cX12_proof 9 = .ok (.isub, 1) := dc_100 (by decide +kernel)
theorem dX12_proof_10 : decode cX12_proof 10 = .ok (.invokestatic 64, 3) := dc_184 0 64 (by decide +kernel)
theorem dX12_proof_13 : decode cX12_proof 13 = .ok (.ifCond .ne 5, 3) := dc_154 0 5 5 (by decide +kernel)
theorem dX12_proof_18 : decode cX12_proof 18 = .ok (.iload_n 2, 1) := dc_28 (by decide +kernel)
theorem dX12_proof_19 : decode cX12_proof 19 = .ok (.ifCond .eq 21, 3) := dc_153 0 21 21 (by decide +kernel)
theorem dX12_proof_40 : decode cX12_proof 40 = .ok (.iconst 0, 1) := dc_3 (by decide +kernel)
theorem dX12_proof_41 : decode cX12_proof 41 = .ok (.istore_n 3, 1) := dc_62 (by decide +kernel)
theorem dX12_proof_42 : decode cX12_proof 42 = .ok (.iconst 0, 1) := dc_3 (by decide +kernel)
theorem dX12_proof_43 : decode cX12_proof 43 = .ok (.istore 4, 2) := dc_54 4 (by decide +kernel)
theorem dX12_proof_45 : decode cX12_proof 45 = .ok (.iload 4, 2) := dc_21 4 (by decide +kernel)
theorem dX12_proof_47 : decode cX12_proof 47 = .ok (.aload_n 0, 1) := dc_42 (by decide +kernel)
theorem dX12_proof_48 : decode cX12_proof 48 = .ok (.getfield 7, 3) := dc_180 0 7 (by decide +kernel)
theorem dX12_proof_51 : decode cX12_proof 51 = .ok (.iconst 3, 1) := dc_6 (by decide +kernel)
theorem dX12_proof_52 : decode cX12_proof 52 = .ok (.iaload, 1) := dc_46 (by decide +kernel)
theorem dX12_proof_53 : decode cX12_proof 53 = .ok (.if_icmp .ge 48, 3) := dc_162 0 48 48 (by decide +kernel)
theorem dX12_proof_101 : decode cX12_proof 101 = .ok (.iload_n 3, 1) := dc_29 (by decide +kernel)
theorem dX12_proof_102 : decode cX12_proof 102 = .ok (.ifCond .eq 6, 3) := dc_153 0 6 6 (by decide +kernel)
theorem dX12_proof_108 : decode cX12_proof 108 = .ok (.aload_n 0, 1) := dc_42 (by decide +kernel)
theorem dX12_proof_109 : decode cX12_proof 109 = .ok (.getfield 7, 3) := dc_180 0 7 (by decide +kernel)
theorem dX12_proof_112 : decode cX12_proof 112 = .ok (.iconst 3, 1) := dc_6 (by decide +kernel)
theorem dX12_proof_113 : decode cX12_proof 113 = .ok (.iaload, 1) := dc_46 (by decide +kernel)
theorem dX12_proof_114 : decode cX12_proof 114 = .ok (.bipush 80, 2) := dc_16 80 80 (by decide +kernel)
theorem dX12_proof_116 : decode cX12_proof 116 = .ok (.if_icmp .ne 6, 3) := dc_160 0 6 6 (by decide +kernel)
theorem dX12_proof_122 : decode cX12_proof 122 = .ok (.aload_n 0, 1) := dc_42 (by decide +kernel)
theorem dX12_proof_123 : decode cX12_proof 123 = .ok (.iload_n 2, 1) := dc_28 (by decide +kernel)
theorem dX12_proof_124 : decode cX12_proof 124 = .ok (.ifCond .eq 7, 3) := dc_153 0 7 7 (by decide +kernel)
theorem dX12_proof_131 : decode cX12_proof 131 = .ok (.iconst 2, 1) := dc_5 (by decide +kernel)
theorem dX12_proof_132 : decode cX12_proof 132 = .ok (.iload_n 1, 1) := dc_27 (by decide +kernel)
theorem dX12_proof_133 : decode cX12_proof 133 = .ok (.invokevirtual 79, 3) := dc_182 0 79 (by decide +kernel)
theorem kw_6_145 : (Jvm.Cond.methodLink "ParishUnionModel" (79 : Nat) ({ cls := "ParishUnionModel", name := "enter", desc := "(II)V" } : Jvm.MethodName)) ∈ gT := gT_of (tb_6 _ (List.mem_of_getElem? (i := 145) rfl)) rfl
theorem kw_6_148 : (Jvm.Cond.code ({ cls := "ParishUnionModel", name := "enter", desc := "(II)V" } : Jvm.MethodName) prog_14_method_17_code (3 : Nat) (Option.none : Option Jvm.ClassFile.FieldType)) ∈ gT := gT_of (tb_6 _ (List.mem_of_getElem? (i := 148) rfl)) rfl
theorem okX12_enter : gQok yX12_enter cX12_enter 3 (Option.none : Option Jvm.ClassFile.FieldType) 2 := ⟨kw_6_148, kw_1_13, by decide +kernel, by decide +kernel, by decide +kernel⟩
theorem kw_6_147 : (Jvm.Cond.instanceMethod ({ cls := "ParishUnionModel", name := "enter", desc := "(II)V" } : Jvm.MethodName)) ∈ gT := gT_of (tb_6 _ (List.mem_of_getElem? (i := 147) rfl)) rfl
theorem kw_0_43 : (Jvm.Cond.selects "ParishUnionModel" ({ cls := "ParishUnionModel", name := "enter", desc := "(II)V" } : Jvm.MethodName) ({ cls := "ParishUnionModel", name := "enter", desc := "(II)V" } : Jvm.MethodName)) ∈ gT := gT_of (tb_0 _ (List.mem_of_getElem? (i := 43) rfl)) rfl
theorem dX12_proof_136 : decode cX12_proof 136 = .ok (.aload_n 0, 1) := dc_42 (by decide +kernel)
theorem dX12_proof_137 : decode cX12_proof 137 = .ok (.getfield 7, 3) := dc_180 0 7 (by decide +kernel)
theorem dX12_proof_140 : decode cX12_proof 140 = .ok (.iconst 3, 1) := dc_6 (by decide +kernel)
theorem dX12_proof_141 : decode cX12_proof 141 = .ok (.iaload, 1) := dc_46 (by decide +kernel)
theorem dX12_proof_142 : decode cX12_proof 142 = .ok (.ireturn, 1) := dc_172 (by decide +kernel)
theorem dX12_proof_105 : decode cX12_proof 105 = .ok (.bipush (-3), 2) := dc_16 253 (-3) (by decide +kernel)
theorem dX12_proof_107 : decode cX12_proof 107 = .ok (.ireturn, 1) := dc_172 (by decide +kernel)
theorem dX12_proof_56 : decode cX12_proof 56 = .ok (.iload_n 3, 1) := dc_29 (by decide +kernel)
theorem dX12_proof_57 : decode cX12_proof 57 = .ok (.ifCond .ne 32, 3) := dc_154 0 32 32 (by decide +kernel)
theorem dX12_proof_89 : decode cX12_proof 89 = .ok (.iconst 1, 1) := dc_4 (by decide +kernel)
theorem dX12_proof_90 : decode cX12_proof 90 = .ok (.goto 4, 3) := dc_167 0 4 4 (by decide +kernel)
theorem dX12_proof_94 : decode cX12_proof 94 = .ok (.istore_n 3, 1) := dc_62 (by decide +kernel)
theorem dX12_proof_95 : decode cX12_proof 95 = .ok (.iinc 4 1, 3) := dc_132 4 1 1 (by decide +kernel)
theorem dX12_proof_98 : decode cX12_proof 98 = .ok (.goto (-53), 3) := dc_167 255 203 (-53) (by decide +kernel)
theorem dX12_proof_60 : decode cX12_proof 60 = .ok (.aload_n 0, 1) := dc_42 (by decide +kernel)
theorem dX12_proof_61 : decode cX12_proof 61 = .ok (.getfield 7, 3) := dc_180 0 7 (by decide +kernel)
theorem dX12_proof_64 : decode cX12_proof 64 = .ok (.sipush 496, 3) := dc_17 1 240 496 (by decide +kernel)
theorem dX12_proof_67 : decode cX12_proof 67 = .ok (.iload 4, 2) := dc_21 4 (by decide +kernel)
theorem dX12_proof_69 : decode cX12_proof 69 = .ok (.iadd, 1) := dc_96 (by decide +kernel)
theorem dX12_proof_70 : decode cX12_proof 70 = .ok (.iaload, 1) := dc_46 (by decide +kernel)
theorem dX12_proof_71 : decode cX12_proof 71 = .ok (.ifCond .eq 22, 3) := dc_153 0 22 22 (by decide +kernel)
theorem dX12_proof_93 : decode cX12_proof 93 = .ok (.iconst 0, 1) := dc_3 (by decide +kernel)
theorem dX12_proof_74 : decode cX12_proof 74 = .ok (.aload_n 0, 1) := dc_42 (by decide +kernel)
theorem dX12_proof_75 : decode cX12_proof 75 = .ok (.getfield 7, 3) := dc_180 0 7 (by decide +kernel)
theorem dX12_proof_78 : decode cX12_proof 78 = .ok (.sipush 576, 3) := dc_17 2 64 576 (by decide +kernel)
theorem dX12_proof_81 : decode cX12_proof 81 = .ok (.iload 4, 2) := dc_21 4 (by decide +kernel)
theorem dX12_proof_83 : decode cX12_proof 83 = .ok (.iadd, 1) := dc_96 (by decide +kernel)
theorem dX12_proof_84 : decode cX12_proof 84 = .ok (.iaload, 1) := dc_46 (by decide +kernel)
theorem dX12_proof_85 : decode cX12_proof 85 = .ok (.iload_n 1, 1) := dc_27 (by decide +kernel)
theorem dX12_proof_86 : decode cX12_proof 86 = .ok (.if_icmp .ne 7, 3) := dc_160 0 7 7 (by decide +kernel)
theorem dX12_proof_119 : decode cX12_proof 119 = .ok (.bipush (-4), 2) := dc_16 252 (-4) (by decide +kernel)
theorem dX12_proof_121 : decode cX12_proof 121 = .ok (.ireturn, 1) := dc_172 (by decide +kernel)
theorem dX12_proof_22 : decode cX12_proof 22 = .ok (.aload_n 0, 1) := dc_42 (by decide +kernel)
theorem dX12_proof_23 : decode cX12_proof 23 = .ok (.getfield 7, 3) := dc_180 0 7 (by decide +kernel)
theorem dX12_proof_26 : decode cX12_proof 26 = .ok (.sipush 456, 3) := dc_17 1 200 456 (by decide +kernel)
theorem dX12_proof_29 : decode cX12_proof 29 = .ok (.iload_n 1, 1) := dc_27 (by decide +kernel)
theorem dX12_proof_30 : decode cX12_proof 30 = .ok (.iadd, 1) := dc_96 (by decide +kernel)
theorem dX12_proof_31 : decode cX12_proof 31 = .ok (.iaload, 1) := dc_46 (by decide +kernel)
theorem dX12_proof_32 : decode cX12_proof 32 = .ok (.iconst 1, 1) := dc_4 (by decide +kernel)
theorem dX12_proof_33 : decode cX12_proof 33 = .ok (.if_icmp .ne 7, 3) := dc_160 0 7 7 (by decide +kernel)
theorem dX12_proof_127 : decode cX12_proof 127 = .ok (.iconst 1, 1) := dc_4 (by decide +kernel)
theorem dX12_proof_128 : decode cX12_proof 128 = .ok (.goto 4, 3) := dc_167 0 4 4 (by decide +kernel)
theorem dX12_proof_36 : decode cX12_proof 36 = .ok (.iconst 1, 1) := dc_4 (by decide +kernel)
theorem dX12_proof_37 : decode cX12_proof 37 = .ok (.goto 4, 3) := dc_167 0 4 4 (by decide +kernel)
theorem dX12_proof_16 : decode cX12_proof 16 = .ok (.iconst (-1), 1) := dc_2 (by decide +kernel)
theorem dX12_proof_17 : decode cX12_proof 17 = .ok (.ireturn, 1) := dc_172 (by decide +kernel)
abbrev R_X12_proof : Room := { frames := 1, cells := 0, slots := 0, locals := 22 }
set_option maxRecDepth 100000 in
set_option maxHeartbeats 4000000 in
theorem s_X12_proof {l : Launch} {n0 : Nat} {D : va_G} {cA : Nat → ClassId} {M : gM} (a : Int) (r_a : -2147483648 ≤ a ∧ a ≤ 2147483647) (b : Int) (r_b : 0 ≤ b ∧ b ≤ 1) {sz : Nat} (hsz : 206 ≤ sz) (I : gI sz M) (C : gC sz M)   : Met l yX12_proof (gWsOf yX12_proof cX12_proof 5 (Option.some Jvm.ClassFile.FieldType.int)) R_X12_proof (gPc n0 D cA [gA n0 190, gJ a, gJ b] M sz) (gQi n0 D cA sz (fun z M1 => (-4 ≤ z ∧ z ≤ 80) ∧ gI sz M1 ∧ gC sz M1 ∧ gFr 464228105027827961792823296 M M1 ∧ ((((¬ (0 ≤ a ∧ a < M 191 2) ∧ z = -1) ∨ ((0 ≤ a ∧ a < M 191 2) ∧ pSt b a (M 191 3) M ∧ z = -3) ∨ ((0 ≤ a ∧ a < M 191 2) ∧ ¬ pSt b a (M 191 3) M ∧ M 191 3 = 80 ∧ z = -4)) ∧ pSameM M M1) ∨ (((0 ≤ a ∧ a < M 191 2) ∧ ¬ pSt b a (M 191 3) M ∧ M 191 3 < 80 ∧ z = M 191 3 + 1) ∧ M1 191 2 = M 191 2 ∧ M1 191 3 = M 191 3 + 1 ∧ (∀ k : Int, 256 ≤ k → k < 656 → ¬ k = M 191 3 + 496 → ¬ k = M 191 3 + 576 → M1 191 k = M 191 k) ∧ ((b = 1 ∧ M1 191 (M 191 3 + 496) = 1) ∨ (b = 0 ∧ M1 191 (M 191 3 + 496) = 2)) ∧ M1 191 (M 191 3 + 576) = a)))) 0 0 (fun q => n0 ≤ q) := by
  refine gMetI [gA n0 190, gJ a, gJ b] (by decide) (Nat.le_of_ble_eq_true rfl) ⟨rfl, rfl⟩ ?_
  intro p e s m args below meth cd Q X hq
  have X : gCx p s m args meth cd n0 D cA "ParishUnionModel" cX12_proof 5 := X
  show G p l e R_X12_proof s m args below meth cd n0 D cA 5 Q 0 0 M sz 0 [(0, gA n0 190), (1, gJ a), (2, gJ b)] []
  obtain ⟨v1, hv1, rv1⟩ := gRd I (by decide) (gsz hsz (by decide)) (rs_NR (k := 2) (by omega)).1
  obtain ⟨v2, hv2, rv2⟩ := gRd I (by decide) (gsz hsz (by decide)) (rs_NE (k := 3) (by omega)).1
  refine g_iload_n (n := 1) X 1 dX12_proof_0 rfl rfl rfl ?_
  refine g_iconst (n := 2) X dX12_proof_1 rfl ?_
  refine g_aload_n (n := 3) X 0 dX12_proof_2 rfl rfl rfl ?_
  refine gg_12_1 (n := 6) (z := 191) X (by decide) (gsz hsz (by decide)) lay_190 kw_6_27 dX12_proof_3 rfl (rf_190_1 I (gsz hsz (by decide))) (by decide) ?_
  refine g_iconst (n := 7) X dX12_proof_6 rfl ?_
  refine g_iald2 (n := 8) (v := v1) X (by decide) (gsz hsz (by decide)) lay_191 (by omega) (by omega) (by decide) dX12_proof_7 rfl hv1 ?_
  refine g_iconst (n := 9) X dX12_proof_8 rfl ?_
  refine g_isub (n := 10) (z := v1 - 1) X dX12_proof_9 (by omega) rfl ?_
  refine g_callSi (n := 13) (As := [gJ a, gJ 0, gJ (v1 - 1)]) (rest := []) (cs1 := 0) (ss1 := 0) X (s_X12_in a (by omega) 0 (by omega) (v1 - 1) (by omega) hsz I C ) okX12_in kw_6_106 kw_6_107 ⟨rfl, rfl⟩ ⟨Nat.le_of_ble_eq_true rfl, Nat.le_of_ble_eq_true rfl⟩ rfl rfl (Nat.le_of_ble_eq_true rfl) ⟨Nat.le_of_ble_eq_true rfl, Nat.le_of_ble_eq_true rfl⟩ rfl rfl dX12_proof_10 rfl (fun v3 M4 P5 => ?_)
  obtain ⟨rfl, rv3, xv3⟩ := P5
  refine g_if_ne (n := 16) (tgt := 18) X dX12_proof_13 (by decide) (by omega) rfl (fun c6 => ?_) (fun c6 => ?_)
  · refine g_iload_n (n := 19) X 2 dX12_proof_18 rfl rfl rfl ?_
    refine g_if_eq (n := 22) (tgt := 40) X dX12_proof_19 (by decide) (by omega) rfl (fun c7 => ?_) (fun c7 => ?_)
    · refine g_iconst (n := 41) X dX12_proof_40 rfl ?_
      refine g_istore_n (n := 42) (L' := [(3, gJ 0), (0, gA n0 190), (1, gJ a), (2, gJ b)]) X dX12_proof_41 rfl (by decide) rfl rfl ?_
      refine g_iconst (n := 43) X dX12_proof_42 rfl ?_
      refine g_istore (n := 45) (L' := [(4, gJ 0), (3, gJ 0), (0, gA n0 190), (1, gJ a), (2, gJ b)]) X dX12_proof_43 (by decide) rfl rfl ?_
      have j11 : ∀ (N144 : Nat) (v8 v9 : Int) , (0 ≤ v8 ∧ v8 ≤ 1) → (0 ≤ v9 ∧ v9 ≤ 80) → (((v8 = 1 ∧ pSt b a v9 M) ∨ (v8 = 0 ∧ ¬ pSt b a v9 M)) ∧ v9 ≤ M 191 3) → (80 - v9).toNat < N144 → G p l e R_X12_proof s m args below meth cd n0 D cA 5 Q 0 0 M sz 45 [(0, gA n0 190), (1, gJ a), (2, gJ b), (3, gJ v8), (4, gJ v9)] [] := by
        intro N144; induction N144 with
        | zero => intro v8 v9 rv8 rv9 hp5 hm146; exfalso; omega
        | succ N144 ih145 =>
          intro v8 v9 rv8 rv9 hp5 hm146
          refine g_iload (n := 47) X 4 dX12_proof_45 rfl rfl ?_
          refine g_aload_n (n := 48) X 0 dX12_proof_47 rfl rfl rfl ?_
          refine gg_12_1 (n := 51) (z := 191) X (by decide) (gsz hsz (by decide)) lay_190 kw_6_27 dX12_proof_48 rfl (rf_190_1 I (gsz hsz (by decide))) (by decide) ?_
          refine g_iconst (n := 52) X dX12_proof_51 rfl ?_
          refine g_iald2 (n := 53) (v := v2) X (by decide) (gsz hsz (by decide)) lay_191 (by omega) (by omega) (by decide) dX12_proof_52 rfl hv2 ?_
          refine g_icmp_ge (n := 56) (tgt := 101) X dX12_proof_53 (by decide) (by omega) (by omega) rfl (fun c147 => ?_) (fun c147 => ?_)
          · have hst : (v8 = 1 ∧ pSt b a (M 191 3) M) ∨ (v8 = 0 ∧ ¬ pSt b a (M 191 3) M) := by
              have e : v9 = M 191 3 := by have q := hv2; have q2 := hp5.2; omega
              rw [← e]; exact hp5.1
            refine g_iload_n (n := 102) X 3 dX12_proof_101 rfl rfl rfl ?_
            refine g_if_eq (n := 105) (tgt := 108) X dX12_proof_102 (by decide) (by omega) rfl (fun c148 => ?_) (fun c148 => ?_)
            · refine g_aload_n (n := 109) X 0 dX12_proof_108 rfl rfl rfl ?_
              refine gg_12_1 (n := 112) (z := 191) X (by decide) (gsz hsz (by decide)) lay_190 kw_6_27 dX12_proof_109 rfl (rf_190_1 I (gsz hsz (by decide))) (by decide) ?_
              refine g_iconst (n := 113) X dX12_proof_112 rfl ?_
              refine g_iald2 (n := 114) (v := v2) X (by decide) (gsz hsz (by decide)) lay_191 (by omega) (by omega) (by decide) dX12_proof_113 rfl hv2 ?_
              refine g_bipush (n := 116) X dX12_proof_114 (by decide +kernel) rfl ?_
              refine g_icmp_ne (n := 119) (tgt := 122) X dX12_proof_116 (by decide) (by omega) (by omega) rfl (fun c149 => ?_) (fun c149 => ?_)
              · refine g_aload_n (n := 123) X 0 dX12_proof_122 rfl rfl rfl ?_
                refine g_iload_n (n := 124) X 2 dX12_proof_123 rfl rfl rfl ?_
                refine g_if_eq (n := 127) (tgt := 131) X dX12_proof_124 (by decide) (by omega) rfl (fun c150 => ?_) (fun c150 => by exfalso; omega)
                refine g_iconst (n := 132) X dX12_proof_131 rfl ?_
                refine g_iload_n (n := 133) X 1 dX12_proof_132 rfl rfl rfl ?_
                refine g_callVv (n := 136) (As := [gJ 2, gJ a]) (rest := []) (cs1 := 0) (ss1 := 0) X (s_X12_enter 2 (by omega) a (by omega) hsz I C (by have := hv2; omega)) okX12_enter kw_6_145 ⟨kw_6_147, kw_0_43⟩ ⟨rfl, rfl⟩ ⟨Nat.le_of_ble_eq_true rfl, Nat.le_of_ble_eq_true rfl⟩ rfl (by decide) (gsz hsz (by decide)) lay_190 rfl rfl (Nat.le_of_ble_eq_true rfl) ⟨Nat.le_of_ble_eq_true rfl, Nat.le_of_ble_eq_true rfl⟩ rfl rfl dX12_proof_133 rfl (fun M152 P153 => ?_)
                obtain ⟨IM152, CM152, FM152, xM152⟩ := P153
                refine g_aload_n (n := 137) X 0 dX12_proof_136 rfl rfl rfl ?_
                refine gg_12_1 (n := 140) (z := 191) X (by decide) (gsz hsz (by decide)) lay_190 kw_6_27 dX12_proof_137 rfl (rf_190_1 IM152 (gsz hsz (by decide))) (by decide) ?_
                refine g_iconst (n := 141) X dX12_proof_140 rfl ?_
                refine g_iald2 (n := 142) (v := v2 + 1) X (by decide) (gsz hsz (by decide)) lay_191 (by omega) (by omega) (by decide) dX12_proof_141 rfl (show M152 191 3 = v2 + 1 from xM152.1.trans (by have q := hv2; omega)) ?_
                exact hq _ _ _ _ dX12_proof_142 ⟨by omega, IM152, CM152, (gFr.c gFr.rf FM152 rfl), Or.inr ⟨⟨by omega, (hst.resolve_left (fun q => absurd q.1 (by omega))).2, by omega, by omega⟩, (((gFr.at FM152 (rs_NR (k := 2) (by omega)).2.2 rfl).trans hv1).trans hv1.symm), (by have q := (show M152 191 3 = v2 + 1 from xM152.1.trans (by have q := hv2; omega)); omega), (fun k h0 h1 g1 g2 => (xM152.2.2.2 k (by have q := hv2; omega) (by have q := hv2; omega) (by have q := hv2; omega))), (by first | exact Or.inl ⟨by omega, (by rw [hv2]; exact (show M152 191 (v2 + 496) = 2 from by have q := xM152.2.1; rw [hv2] at q; exact q))⟩ | exact Or.inr ⟨by omega, (by rw [hv2]; exact (show M152 191 (v2 + 496) = 2 from by have q := xM152.2.1; rw [hv2] at q; exact q))⟩), (by rw [hv2]; exact (show M152 191 (v2 + 576) = a from by have q := xM152.2.2.1; rw [hv2] at q; exact q))⟩⟩
              · refine g_bipush (n := 121) X dX12_proof_119 (by decide +kernel) rfl ?_
                exact hq _ _ _ _ dX12_proof_121 ⟨by omega, I, C, gFr.rf, Or.inl ⟨(by first | exact Or.inl ⟨by omega, by omega⟩ | exact Or.inr (Or.inl ⟨by omega, (hst.resolve_right (fun q => absurd q.1 (by omega))).2, by omega⟩) | exact Or.inr (Or.inr ⟨by omega, (hst.resolve_left (fun q => absurd q.1 (by omega))).2, by omega, by omega⟩)), pSameM.rf⟩⟩
            · refine g_bipush (n := 107) X dX12_proof_105 (by decide +kernel) rfl ?_
              exact hq _ _ _ _ dX12_proof_107 ⟨by omega, I, C, gFr.rf, Or.inl ⟨(by first | exact Or.inl ⟨by omega, by omega⟩ | exact Or.inr (Or.inl ⟨by omega, (hst.resolve_right (fun q => absurd q.1 (by omega))).2, by omega⟩) | exact Or.inr (Or.inr ⟨by omega, (hst.resolve_left (fun q => absurd q.1 (by omega))).2, by omega, by omega⟩)), pSameM.rf⟩⟩
          · refine g_iload_n (n := 57) X 3 dX12_proof_56 rfl rfl rfl ?_
            refine g_if_ne (n := 60) (tgt := 89) X dX12_proof_57 (by decide) (by omega) rfl (fun c154 => ?_) (fun c154 => ?_)
            · refine g_iconst (n := 90) X dX12_proof_89 rfl ?_
              refine g_goto (tgt := 94) X dX12_proof_90 (by decide) ?_
              refine g_istore_n (n := 95) (L' := [(3, gJ 1), (0, gA n0 190), (1, gJ a), (2, gJ b), (4, gJ v9)]) X dX12_proof_94 rfl (by decide) rfl rfl ?_
              refine g_iinc (n := 98) (w := v9 + 1) (L' := [(4, gJ (v9 + 1)), (3, gJ 1), (0, gA n0 190), (1, gJ a), (2, gJ b)]) X 4 dX12_proof_95 rfl rfl (by decide) rfl rfl ?_
              refine g_goto (tgt := 45) X dX12_proof_98 (by decide) ?_
              refine G.sub (L' := [(0, gA n0 190), (1, gJ a), (2, gJ b), (3, gJ 1), (4, gJ (v9 + 1))]) [2, 3, 4, 1, 0] rfl ?_
              exact ih145 1 (v9 + 1) (by omega) (by omega) ⟨(by first | exact Or.inl ⟨by omega, pSt.s1 (hp5.1.resolve_right (fun q => absurd q.1 (by omega))).2⟩ | exact Or.inl ⟨by omega, pSt.s2 (by omega) (by omega) (by omega)⟩ | exact Or.inr ⟨by omega, pSt.s3 (hp5.1.resolve_left (fun q => absurd q.1 (by omega))).2 (by omega)⟩), (by have q := hv2; omega)⟩ (by omega)
            · refine g_aload_n (n := 61) X 0 dX12_proof_60 rfl rfl rfl ?_
              refine gg_12_1 (n := 64) (z := 191) X (by decide) (gsz hsz (by decide)) lay_190 kw_6_27 dX12_proof_61 rfl (rf_190_1 I (gsz hsz (by decide))) (by decide) ?_
              refine g_sipush (n := 67) X dX12_proof_64 (by decide +kernel) rfl ?_
              refine g_iload (n := 69) X 4 dX12_proof_67 rfl rfl ?_
              refine g_iadd (n := 70) (z := v9 + 496) X dX12_proof_69 (by omega) rfl ?_
              obtain ⟨v155, hv155, rv155⟩ := gRd I (by decide) (gsz hsz (by decide)) (rs_EKIND (k := v9 + 496) (by omega)).1
              refine g_iald2 (n := 71) (v := v155) X (by decide) (gsz hsz (by decide)) lay_191 (by omega) (by omega) (by decide) dX12_proof_70 rfl hv155 ?_
              refine g_if_eq (n := 74) (tgt := 93) X dX12_proof_71 (by decide) (by omega) rfl (fun c156 => ?_) (fun c156 => ?_)
              · refine g_iconst (n := 94) X dX12_proof_93 rfl ?_
                refine g_istore_n (n := 95) (L' := [(3, gJ 0), (0, gA n0 190), (1, gJ a), (2, gJ b), (4, gJ v9)]) X dX12_proof_94 rfl (by decide) rfl rfl ?_
                refine g_iinc (n := 98) (w := v9 + 1) (L' := [(4, gJ (v9 + 1)), (3, gJ 0), (0, gA n0 190), (1, gJ a), (2, gJ b)]) X 4 dX12_proof_95 rfl rfl (by decide) rfl rfl ?_
                refine g_goto (tgt := 45) X dX12_proof_98 (by decide) ?_
                refine G.sub (L' := [(0, gA n0 190), (1, gJ a), (2, gJ b), (3, gJ 0), (4, gJ (v9 + 1))]) [2, 3, 4, 1, 0] rfl ?_
                exact ih145 0 (v9 + 1) (by omega) (by omega) ⟨(by first | exact Or.inl ⟨by omega, pSt.s1 (hp5.1.resolve_right (fun q => absurd q.1 (by omega))).2⟩ | exact Or.inl ⟨by omega, pSt.s2 (by omega) (by have q1 := hv155; omega) (by have q1 := hv155; omega)⟩ | exact Or.inr ⟨by omega, pSt.s3 (hp5.1.resolve_left (fun q => absurd q.1 (by omega))).2 (by have q1 := hv155; omega)⟩), (by have q := hv2; omega)⟩ (by omega)
              · refine g_aload_n (n := 75) X 0 dX12_proof_74 rfl rfl rfl ?_
                refine gg_12_1 (n := 78) (z := 191) X (by decide) (gsz hsz (by decide)) lay_190 kw_6_27 dX12_proof_75 rfl (rf_190_1 I (gsz hsz (by decide))) (by decide) ?_
                refine g_sipush (n := 81) X dX12_proof_78 (by decide +kernel) rfl ?_
                refine g_iload (n := 83) X 4 dX12_proof_81 rfl rfl ?_
                refine g_iadd (n := 84) (z := v9 + 576) X dX12_proof_83 (by omega) rfl ?_
                obtain ⟨v157, hv157, rv157⟩ := gRd I (by decide) (gsz hsz (by decide)) (rs_ERIGHT (k := v9 + 576) (by omega)).1
                refine g_iald2 (n := 85) (v := v157) X (by decide) (gsz hsz (by decide)) lay_191 (by omega) (by omega) (by decide) dX12_proof_84 rfl hv157 ?_
                refine g_iload_n (n := 86) X 1 dX12_proof_85 rfl rfl rfl ?_
                refine g_icmp_ne (n := 89) (tgt := 93) X dX12_proof_86 (by decide) (by omega) (by omega) rfl (fun c158 => ?_) (fun c158 => ?_)
                · refine g_iconst (n := 94) X dX12_proof_93 rfl ?_
                  refine g_istore_n (n := 95) (L' := [(3, gJ 0), (0, gA n0 190), (1, gJ a), (2, gJ b), (4, gJ v9)]) X dX12_proof_94 rfl (by decide) rfl rfl ?_
                  refine g_iinc (n := 98) (w := v9 + 1) (L' := [(4, gJ (v9 + 1)), (3, gJ 0), (0, gA n0 190), (1, gJ a), (2, gJ b)]) X 4 dX12_proof_95 rfl rfl (by decide) rfl rfl ?_
                  refine g_goto (tgt := 45) X dX12_proof_98 (by decide) ?_
                  refine G.sub (L' := [(0, gA n0 190), (1, gJ a), (2, gJ b), (3, gJ 0), (4, gJ (v9 + 1))]) [2, 3, 4, 1, 0] rfl ?_
                  exact ih145 0 (v9 + 1) (by omega) (by omega) ⟨(by first | exact Or.inl ⟨by omega, pSt.s1 (hp5.1.resolve_right (fun q => absurd q.1 (by omega))).2⟩ | exact Or.inl ⟨by omega, pSt.s2 (by omega) (by have q1 := hv155; have q2 := hv157; omega) (by have q1 := hv155; have q2 := hv157; omega)⟩ | exact Or.inr ⟨by omega, pSt.s3 (hp5.1.resolve_left (fun q => absurd q.1 (by omega))).2 (by have q1 := hv155; have q2 := hv157; omega)⟩), (by have q := hv2; omega)⟩ (by omega)
                · refine g_iconst (n := 90) X dX12_proof_89 rfl ?_
                  refine g_goto (tgt := 94) X dX12_proof_90 (by decide) ?_
                  refine g_istore_n (n := 95) (L' := [(3, gJ 1), (0, gA n0 190), (1, gJ a), (2, gJ b), (4, gJ v9)]) X dX12_proof_94 rfl (by decide) rfl rfl ?_
                  refine g_iinc (n := 98) (w := v9 + 1) (L' := [(4, gJ (v9 + 1)), (3, gJ 1), (0, gA n0 190), (1, gJ a), (2, gJ b)]) X 4 dX12_proof_95 rfl rfl (by decide) rfl rfl ?_
                  refine g_goto (tgt := 45) X dX12_proof_98 (by decide) ?_
                  refine G.sub (L' := [(0, gA n0 190), (1, gJ a), (2, gJ b), (3, gJ 1), (4, gJ (v9 + 1))]) [2, 3, 4, 1, 0] rfl ?_
                  exact ih145 1 (v9 + 1) (by omega) (by omega) ⟨(by first | exact Or.inl ⟨by omega, pSt.s1 (hp5.1.resolve_right (fun q => absurd q.1 (by omega))).2⟩ | exact Or.inl ⟨by omega, pSt.s2 (by omega) (by have q1 := hv155; have q2 := hv157; omega) (by have q1 := hv155; have q2 := hv157; omega)⟩ | exact Or.inr ⟨by omega, pSt.s3 (hp5.1.resolve_left (fun q => absurd q.1 (by omega))).2 (by have q1 := hv155; have q2 := hv157; omega)⟩), (by have q := hv2; omega)⟩ (by omega)
      refine G.sub (L' := [(0, gA n0 190), (1, gJ a), (2, gJ b), (3, gJ 0), (4, gJ 0)]) [2, 3, 4, 1, 0] rfl ?_
      exact j11 _ 0 0 (by omega) (by omega) ⟨Or.inr ⟨rfl, pSt.z0 (fun h => by omega)⟩, (by have q := hv2; omega)⟩ (Nat.lt_succ_self _)
    · refine g_aload_n (n := 23) X 0 dX12_proof_22 rfl rfl rfl ?_
      refine gg_12_1 (n := 26) (z := 191) X (by decide) (gsz hsz (by decide)) lay_190 kw_6_27 dX12_proof_23 rfl (rf_190_1 I (gsz hsz (by decide))) (by decide) ?_
      refine g_sipush (n := 29) X dX12_proof_26 (by decide +kernel) rfl ?_
      refine g_iload_n (n := 30) X 1 dX12_proof_29 rfl rfl rfl ?_
      refine g_iadd (n := 31) (z := a + 456) X dX12_proof_30 (by omega) rfl ?_
      obtain ⟨v159, hv159, rv159⟩ := gRd I (by decide) (gsz hsz (by decide)) (rs_RSURE (k := a + 456) (by omega)).1
      refine g_iald2 (n := 32) (v := v159) X (by decide) (gsz hsz (by decide)) lay_191 (by omega) (by omega) (by decide) dX12_proof_31 rfl hv159 ?_
      refine g_iconst (n := 33) X dX12_proof_32 rfl ?_
      refine g_icmp_ne (n := 36) (tgt := 40) X dX12_proof_33 (by decide) (by omega) (by omega) rfl (fun c160 => ?_) (fun c160 => ?_)
      · refine g_iconst (n := 41) X dX12_proof_40 rfl ?_
        refine g_istore_n (n := 42) (L' := [(3, gJ 0), (0, gA n0 190), (1, gJ a), (2, gJ b)]) X dX12_proof_41 rfl (by decide) rfl rfl ?_
        refine g_iconst (n := 43) X dX12_proof_42 rfl ?_
        refine g_istore (n := 45) (L' := [(4, gJ 0), (3, gJ 0), (0, gA n0 190), (1, gJ a), (2, gJ b)]) X dX12_proof_43 (by decide) rfl rfl ?_
        have j164 : ∀ (N297 : Nat) (v161 v162 : Int) , (0 ≤ v161 ∧ v161 ≤ 1) → (0 ≤ v162 ∧ v162 ≤ 80) → (((v161 = 1 ∧ pSt b a v162 M) ∨ (v161 = 0 ∧ ¬ pSt b a v162 M)) ∧ v162 ≤ M 191 3) → (80 - v162).toNat < N297 → G p l e R_X12_proof s m args below meth cd n0 D cA 5 Q 0 0 M sz 45 [(0, gA n0 190), (1, gJ a), (2, gJ b), (3, gJ v161), (4, gJ v162)] [] := by
          intro N297; induction N297 with
          | zero => intro v161 v162 rv161 rv162 hp5 hm299; exfalso; omega
          | succ N297 ih298 =>
            intro v161 v162 rv161 rv162 hp5 hm299
            refine g_iload (n := 47) X 4 dX12_proof_45 rfl rfl ?_
            refine g_aload_n (n := 48) X 0 dX12_proof_47 rfl rfl rfl ?_
            refine gg_12_1 (n := 51) (z := 191) X (by decide) (gsz hsz (by decide)) lay_190 kw_6_27 dX12_proof_48 rfl (rf_190_1 I (gsz hsz (by decide))) (by decide) ?_
            refine g_iconst (n := 52) X dX12_proof_51 rfl ?_
            refine g_iald2 (n := 53) (v := v2) X (by decide) (gsz hsz (by decide)) lay_191 (by omega) (by omega) (by decide) dX12_proof_52 rfl hv2 ?_
            refine g_icmp_ge (n := 56) (tgt := 101) X dX12_proof_53 (by decide) (by omega) (by omega) rfl (fun c300 => ?_) (fun c300 => ?_)
            · have hst : (v161 = 1 ∧ pSt b a (M 191 3) M) ∨ (v161 = 0 ∧ ¬ pSt b a (M 191 3) M) := by
                have e : v162 = M 191 3 := by have q := hv2; have q2 := hp5.2; omega
                rw [← e]; exact hp5.1
              refine g_iload_n (n := 102) X 3 dX12_proof_101 rfl rfl rfl ?_
              refine g_if_eq (n := 105) (tgt := 108) X dX12_proof_102 (by decide) (by omega) rfl (fun c301 => ?_) (fun c301 => ?_)
              · refine g_aload_n (n := 109) X 0 dX12_proof_108 rfl rfl rfl ?_
                refine gg_12_1 (n := 112) (z := 191) X (by decide) (gsz hsz (by decide)) lay_190 kw_6_27 dX12_proof_109 rfl (rf_190_1 I (gsz hsz (by decide))) (by decide) ?_
                refine g_iconst (n := 113) X dX12_proof_112 rfl ?_
                refine g_iald2 (n := 114) (v := v2) X (by decide) (gsz hsz (by decide)) lay_191 (by omega) (by omega) (by decide) dX12_proof_113 rfl hv2 ?_
                refine g_bipush (n := 116) X dX12_proof_114 (by decide +kernel) rfl ?_
                refine g_icmp_ne (n := 119) (tgt := 122) X dX12_proof_116 (by decide) (by omega) (by omega) rfl (fun c302 => ?_) (fun c302 => ?_)
                · refine g_aload_n (n := 123) X 0 dX12_proof_122 rfl rfl rfl ?_
                  refine g_iload_n (n := 124) X 2 dX12_proof_123 rfl rfl rfl ?_
                  refine g_if_eq (n := 127) (tgt := 131) X dX12_proof_124 (by decide) (by omega) rfl (fun c303 => by exfalso; omega) (fun c303 => ?_)
                  refine g_iconst (n := 128) X dX12_proof_127 rfl ?_
                  refine g_goto (tgt := 132) X dX12_proof_128 (by decide) ?_
                  refine g_iload_n (n := 133) X 1 dX12_proof_132 rfl rfl rfl ?_
                  refine g_callVv (n := 136) (As := [gJ 1, gJ a]) (rest := []) (cs1 := 0) (ss1 := 0) X (s_X12_enter 1 (by omega) a (by omega) hsz I C (by have := hv2; omega)) okX12_enter kw_6_145 ⟨kw_6_147, kw_0_43⟩ ⟨rfl, rfl⟩ ⟨Nat.le_of_ble_eq_true rfl, Nat.le_of_ble_eq_true rfl⟩ rfl (by decide) (gsz hsz (by decide)) lay_190 rfl rfl (Nat.le_of_ble_eq_true rfl) ⟨Nat.le_of_ble_eq_true rfl, Nat.le_of_ble_eq_true rfl⟩ rfl rfl dX12_proof_133 rfl (fun M305 P306 => ?_)
                  obtain ⟨IM305, CM305, FM305, xM305⟩ := P306
                  refine g_aload_n (n := 137) X 0 dX12_proof_136 rfl rfl rfl ?_
                  refine gg_12_1 (n := 140) (z := 191) X (by decide) (gsz hsz (by decide)) lay_190 kw_6_27 dX12_proof_137 rfl (rf_190_1 IM305 (gsz hsz (by decide))) (by decide) ?_
                  refine g_iconst (n := 141) X dX12_proof_140 rfl ?_
                  refine g_iald2 (n := 142) (v := v2 + 1) X (by decide) (gsz hsz (by decide)) lay_191 (by omega) (by omega) (by decide) dX12_proof_141 rfl (show M305 191 3 = v2 + 1 from xM305.1.trans (by have q := hv2; omega)) ?_
                  exact hq _ _ _ _ dX12_proof_142 ⟨by omega, IM305, CM305, (gFr.c gFr.rf FM305 rfl), Or.inr ⟨⟨by omega, (hst.resolve_left (fun q => absurd q.1 (by omega))).2, by omega, by omega⟩, (((gFr.at FM305 (rs_NR (k := 2) (by omega)).2.2 rfl).trans hv1).trans hv1.symm), (by have q := (show M305 191 3 = v2 + 1 from xM305.1.trans (by have q := hv2; omega)); omega), (fun k h0 h1 g1 g2 => (xM305.2.2.2 k (by have q := hv2; omega) (by have q := hv2; omega) (by have q := hv2; omega))), (by first | exact Or.inl ⟨by omega, (by rw [hv2]; exact (show M305 191 (v2 + 496) = 1 from by have q := xM305.2.1; rw [hv2] at q; exact q))⟩ | exact Or.inr ⟨by omega, (by rw [hv2]; exact (show M305 191 (v2 + 496) = 1 from by have q := xM305.2.1; rw [hv2] at q; exact q))⟩), (by rw [hv2]; exact (show M305 191 (v2 + 576) = a from by have q := xM305.2.2.1; rw [hv2] at q; exact q))⟩⟩
                · refine g_bipush (n := 121) X dX12_proof_119 (by decide +kernel) rfl ?_
                  exact hq _ _ _ _ dX12_proof_121 ⟨by omega, I, C, gFr.rf, Or.inl ⟨(by first | exact Or.inl ⟨by omega, by omega⟩ | exact Or.inr (Or.inl ⟨by omega, (hst.resolve_right (fun q => absurd q.1 (by omega))).2, by omega⟩) | exact Or.inr (Or.inr ⟨by omega, (hst.resolve_left (fun q => absurd q.1 (by omega))).2, by omega, by omega⟩)), pSameM.rf⟩⟩
              · refine g_bipush (n := 107) X dX12_proof_105 (by decide +kernel) rfl ?_
                exact hq _ _ _ _ dX12_proof_107 ⟨by omega, I, C, gFr.rf, Or.inl ⟨(by first | exact Or.inl ⟨by omega, by omega⟩ | exact Or.inr (Or.inl ⟨by omega, (hst.resolve_right (fun q => absurd q.1 (by omega))).2, by omega⟩) | exact Or.inr (Or.inr ⟨by omega, (hst.resolve_left (fun q => absurd q.1 (by omega))).2, by omega, by omega⟩)), pSameM.rf⟩⟩
            · refine g_iload_n (n := 57) X 3 dX12_proof_56 rfl rfl rfl ?_
              refine g_if_ne (n := 60) (tgt := 89) X dX12_proof_57 (by decide) (by omega) rfl (fun c307 => ?_) (fun c307 => ?_)
              · refine g_iconst (n := 90) X dX12_proof_89 rfl ?_
                refine g_goto (tgt := 94) X dX12_proof_90 (by decide) ?_
                refine g_istore_n (n := 95) (L' := [(3, gJ 1), (0, gA n0 190), (1, gJ a), (2, gJ b), (4, gJ v162)]) X dX12_proof_94 rfl (by decide) rfl rfl ?_
                refine g_iinc (n := 98) (w := v162 + 1) (L' := [(4, gJ (v162 + 1)), (3, gJ 1), (0, gA n0 190), (1, gJ a), (2, gJ b)]) X 4 dX12_proof_95 rfl rfl (by decide) rfl rfl ?_
                refine g_goto (tgt := 45) X dX12_proof_98 (by decide) ?_
                refine G.sub (L' := [(0, gA n0 190), (1, gJ a), (2, gJ b), (3, gJ 1), (4, gJ (v162 + 1))]) [2, 3, 4, 1, 0] rfl ?_
                exact ih298 1 (v162 + 1) (by omega) (by omega) ⟨(by first | exact Or.inl ⟨by omega, pSt.s1 (hp5.1.resolve_right (fun q => absurd q.1 (by omega))).2⟩ | exact Or.inl ⟨by omega, pSt.s2 (by omega) (by omega) (by omega)⟩ | exact Or.inr ⟨by omega, pSt.s3 (hp5.1.resolve_left (fun q => absurd q.1 (by omega))).2 (by omega)⟩), (by have q := hv2; omega)⟩ (by omega)
              · refine g_aload_n (n := 61) X 0 dX12_proof_60 rfl rfl rfl ?_
                refine gg_12_1 (n := 64) (z := 191) X (by decide) (gsz hsz (by decide)) lay_190 kw_6_27 dX12_proof_61 rfl (rf_190_1 I (gsz hsz (by decide))) (by decide) ?_
                refine g_sipush (n := 67) X dX12_proof_64 (by decide +kernel) rfl ?_
                refine g_iload (n := 69) X 4 dX12_proof_67 rfl rfl ?_
                refine g_iadd (n := 70) (z := v162 + 496) X dX12_proof_69 (by omega) rfl ?_
                obtain ⟨v308, hv308, rv308⟩ := gRd I (by decide) (gsz hsz (by decide)) (rs_EKIND (k := v162 + 496) (by omega)).1
                refine g_iald2 (n := 71) (v := v308) X (by decide) (gsz hsz (by decide)) lay_191 (by omega) (by omega) (by decide) dX12_proof_70 rfl hv308 ?_
                refine g_if_eq (n := 74) (tgt := 93) X dX12_proof_71 (by decide) (by omega) rfl (fun c309 => ?_) (fun c309 => ?_)
                · refine g_iconst (n := 94) X dX12_proof_93 rfl ?_
                  refine g_istore_n (n := 95) (L' := [(3, gJ 0), (0, gA n0 190), (1, gJ a), (2, gJ b), (4, gJ v162)]) X dX12_proof_94 rfl (by decide) rfl rfl ?_
                  refine g_iinc (n := 98) (w := v162 + 1) (L' := [(4, gJ (v162 + 1)), (3, gJ 0), (0, gA n0 190), (1, gJ a), (2, gJ b)]) X 4 dX12_proof_95 rfl rfl (by decide) rfl rfl ?_
                  refine g_goto (tgt := 45) X dX12_proof_98 (by decide) ?_
                  refine G.sub (L' := [(0, gA n0 190), (1, gJ a), (2, gJ b), (3, gJ 0), (4, gJ (v162 + 1))]) [2, 3, 4, 1, 0] rfl ?_
                  exact ih298 0 (v162 + 1) (by omega) (by omega) ⟨(by first | exact Or.inl ⟨by omega, pSt.s1 (hp5.1.resolve_right (fun q => absurd q.1 (by omega))).2⟩ | exact Or.inl ⟨by omega, pSt.s2 (by omega) (by have q1 := hv308; omega) (by have q1 := hv308; omega)⟩ | exact Or.inr ⟨by omega, pSt.s3 (hp5.1.resolve_left (fun q => absurd q.1 (by omega))).2 (by have q1 := hv308; omega)⟩), (by have q := hv2; omega)⟩ (by omega)
                · refine g_aload_n (n := 75) X 0 dX12_proof_74 rfl rfl rfl ?_
                  refine gg_12_1 (n := 78) (z := 191) X (by decide) (gsz hsz (by decide)) lay_190 kw_6_27 dX12_proof_75 rfl (rf_190_1 I (gsz hsz (by decide))) (by decide) ?_
                  refine g_sipush (n := 81) X dX12_proof_78 (by decide +kernel) rfl ?_
                  refine g_iload (n := 83) X 4 dX12_proof_81 rfl rfl ?_
                  refine g_iadd (n := 84) (z := v162 + 576) X dX12_proof_83 (by omega) rfl ?_
                  obtain ⟨v310, hv310, rv310⟩ := gRd I (by decide) (gsz hsz (by decide)) (rs_ERIGHT (k := v162 + 576) (by omega)).1
                  refine g_iald2 (n := 85) (v := v310) X (by decide) (gsz hsz (by decide)) lay_191 (by omega) (by omega) (by decide) dX12_proof_84 rfl hv310 ?_
                  refine g_iload_n (n := 86) X 1 dX12_proof_85 rfl rfl rfl ?_
                  refine g_icmp_ne (n := 89) (tgt := 93) X dX12_proof_86 (by decide) (by omega) (by omega) rfl (fun c311 => ?_) (fun c311 => ?_)
                  · refine g_iconst (n := 94) X dX12_proof_93 rfl ?_
                    refine g_istore_n (n := 95) (L' := [(3, gJ 0), (0, gA n0 190), (1, gJ a), (2, gJ b), (4, gJ v162)]) X dX12_proof_94 rfl (by decide) rfl rfl ?_
                    refine g_iinc (n := 98) (w := v162 + 1) (L' := [(4, gJ (v162 + 1)), (3, gJ 0), (0, gA n0 190), (1, gJ a), (2, gJ b)]) X 4 dX12_proof_95 rfl rfl (by decide) rfl rfl ?_
                    refine g_goto (tgt := 45) X dX12_proof_98 (by decide) ?_
                    refine G.sub (L' := [(0, gA n0 190), (1, gJ a), (2, gJ b), (3, gJ 0), (4, gJ (v162 + 1))]) [2, 3, 4, 1, 0] rfl ?_
                    exact ih298 0 (v162 + 1) (by omega) (by omega) ⟨(by first | exact Or.inl ⟨by omega, pSt.s1 (hp5.1.resolve_right (fun q => absurd q.1 (by omega))).2⟩ | exact Or.inl ⟨by omega, pSt.s2 (by omega) (by have q1 := hv308; have q2 := hv310; omega) (by have q1 := hv308; have q2 := hv310; omega)⟩ | exact Or.inr ⟨by omega, pSt.s3 (hp5.1.resolve_left (fun q => absurd q.1 (by omega))).2 (by have q1 := hv308; have q2 := hv310; omega)⟩), (by have q := hv2; omega)⟩ (by omega)
                  · refine g_iconst (n := 90) X dX12_proof_89 rfl ?_
                    refine g_goto (tgt := 94) X dX12_proof_90 (by decide) ?_
                    refine g_istore_n (n := 95) (L' := [(3, gJ 1), (0, gA n0 190), (1, gJ a), (2, gJ b), (4, gJ v162)]) X dX12_proof_94 rfl (by decide) rfl rfl ?_
                    refine g_iinc (n := 98) (w := v162 + 1) (L' := [(4, gJ (v162 + 1)), (3, gJ 1), (0, gA n0 190), (1, gJ a), (2, gJ b)]) X 4 dX12_proof_95 rfl rfl (by decide) rfl rfl ?_
                    refine g_goto (tgt := 45) X dX12_proof_98 (by decide) ?_
                    refine G.sub (L' := [(0, gA n0 190), (1, gJ a), (2, gJ b), (3, gJ 1), (4, gJ (v162 + 1))]) [2, 3, 4, 1, 0] rfl ?_
                    exact ih298 1 (v162 + 1) (by omega) (by omega) ⟨(by first | exact Or.inl ⟨by omega, pSt.s1 (hp5.1.resolve_right (fun q => absurd q.1 (by omega))).2⟩ | exact Or.inl ⟨by omega, pSt.s2 (by omega) (by have q1 := hv308; have q2 := hv310; omega) (by have q1 := hv308; have q2 := hv310; omega)⟩ | exact Or.inr ⟨by omega, pSt.s3 (hp5.1.resolve_left (fun q => absurd q.1 (by omega))).2 (by have q1 := hv308; have q2 := hv310; omega)⟩), (by have q := hv2; omega)⟩ (by omega)
        refine G.sub (L' := [(0, gA n0 190), (1, gJ a), (2, gJ b), (3, gJ 0), (4, gJ 0)]) [2, 3, 4, 1, 0] rfl ?_
        exact j164 _ 0 0 (by omega) (by omega) ⟨Or.inr ⟨rfl, pSt.z0 (fun h => by have q := hv159; omega)⟩, (by have q := hv2; omega)⟩ (Nat.lt_succ_self _)
      · refine g_iconst (n := 37) X dX12_proof_36 rfl ?_
        refine g_goto (tgt := 41) X dX12_proof_37 (by decide) ?_
        refine g_istore_n (n := 42) (L' := [(3, gJ 1), (0, gA n0 190), (1, gJ a), (2, gJ b)]) X dX12_proof_41 rfl (by decide) rfl rfl ?_
        refine g_iconst (n := 43) X dX12_proof_42 rfl ?_
        refine g_istore (n := 45) (L' := [(4, gJ 0), (3, gJ 1), (0, gA n0 190), (1, gJ a), (2, gJ b)]) X dX12_proof_43 (by decide) rfl rfl ?_
        have j315 : ∀ (N448 : Nat) (v312 v313 : Int) , (0 ≤ v312 ∧ v312 ≤ 1) → (0 ≤ v313 ∧ v313 ≤ 80) → (((v312 = 1 ∧ pSt b a v313 M) ∨ (v312 = 0 ∧ ¬ pSt b a v313 M)) ∧ v313 ≤ M 191 3) → (80 - v313).toNat < N448 → G p l e R_X12_proof s m args below meth cd n0 D cA 5 Q 0 0 M sz 45 [(0, gA n0 190), (1, gJ a), (2, gJ b), (3, gJ v312), (4, gJ v313)] [] := by
          intro N448; induction N448 with
          | zero => intro v312 v313 rv312 rv313 hp5 hm450; exfalso; omega
          | succ N448 ih449 =>
            intro v312 v313 rv312 rv313 hp5 hm450
            refine g_iload (n := 47) X 4 dX12_proof_45 rfl rfl ?_
            refine g_aload_n (n := 48) X 0 dX12_proof_47 rfl rfl rfl ?_
            refine gg_12_1 (n := 51) (z := 191) X (by decide) (gsz hsz (by decide)) lay_190 kw_6_27 dX12_proof_48 rfl (rf_190_1 I (gsz hsz (by decide))) (by decide) ?_
            refine g_iconst (n := 52) X dX12_proof_51 rfl ?_
            refine g_iald2 (n := 53) (v := v2) X (by decide) (gsz hsz (by decide)) lay_191 (by omega) (by omega) (by decide) dX12_proof_52 rfl hv2 ?_
            refine g_icmp_ge (n := 56) (tgt := 101) X dX12_proof_53 (by decide) (by omega) (by omega) rfl (fun c451 => ?_) (fun c451 => ?_)
            · have hst : (v312 = 1 ∧ pSt b a (M 191 3) M) ∨ (v312 = 0 ∧ ¬ pSt b a (M 191 3) M) := by
                have e : v313 = M 191 3 := by have q := hv2; have q2 := hp5.2; omega
                rw [← e]; exact hp5.1
              refine g_iload_n (n := 102) X 3 dX12_proof_101 rfl rfl rfl ?_
              refine g_if_eq (n := 105) (tgt := 108) X dX12_proof_102 (by decide) (by omega) rfl (fun c452 => ?_) (fun c452 => ?_)
              · refine g_aload_n (n := 109) X 0 dX12_proof_108 rfl rfl rfl ?_
                refine gg_12_1 (n := 112) (z := 191) X (by decide) (gsz hsz (by decide)) lay_190 kw_6_27 dX12_proof_109 rfl (rf_190_1 I (gsz hsz (by decide))) (by decide) ?_
                refine g_iconst (n := 113) X dX12_proof_112 rfl ?_
                refine g_iald2 (n := 114) (v := v2) X (by decide) (gsz hsz (by decide)) lay_191 (by omega) (by omega) (by decide) dX12_proof_113 rfl hv2 ?_
                refine g_bipush (n := 116) X dX12_proof_114 (by decide +kernel) rfl ?_
                refine g_icmp_ne (n := 119) (tgt := 122) X dX12_proof_116 (by decide) (by omega) (by omega) rfl (fun c453 => ?_) (fun c453 => ?_)
                · refine g_aload_n (n := 123) X 0 dX12_proof_122 rfl rfl rfl ?_
                  refine g_iload_n (n := 124) X 2 dX12_proof_123 rfl rfl rfl ?_
                  refine g_if_eq (n := 127) (tgt := 131) X dX12_proof_124 (by decide) (by omega) rfl (fun c454 => by exfalso; omega) (fun c454 => ?_)
                  refine g_iconst (n := 128) X dX12_proof_127 rfl ?_
                  refine g_goto (tgt := 132) X dX12_proof_128 (by decide) ?_
                  refine g_iload_n (n := 133) X 1 dX12_proof_132 rfl rfl rfl ?_
                  refine g_callVv (n := 136) (As := [gJ 1, gJ a]) (rest := []) (cs1 := 0) (ss1 := 0) X (s_X12_enter 1 (by omega) a (by omega) hsz I C (by have := hv2; omega)) okX12_enter kw_6_145 ⟨kw_6_147, kw_0_43⟩ ⟨rfl, rfl⟩ ⟨Nat.le_of_ble_eq_true rfl, Nat.le_of_ble_eq_true rfl⟩ rfl (by decide) (gsz hsz (by decide)) lay_190 rfl rfl (Nat.le_of_ble_eq_true rfl) ⟨Nat.le_of_ble_eq_true rfl, Nat.le_of_ble_eq_true rfl⟩ rfl rfl dX12_proof_133 rfl (fun M456 P457 => ?_)
                  obtain ⟨IM456, CM456, FM456, xM456⟩ := P457
                  refine g_aload_n (n := 137) X 0 dX12_proof_136 rfl rfl rfl ?_
                  refine gg_12_1 (n := 140) (z := 191) X (by decide) (gsz hsz (by decide)) lay_190 kw_6_27 dX12_proof_137 rfl (rf_190_1 IM456 (gsz hsz (by decide))) (by decide) ?_
                  refine g_iconst (n := 141) X dX12_proof_140 rfl ?_
                  refine g_iald2 (n := 142) (v := v2 + 1) X (by decide) (gsz hsz (by decide)) lay_191 (by omega) (by omega) (by decide) dX12_proof_141 rfl (show M456 191 3 = v2 + 1 from xM456.1.trans (by have q := hv2; omega)) ?_
                  exact hq _ _ _ _ dX12_proof_142 ⟨by omega, IM456, CM456, (gFr.c gFr.rf FM456 rfl), Or.inr ⟨⟨by omega, (hst.resolve_left (fun q => absurd q.1 (by omega))).2, by omega, by omega⟩, (((gFr.at FM456 (rs_NR (k := 2) (by omega)).2.2 rfl).trans hv1).trans hv1.symm), (by have q := (show M456 191 3 = v2 + 1 from xM456.1.trans (by have q := hv2; omega)); omega), (fun k h0 h1 g1 g2 => (xM456.2.2.2 k (by have q := hv2; omega) (by have q := hv2; omega) (by have q := hv2; omega))), (by first | exact Or.inl ⟨by omega, (by rw [hv2]; exact (show M456 191 (v2 + 496) = 1 from by have q := xM456.2.1; rw [hv2] at q; exact q))⟩ | exact Or.inr ⟨by omega, (by rw [hv2]; exact (show M456 191 (v2 + 496) = 1 from by have q := xM456.2.1; rw [hv2] at q; exact q))⟩), (by rw [hv2]; exact (show M456 191 (v2 + 576) = a from by have q := xM456.2.2.1; rw [hv2] at q; exact q))⟩⟩
                · refine g_bipush (n := 121) X dX12_proof_119 (by decide +kernel) rfl ?_
                  exact hq _ _ _ _ dX12_proof_121 ⟨by omega, I, C, gFr.rf, Or.inl ⟨(by first | exact Or.inl ⟨by omega, by omega⟩ | exact Or.inr (Or.inl ⟨by omega, (hst.resolve_right (fun q => absurd q.1 (by omega))).2, by omega⟩) | exact Or.inr (Or.inr ⟨by omega, (hst.resolve_left (fun q => absurd q.1 (by omega))).2, by omega, by omega⟩)), pSameM.rf⟩⟩
              · refine g_bipush (n := 107) X dX12_proof_105 (by decide +kernel) rfl ?_
                exact hq _ _ _ _ dX12_proof_107 ⟨by omega, I, C, gFr.rf, Or.inl ⟨(by first | exact Or.inl ⟨by omega, by omega⟩ | exact Or.inr (Or.inl ⟨by omega, (hst.resolve_right (fun q => absurd q.1 (by omega))).2, by omega⟩) | exact Or.inr (Or.inr ⟨by omega, (hst.resolve_left (fun q => absurd q.1 (by omega))).2, by omega, by omega⟩)), pSameM.rf⟩⟩
            · refine g_iload_n (n := 57) X 3 dX12_proof_56 rfl rfl rfl ?_
              refine g_if_ne (n := 60) (tgt := 89) X dX12_proof_57 (by decide) (by omega) rfl (fun c458 => ?_) (fun c458 => ?_)
              · refine g_iconst (n := 90) X dX12_proof_89 rfl ?_
                refine g_goto (tgt := 94) X dX12_proof_90 (by decide) ?_
                refine g_istore_n (n := 95) (L' := [(3, gJ 1), (0, gA n0 190), (1, gJ a), (2, gJ b), (4, gJ v313)]) X dX12_proof_94 rfl (by decide) rfl rfl ?_
                refine g_iinc (n := 98) (w := v313 + 1) (L' := [(4, gJ (v313 + 1)), (3, gJ 1), (0, gA n0 190), (1, gJ a), (2, gJ b)]) X 4 dX12_proof_95 rfl rfl (by decide) rfl rfl ?_
                refine g_goto (tgt := 45) X dX12_proof_98 (by decide) ?_
                refine G.sub (L' := [(0, gA n0 190), (1, gJ a), (2, gJ b), (3, gJ 1), (4, gJ (v313 + 1))]) [2, 3, 4, 1, 0] rfl ?_
                exact ih449 1 (v313 + 1) (by omega) (by omega) ⟨(by first | exact Or.inl ⟨by omega, pSt.s1 (hp5.1.resolve_right (fun q => absurd q.1 (by omega))).2⟩ | exact Or.inl ⟨by omega, pSt.s2 (by omega) (by omega) (by omega)⟩ | exact Or.inr ⟨by omega, pSt.s3 (hp5.1.resolve_left (fun q => absurd q.1 (by omega))).2 (by omega)⟩), (by have q := hv2; omega)⟩ (by omega)
              · refine g_aload_n (n := 61) X 0 dX12_proof_60 rfl rfl rfl ?_
                refine gg_12_1 (n := 64) (z := 191) X (by decide) (gsz hsz (by decide)) lay_190 kw_6_27 dX12_proof_61 rfl (rf_190_1 I (gsz hsz (by decide))) (by decide) ?_
                refine g_sipush (n := 67) X dX12_proof_64 (by decide +kernel) rfl ?_
                refine g_iload (n := 69) X 4 dX12_proof_67 rfl rfl ?_
                refine g_iadd (n := 70) (z := v313 + 496) X dX12_proof_69 (by omega) rfl ?_
                obtain ⟨v459, hv459, rv459⟩ := gRd I (by decide) (gsz hsz (by decide)) (rs_EKIND (k := v313 + 496) (by omega)).1
                refine g_iald2 (n := 71) (v := v459) X (by decide) (gsz hsz (by decide)) lay_191 (by omega) (by omega) (by decide) dX12_proof_70 rfl hv459 ?_
                refine g_if_eq (n := 74) (tgt := 93) X dX12_proof_71 (by decide) (by omega) rfl (fun c460 => ?_) (fun c460 => ?_)
                · refine g_iconst (n := 94) X dX12_proof_93 rfl ?_
                  refine g_istore_n (n := 95) (L' := [(3, gJ 0), (0, gA n0 190), (1, gJ a), (2, gJ b), (4, gJ v313)]) X dX12_proof_94 rfl (by decide) rfl rfl ?_
                  refine g_iinc (n := 98) (w := v313 + 1) (L' := [(4, gJ (v313 + 1)), (3, gJ 0), (0, gA n0 190), (1, gJ a), (2, gJ b)]) X 4 dX12_proof_95 rfl rfl (by decide) rfl rfl ?_
                  refine g_goto (tgt := 45) X dX12_proof_98 (by decide) ?_
                  refine G.sub (L' := [(0, gA n0 190), (1, gJ a), (2, gJ b), (3, gJ 0), (4, gJ (v313 + 1))]) [2, 3, 4, 1, 0] rfl ?_
                  exact ih449 0 (v313 + 1) (by omega) (by omega) ⟨(by first | exact Or.inl ⟨by omega, pSt.s1 (hp5.1.resolve_right (fun q => absurd q.1 (by omega))).2⟩ | exact Or.inl ⟨by omega, pSt.s2 (by omega) (by have q1 := hv459; omega) (by have q1 := hv459; omega)⟩ | exact Or.inr ⟨by omega, pSt.s3 (hp5.1.resolve_left (fun q => absurd q.1 (by omega))).2 (by have q1 := hv459; omega)⟩), (by have q := hv2; omega)⟩ (by omega)
                · refine g_aload_n (n := 75) X 0 dX12_proof_74 rfl rfl rfl ?_
                  refine gg_12_1 (n := 78) (z := 191) X (by decide) (gsz hsz (by decide)) lay_190 kw_6_27 dX12_proof_75 rfl (rf_190_1 I (gsz hsz (by decide))) (by decide) ?_
                  refine g_sipush (n := 81) X dX12_proof_78 (by decide +kernel) rfl ?_
                  refine g_iload (n := 83) X 4 dX12_proof_81 rfl rfl ?_
                  refine g_iadd (n := 84) (z := v313 + 576) X dX12_proof_83 (by omega) rfl ?_
                  obtain ⟨v461, hv461, rv461⟩ := gRd I (by decide) (gsz hsz (by decide)) (rs_ERIGHT (k := v313 + 576) (by omega)).1
                  refine g_iald2 (n := 85) (v := v461) X (by decide) (gsz hsz (by decide)) lay_191 (by omega) (by omega) (by decide) dX12_proof_84 rfl hv461 ?_
                  refine g_iload_n (n := 86) X 1 dX12_proof_85 rfl rfl rfl ?_
                  refine g_icmp_ne (n := 89) (tgt := 93) X dX12_proof_86 (by decide) (by omega) (by omega) rfl (fun c462 => ?_) (fun c462 => ?_)
                  · refine g_iconst (n := 94) X dX12_proof_93 rfl ?_
                    refine g_istore_n (n := 95) (L' := [(3, gJ 0), (0, gA n0 190), (1, gJ a), (2, gJ b), (4, gJ v313)]) X dX12_proof_94 rfl (by decide) rfl rfl ?_
                    refine g_iinc (n := 98) (w := v313 + 1) (L' := [(4, gJ (v313 + 1)), (3, gJ 0), (0, gA n0 190), (1, gJ a), (2, gJ b)]) X 4 dX12_proof_95 rfl rfl (by decide) rfl rfl ?_
                    refine g_goto (tgt := 45) X dX12_proof_98 (by decide) ?_
                    refine G.sub (L' := [(0, gA n0 190), (1, gJ a), (2, gJ b), (3, gJ 0), (4, gJ (v313 + 1))]) [2, 3, 4, 1, 0] rfl ?_
                    exact ih449 0 (v313 + 1) (by omega) (by omega) ⟨(by first | exact Or.inl ⟨by omega, pSt.s1 (hp5.1.resolve_right (fun q => absurd q.1 (by omega))).2⟩ | exact Or.inl ⟨by omega, pSt.s2 (by omega) (by have q1 := hv459; have q2 := hv461; omega) (by have q1 := hv459; have q2 := hv461; omega)⟩ | exact Or.inr ⟨by omega, pSt.s3 (hp5.1.resolve_left (fun q => absurd q.1 (by omega))).2 (by have q1 := hv459; have q2 := hv461; omega)⟩), (by have q := hv2; omega)⟩ (by omega)
                  · refine g_iconst (n := 90) X dX12_proof_89 rfl ?_
                    refine g_goto (tgt := 94) X dX12_proof_90 (by decide) ?_
                    refine g_istore_n (n := 95) (L' := [(3, gJ 1), (0, gA n0 190), (1, gJ a), (2, gJ b), (4, gJ v313)]) X dX12_proof_94 rfl (by decide) rfl rfl ?_
                    refine g_iinc (n := 98) (w := v313 + 1) (L' := [(4, gJ (v313 + 1)), (3, gJ 1), (0, gA n0 190), (1, gJ a), (2, gJ b)]) X 4 dX12_proof_95 rfl rfl (by decide) rfl rfl ?_
                    refine g_goto (tgt := 45) X dX12_proof_98 (by decide) ?_
                    refine G.sub (L' := [(0, gA n0 190), (1, gJ a), (2, gJ b), (3, gJ 1), (4, gJ (v313 + 1))]) [2, 3, 4, 1, 0] rfl ?_
                    exact ih449 1 (v313 + 1) (by omega) (by omega) ⟨(by first | exact Or.inl ⟨by omega, pSt.s1 (hp5.1.resolve_right (fun q => absurd q.1 (by omega))).2⟩ | exact Or.inl ⟨by omega, pSt.s2 (by omega) (by have q1 := hv459; have q2 := hv461; omega) (by have q1 := hv459; have q2 := hv461; omega)⟩ | exact Or.inr ⟨by omega, pSt.s3 (hp5.1.resolve_left (fun q => absurd q.1 (by omega))).2 (by have q1 := hv459; have q2 := hv461; omega)⟩), (by have q := hv2; omega)⟩ (by omega)
        refine G.sub (L' := [(0, gA n0 190), (1, gJ a), (2, gJ b), (3, gJ 1), (4, gJ 0)]) [2, 3, 4, 1, 0] rfl ?_
        exact j315 _ 1 0 (by omega) (by omega) ⟨Or.inl ⟨rfl, pSt.z1 (by have q := hv159; omega)⟩, (by have q := hv2; omega)⟩ (Nat.lt_succ_self _)
  · refine g_iconst (n := 17) X dX12_proof_16 rfl ?_
    exact hq _ _ _ _ dX12_proof_17 ⟨by omega, I, C, gFr.rf, Or.inl ⟨(by first | exact Or.inl ⟨by omega, by omega⟩ | exact Or.inr (Or.inl ⟨by omega, (hst.resolve_right (fun q => absurd q.1 (by omega))).2, by omega⟩) | exact Or.inr (Or.inr ⟨by omega, (hst.resolve_left (fun q => absurd q.1 (by omega))).2, by omega, by omega⟩)), pSameM.rf⟩⟩
theorem dX12_feed_0 : decode cX12_feed 0 = .ok (.iload_n 3, 1) := dc_29 (by decide +kernel)
theorem dX12_feed_1 : decode cX12_feed 1 = .ok (.iconst 1, 1) := dc_4 (by decide +kernel)
theorem dX12_feed_2 : decode cX12_feed 2 = .ok (.bipush 8, 2) := dc_16 8 8 (by decide +kernel)
theorem dX12_feed_4 : decode cX12_feed 4 = .ok (.invokestatic 64, 3) := dc_184 0 64 (by decide +kernel)
theorem dX12_feed_7 : decode cX12_feed 7 = .ok (.ifCond .ne 6, 3) := dc_154 0 6 6 (by decide +kernel)
theorem dX12_feed_13 : decode cX12_feed 13 = .ok (.aload_n 0, 1) := dc_42 (by decide +kernel)
theorem dX12_feed_14 : decode cX12_feed 14 = .ok (.getfield 7, 3) := dc_180 0 7 (by decide +kernel)
theorem dX12_feed_17 : decode cX12_feed 17 = .ok (.bipush 10, 2) := dc_16 10 10 (by decide +kernel)
theorem dX12_feed_19 : decode cX12_feed 19 = .ok (.iaload, 1) := dc_46 (by decide +kernel)
theorem dX12_feed_20 : decode cX12_feed 20 = .ok (.iload_n 3, 1) := dc_29 (by decide +kernel)
theorem dX12_feed_21 : decode cX12_feed 21 = .ok (.iadd, 1) := dc_96 (by decide +kernel)
theorem dX12_feed_22 : decode cX12_feed 22 = .ok (.sipush 150, 3) := dc_17 0 150 150 (by decide +kernel)
theorem dX12_feed_25 : decode cX12_feed 25 = .ok (.if_icmp .le 6, 3) := dc_164 0 6 6 (by decide +kernel)
theorem dX12_feed_31 : decode cX12_feed 31 = .ok (.iload_n 3, 1) := dc_29 (by decide +kernel)
theorem dX12_feed_32 : decode cX12_feed 32 = .ok (.iconst 1, 1) := dc_4 (by decide +kernel)
theorem dX12_feed_33 : decode cX12_feed 33 = .ok (.isub, 1) := dc_100 (by decide +kernel)
theorem dX12_feed_34 : decode cX12_feed 34 = .ok (.istore 4, 2) := dc_54 4 (by decide +kernel)
theorem dX12_feed_36 : decode cX12_feed 36 = .ok (.iload 4, 2) := dc_21 4 (by decide +kernel)
theorem dX12_feed_38 : decode cX12_feed 38 = .ok (.ifCond .lt 48, 3) := dc_155 0 48 48 (by decide +kernel)
theorem dX12_feed_41 : decode cX12_feed 41 = .ok (.aload_n 0, 1) := dc_42 (by decide +kernel)
theorem dX12_feed_42 : decode cX12_feed 42 = .ok (.getfield 7, 3) := dc_180 0 7 (by decide +kernel)
theorem dX12_feed_45 : decode cX12_feed 45 = .ok (.sipush 2620, 3) := dc_17 10 60 2620 (by decide +kernel)
theorem dX12_feed_48 : decode cX12_feed 48 = .ok (.aload_n 0, 1) := dc_42 (by decide +kernel)
theorem dX12_feed_49 : decode cX12_feed 49 = .ok (.getfield 7, 3) := dc_180 0 7 (by decide +kernel)
theorem dX12_feed_52 : decode cX12_feed 52 = .ok (.bipush 10, 2) := dc_16 10 10 (by decide +kernel)
theorem dX12_feed_54 : decode cX12_feed 54 = .ok (.iaload, 1) := dc_46 (by decide +kernel)
theorem dX12_feed_55 : decode cX12_feed 55 = .ok (.iadd, 1) := dc_96 (by decide +kernel)
theorem dX12_feed_56 : decode cX12_feed 56 = .ok (.lload_n 1, 1) := dc_31 (by decide +kernel)
theorem dX12_feed_57 : decode cX12_feed 57 = .ok (.bipush 8, 2) := dc_16 8 8 (by decide +kernel)
theorem dX12_feed_59 : decode cX12_feed 59 = .ok (.iload 4, 2) := dc_21 4 (by decide +kernel)
theorem dX12_feed_61 : decode cX12_feed 61 = .ok (.imul, 1) := dc_104 (by decide +kernel)
theorem dX12_feed_62 : decode cX12_feed 62 = .ok (.lshr, 1) := dc_123 (by decide +kernel)
theorem dX12_feed_63 : decode cX12_feed 63 = .ok (.ldc2_w 127, 3) := dc_20 0 127 (by decide +kernel)
theorem kw_6_231 : (Jvm.Cond.constantLong "ParishUnionModel" (127 : Nat) (255 : Int64)) ∈ gT := gT_of (tb_6 _ (List.mem_of_getElem? (i := 231) rfl)) rfl
theorem dX12_feed_66 : decode cX12_feed 66 = .ok (.land, 1) := dc_127 (by decide +kernel)
theorem dX12_feed_67 : decode cX12_feed 67 = .ok (.l2i, 1) := dc_136 (by decide +kernel)
theorem dX12_feed_68 : decode cX12_feed 68 = .ok (.iastore, 1) := dc_79 (by decide +kernel)
theorem dX12_feed_69 : decode cX12_feed 69 = .ok (.aload_n 0, 1) := dc_42 (by decide +kernel)
theorem dX12_feed_70 : decode cX12_feed 70 = .ok (.getfield 7, 3) := dc_180 0 7 (by decide +kernel)
theorem dX12_feed_73 : decode cX12_feed 73 = .ok (.bipush 10, 2) := dc_16 10 10 (by decide +kernel)
theorem dX12_feed_75 : decode cX12_feed 75 = .ok (.dup2, 1) := dc_92 (by decide +kernel)
theorem dX12_feed_76 : decode cX12_feed 76 = .ok (.iaload, 1) := dc_46 (by decide +kernel)
theorem dX12_feed_77 : decode cX12_feed 77 = .ok (.iconst 1, 1) := dc_4 (by decide +kernel)
theorem dX12_feed_78 : decode cX12_feed 78 = .ok (.iadd, 1) := dc_96 (by decide +kernel)
theorem dX12_feed_79 : decode cX12_feed 79 = .ok (.iastore, 1) := dc_79 (by decide +kernel)
theorem dX12_feed_80 : decode cX12_feed 80 = .ok (.iinc 4 (-1), 3) := dc_132 4 255 (-1) (by decide +kernel)
theorem dX12_feed_83 : decode cX12_feed 83 = .ok (.goto (-47), 3) := dc_167 255 209 (-47) (by decide +kernel)
theorem dX12_feed_86 : decode cX12_feed 86 = .ok (.aload_n 0, 1) := dc_42 (by decide +kernel)
theorem dX12_feed_87 : decode cX12_feed 87 = .ok (.getfield 7, 3) := dc_180 0 7 (by decide +kernel)
theorem dX12_feed_90 : decode cX12_feed 90 = .ok (.bipush 10, 2) := dc_16 10 10 (by decide +kernel)
theorem dX12_feed_92 : decode cX12_feed 92 = .ok (.iaload, 1) := dc_46 (by decide +kernel)
theorem dX12_feed_93 : decode cX12_feed 93 = .ok (.ireturn, 1) := dc_172 (by decide +kernel)
theorem dX12_feed_28 : decode cX12_feed 28 = .ok (.bipush (-4), 2) := dc_16 252 (-4) (by decide +kernel)
theorem dX12_feed_30 : decode cX12_feed 30 = .ok (.ireturn, 1) := dc_172 (by decide +kernel)
theorem dX12_feed_10 : decode cX12_feed 10 = .ok (.bipush (-2), 2) := dc_16 254 (-2) (by decide +kernel)
theorem dX12_feed_12 : decode cX12_feed 12 = .ok (.ireturn, 1) := dc_172 (by decide +kernel)
abbrev R_X12_feed : Room := { frames := 1, cells := 0, slots := 0, locals := 22 }
set_option maxRecDepth 100000 in
set_option maxHeartbeats 4000000 in
theorem s_X12_feed {l : Launch} {n0 : Nat} {D : va_G} {cA : Nat → ClassId} {M : gM} (a : Int) (r_a : -9223372036854775808 ≤ a ∧ a ≤ 9223372036854775807) (b : Int) (r_b : -2147483648 ≤ b ∧ b ≤ 2147483647) {sz : Nat} (hsz : 206 ≤ sz) (I : gI sz M) (C : gC sz M)   : Met l yX12_feed (gWsOf yX12_feed cX12_feed 5 (Option.some Jvm.ClassFile.FieldType.int)) R_X12_feed (gPc n0 D cA [gA n0 190, gV a, gJ b] M sz) (gQi n0 D cA sz (fun z M1 => (-4 ≤ z ∧ z ≤ 150) ∧ gI sz M1 ∧ gC sz M1 ∧ gFr 144132780261900288 M M1)) 0 0 (fun q => n0 ≤ q) := by
  refine gMetI [gA n0 190, gV a, gJ b] (by decide) (Nat.le_of_ble_eq_true rfl) ⟨rfl, rfl⟩ ?_
  intro p e s m args below meth cd Q X hq
  have X : gCx p s m args meth cd n0 D cA "ParishUnionModel" cX12_feed 5 := X
  show G p l e R_X12_feed s m args below meth cd n0 D cA 5 Q 0 0 M sz 0 [(0, gA n0 190), (1, gV a), (3, gJ b)] []
  refine g_iload_n (n := 1) X 2 dX12_feed_0 rfl rfl rfl ?_
  refine g_iconst (n := 2) X dX12_feed_1 rfl ?_
  refine g_bipush (n := 4) X dX12_feed_2 (by decide +kernel) rfl ?_
  refine g_callSi (n := 7) (As := [gJ b, gJ 1, gJ 8]) (rest := []) (cs1 := 0) (ss1 := 0) X (s_X12_in b (by omega) 1 (by omega) 8 (by omega) hsz I C ) okX12_in kw_6_106 kw_6_107 ⟨rfl, rfl⟩ ⟨Nat.le_of_ble_eq_true rfl, Nat.le_of_ble_eq_true rfl⟩ rfl rfl (Nat.le_of_ble_eq_true rfl) ⟨Nat.le_of_ble_eq_true rfl, Nat.le_of_ble_eq_true rfl⟩ rfl rfl dX12_feed_4 rfl (fun v1 M2 P3 => ?_)
  obtain ⟨rfl, rv1, xv1⟩ := P3
  refine g_if_ne (n := 10) (tgt := 13) X dX12_feed_7 (by decide) (by omega) rfl (fun c4 => ?_) (fun c4 => ?_)
  · refine g_aload_n (n := 14) X 0 dX12_feed_13 rfl rfl rfl ?_
    refine gg_12_1 (n := 17) (z := 191) X (by decide) (gsz hsz (by decide)) lay_190 kw_6_27 dX12_feed_14 rfl (rf_190_1 I (gsz hsz (by decide))) (by decide) ?_
    refine g_bipush (n := 19) X dX12_feed_17 (by decide +kernel) rfl ?_
    obtain ⟨v5, hv5, rv5⟩ := gRd I (by decide) (gsz hsz (by decide)) (rs_TAPED (k := 10) (by omega)).1
    refine g_iald2 (n := 20) (v := v5) X (by decide) (gsz hsz (by decide)) lay_191 (by omega) (by omega) (by decide) dX12_feed_19 rfl hv5 ?_
    refine g_iload_n (n := 21) X 2 dX12_feed_20 rfl rfl rfl ?_
    refine g_iadd (n := 22) (z := v5 + b) X dX12_feed_21 rfl rfl ?_
    refine g_sipush (n := 25) X dX12_feed_22 (by decide +kernel) rfl ?_
    refine g_icmp_le (n := 28) (tgt := 31) X dX12_feed_25 (by decide) (by omega) (by omega) rfl (fun c6 => ?_) (fun c6 => ?_)
    · refine g_iload_n (n := 32) X 2 dX12_feed_31 rfl rfl rfl ?_
      refine g_iconst (n := 33) X dX12_feed_32 rfl ?_
      refine g_isub (n := 34) (z := b - 1) X dX12_feed_33 (by omega) rfl ?_
      refine g_istore (n := 36) (L' := [(4, gJ (b - 1)), (0, gA n0 190), (1, gV a), (3, gJ b)]) X dX12_feed_34 (by decide) rfl rfl ?_
      have j9 : ∀ (N26 : Nat) (v7 : Int) (M8 : gM) , (-1 ≤ v7 ∧ v7 ≤ 7) → gI sz M8 → gC sz M8 → gFr 144132780261900288 M M8 → (M8 191 10 + v7 ≤ 149) → (v7 + 1).toNat < N26 → G p l e R_X12_feed s m args below meth cd n0 D cA 5 Q 0 0 M8 sz 36 [(0, gA n0 190), (1, gV a), (4, gJ v7)] [] := by
        intro N26; induction N26 with
        | zero => intro v7 M8 rv7 IM8 CM8 FM8 hl hm28; exfalso; omega
        | succ N26 ih27 =>
          intro v7 M8 rv7 IM8 CM8 FM8 hl hm28
          refine g_iload (n := 38) X 2 dX12_feed_36 rfl rfl ?_
          refine g_if_lt (n := 41) (tgt := 86) X dX12_feed_38 (by decide) (by omega) rfl (fun c29 => ?_) (fun c29 => ?_)
          · refine g_aload_n (n := 87) X 0 dX12_feed_86 rfl rfl rfl ?_
            refine gg_12_1 (n := 90) (z := 191) X (by decide) (gsz hsz (by decide)) lay_190 kw_6_27 dX12_feed_87 rfl (rf_190_1 IM8 (gsz hsz (by decide))) (by decide) ?_
            refine g_bipush (n := 92) X dX12_feed_90 (by decide +kernel) rfl ?_
            obtain ⟨v30, hv30, rv30⟩ := gRd IM8 (by decide) (gsz hsz (by decide)) (rs_TAPED (k := 10) (by omega)).1
            refine g_iald2 (n := 93) (v := v30) X (by decide) (gsz hsz (by decide)) lay_191 (by omega) (by omega) (by decide) dX12_feed_92 rfl hv30 ?_
            exact hq _ _ _ _ dX12_feed_93 ⟨by omega, IM8, CM8, (gFr.c gFr.rf FM8 rfl)⟩
          · refine g_aload_n (n := 42) X 0 dX12_feed_41 rfl rfl rfl ?_
            refine gg_12_1 (n := 45) (z := 191) X (by decide) (gsz hsz (by decide)) lay_190 kw_6_27 dX12_feed_42 rfl (rf_190_1 IM8 (gsz hsz (by decide))) (by decide) ?_
            refine g_sipush (n := 48) X dX12_feed_45 (by decide +kernel) rfl ?_
            refine g_aload_n (n := 49) X 0 dX12_feed_48 rfl rfl rfl ?_
            refine gg_12_1 (n := 52) (z := 191) X (by decide) (gsz hsz (by decide)) lay_190 kw_6_27 dX12_feed_49 rfl (rf_190_1 IM8 (gsz hsz (by decide))) (by decide) ?_
            refine g_bipush (n := 54) X dX12_feed_52 (by decide +kernel) rfl ?_
            obtain ⟨v31, hv31, rv31⟩ := gRd IM8 (by decide) (gsz hsz (by decide)) (rs_TAPED (k := 10) (by omega)).1
            refine g_iald2 (n := 55) (v := v31) X (by decide) (gsz hsz (by decide)) lay_191 (by omega) (by omega) (by decide) dX12_feed_54 rfl hv31 ?_
            refine g_iadd (n := 56) (z := v31 + 2620) X dX12_feed_55 (by omega) rfl ?_
            refine g_lload_n (n := 57) X 1 dX12_feed_56 rfl rfl rfl ?_
            refine g_bipush (n := 59) X dX12_feed_57 (by decide +kernel) rfl ?_
            refine g_iload (n := 61) X 2 dX12_feed_59 rfl rfl ?_
            refine g_imul (n := 62) (z := 8 * v7) X dX12_feed_61 rfl rfl ?_
            refine g_lshrA (n := 63) X dX12_feed_62 rfl (fun v32 rv32 xv32 => ?_)
            clear xv32
            refine g_ldc2 (n := 66) (z := 255) X dX12_feed_63 kw_6_231 (by decide +kernel) rfl ?_
            refine g_landC (n := 67) X dX12_feed_66 (by decide) rfl (fun v33 rv33 xv33 => ?_)
            clear xv33
            refine g_l2iE (n := 68) (z := v33) X dX12_feed_67 (g_l2i (by omega)) rfl ?_
            refine g_iast (n := 69) X (by decide) (gsz hsz (by decide)) lay_191 (by omega) (by omega) (by decide) dX12_feed_68 rfl ?_
            refine G.nm (fun M34 e35 => ?_)
            have IM34 : gI sz M34 := gI.set IM8 (rs_TAPE (k := v31 + 2620) (by omega)).1 (by omega) e35
            have CM34 : gC sz M34 := gC.set CM8 (rs_TAPE (k := v31 + 2620) (by omega)).2.1 e35
            refine g_aload_n (n := 70) X 0 dX12_feed_69 rfl rfl rfl ?_
            refine gg_12_1 (n := 73) (z := 191) X (by decide) (gsz hsz (by decide)) lay_190 kw_6_27 dX12_feed_70 rfl (rf_190_1 IM34 (gsz hsz (by decide))) (by decide) ?_
            refine g_bipush (n := 75) X dX12_feed_73 (by decide +kernel) rfl ?_
            refine g_dup2 (n := 76) X dX12_feed_75 rfl rfl rfl ?_
            refine g_iald2 (n := 77) (v := v31) X (by decide) (gsz hsz (by decide)) lay_191 (by omega) (by omega) (by decide) dX12_feed_76 rfl ((congrFun (congrFun e35 _) _).trans ((gset_ne (by omega)).trans hv31)) ?_
            refine g_iconst (n := 78) X dX12_feed_77 rfl ?_
            refine g_iadd (n := 79) (z := v31 + 1) X dX12_feed_78 (by omega) rfl ?_
            refine g_iast (n := 80) X (by decide) (gsz hsz (by decide)) lay_191 (by omega) (by omega) (by decide) dX12_feed_79 rfl ?_
            refine G.nm (fun M36 e37 => ?_)
            have IM36 : gI sz M36 := gI.set IM34 (rs_TAPED (k := 10) (by omega)).1 (by omega) e37
            have CM36 : gC sz M36 := gC.set CM34 (rs_TAPED (k := 10) (by omega)).2.1 e37
            refine g_iinc (n := 83) (w := v7 - 1) (L' := [(4, gJ (v7 - 1)), (0, gA n0 190), (1, gV a)]) X 2 dX12_feed_80 rfl rfl (by decide) rfl rfl ?_
            refine g_goto (tgt := 36) X dX12_feed_83 (by decide) ?_
            refine G.sub (L' := [(0, gA n0 190), (1, gV a), (4, gJ (v7 - 1))]) [1, 2, 0] rfl ?_
            exact ih27 (v7 - 1) M36 (by omega) IM36 CM36 (gFr.s (gFr.s (gFr.c gFr.rf FM8 rfl) e35 (rs_TAPE (k := v31 + 2620) (by omega)).2.2 rfl) e37 (rs_TAPED (k := 10) (by omega)).2.2 rfl) (by have h1 := ((congrFun (congrFun e37 _) _).trans (gset_eq _ _ _ _)); omega) (by omega)
      refine G.sub (L' := [(0, gA n0 190), (1, gV a), (4, gJ (b - 1))]) [1, 2, 0] rfl ?_
      exact j9 _ (b - 1) M (by omega) I C gFr.rf (by have h1 := hv5; omega) (Nat.lt_succ_self _)
    · refine g_bipush (n := 30) X dX12_feed_28 (by decide +kernel) rfl ?_
      exact hq _ _ _ _ dX12_feed_30 ⟨by omega, I, C, gFr.rf⟩
  · refine g_bipush (n := 12) X dX12_feed_10 (by decide +kernel) rfl ?_
    exact hq _ _ _ _ dX12_feed_12 ⟨by omega, I, C, gFr.rf⟩
theorem dX12_tells_0 : decode cX12_tells 0 = .ok (.aload_n 0, 1) := dc_42 (by decide +kernel)
theorem dX12_tells_1 : decode cX12_tells 1 = .ok (.getfield 7, 3) := dc_180 0 7 (by decide +kernel)
theorem dX12_tells_4 : decode cX12_tells 4 = .ok (.iconst 2, 1) := dc_5 (by decide +kernel)
theorem dX12_tells_5 : decode cX12_tells 5 = .ok (.iaload, 1) := dc_46 (by decide +kernel)
theorem dX12_tells_6 : decode cX12_tells 6 = .ok (.bipush 40, 2) := dc_16 40 40 (by decide +kernel)
theorem dX12_tells_8 : decode cX12_tells 8 = .ok (.if_icmp .eq 14, 3) := dc_159 0 14 14 (by decide +kernel)
theorem dX12_tells_22 : decode cX12_tells 22 = .ok (.bipush (-4), 2) := dc_16 252 (-4) (by decide +kernel)
theorem dX12_tells_24 : decode cX12_tells 24 = .ok (.ireturn, 1) := dc_172 (by decide +kernel)
theorem dX12_tells_11 : decode cX12_tells 11 = .ok (.aload_n 0, 1) := dc_42 (by decide +kernel)
theorem dX12_tells_12 : decode cX12_tells 12 = .ok (.getfield 7, 3) := dc_180 0 7 (by decide +kernel)
theorem dX12_tells_15 : decode cX12_tells 15 = .ok (.iconst 3, 1) := dc_6 (by decide +kernel)
theorem dX12_tells_16 : decode cX12_tells 16 = .ok (.iaload, 1) := dc_46 (by decide +kernel)
theorem dX12_tells_17 : decode cX12_tells 17 = .ok (.bipush 80, 2) := dc_16 80 80 (by decide +kernel)
theorem dX12_tells_19 : decode cX12_tells 19 = .ok (.if_icmp .ne 6, 3) := dc_160 0 6 6 (by decide +kernel)
theorem dX12_tells_25 : decode cX12_tells 25 = .ok (.aload_n 0, 1) := dc_42 (by decide +kernel)
theorem dX12_tells_26 : decode cX12_tells 26 = .ok (.getfield 7, 3) := dc_180 0 7 (by decide +kernel)
theorem dX12_tells_29 : decode cX12_tells 29 = .ok (.iconst 2, 1) := dc_5 (by decide +kernel)
theorem dX12_tells_30 : decode cX12_tells 30 = .ok (.iaload, 1) := dc_46 (by decide +kernel)
theorem dX12_tells_31 : decode cX12_tells 31 = .ok (.istore 7, 2) := dc_54 7 (by decide +kernel)
theorem dX12_tells_33 : decode cX12_tells 33 = .ok (.aload_n 0, 1) := dc_42 (by decide +kernel)
theorem dX12_tells_34 : decode cX12_tells 34 = .ok (.getfield 7, 3) := dc_180 0 7 (by decide +kernel)
theorem dX12_tells_37 : decode cX12_tells 37 = .ok (.sipush 256, 3) := dc_17 1 0 256 (by decide +kernel)
theorem dX12_tells_40 : decode cX12_tells 40 = .ok (.iload 7, 2) := dc_21 7 (by decide +kernel)
theorem dX12_tells_42 : decode cX12_tells 42 = .ok (.iadd, 1) := dc_96 (by decide +kernel)
theorem dX12_tells_43 : decode cX12_tells 43 = .ok (.iload_n 1, 1) := dc_27 (by decide +kernel)
theorem dX12_tells_44 : decode cX12_tells 44 = .ok (.iastore, 1) := dc_79 (by decide +kernel)
theorem dX12_tells_45 : decode cX12_tells 45 = .ok (.aload_n 0, 1) := dc_42 (by decide +kernel)
theorem dX12_tells_46 : decode cX12_tells 46 = .ok (.getfield 7, 3) := dc_180 0 7 (by decide +kernel)
theorem dX12_tells_49 : decode cX12_tells 49 = .ok (.sipush 296, 3) := dc_17 1 40 296 (by decide +kernel)
theorem dX12_tells_52 : decode cX12_tells 52 = .ok (.iload 7, 2) := dc_21 7 (by decide +kernel)
theorem dX12_tells_54 : decode cX12_tells 54 = .ok (.iadd, 1) := dc_96 (by decide +kernel)
theorem dX12_tells_55 : decode cX12_tells 55 = .ok (.iload_n 2, 1) := dc_28 (by decide +kernel)
theorem dX12_tells_56 : decode cX12_tells 56 = .ok (.iastore, 1) := dc_79 (by decide +kernel)
theorem dX12_tells_57 : decode cX12_tells 57 = .ok (.aload_n 0, 1) := dc_42 (by decide +kernel)
theorem dX12_tells_58 : decode cX12_tells 58 = .ok (.getfield 7, 3) := dc_180 0 7 (by decide +kernel)
theorem dX12_tells_61 : decode cX12_tells 61 = .ok (.sipush 336, 3) := dc_17 1 80 336 (by decide +kernel)
theorem dX12_tells_64 : decode cX12_tells 64 = .ok (.iload 7, 2) := dc_21 7 (by decide +kernel)
theorem dX12_tells_66 : decode cX12_tells 66 = .ok (.iadd, 1) := dc_96 (by decide +kernel)
theorem dX12_tells_67 : decode cX12_tells 67 = .ok (.iload_n 3, 1) := dc_29 (by decide +kernel)
theorem dX12_tells_68 : decode cX12_tells 68 = .ok (.iastore, 1) := dc_79 (by decide +kernel)
theorem dX12_tells_69 : decode cX12_tells 69 = .ok (.aload_n 0, 1) := dc_42 (by decide +kernel)
theorem dX12_tells_70 : decode cX12_tells 70 = .ok (.getfield 7, 3) := dc_180 0 7 (by decide +kernel)
theorem dX12_tells_73 : decode cX12_tells 73 = .ok (.sipush 376, 3) := dc_17 1 120 376 (by decide +kernel)
theorem dX12_tells_76 : decode cX12_tells 76 = .ok (.iload 7, 2) := dc_21 7 (by decide +kernel)
theorem dX12_tells_78 : decode cX12_tells 78 = .ok (.iadd, 1) := dc_96 (by decide +kernel)
theorem dX12_tells_79 : decode cX12_tells 79 = .ok (.iload 4, 2) := dc_21 4 (by decide +kernel)
theorem dX12_tells_81 : decode cX12_tells 81 = .ok (.iastore, 1) := dc_79 (by decide +kernel)
theorem dX12_tells_82 : decode cX12_tells 82 = .ok (.aload_n 0, 1) := dc_42 (by decide +kernel)
theorem dX12_tells_83 : decode cX12_tells 83 = .ok (.getfield 7, 3) := dc_180 0 7 (by decide +kernel)
theorem dX12_tells_86 : decode cX12_tells 86 = .ok (.sipush 416, 3) := dc_17 1 160 416 (by decide +kernel)
theorem dX12_tells_89 : decode cX12_tells 89 = .ok (.iload 7, 2) := dc_21 7 (by decide +kernel)
theorem dX12_tells_91 : decode cX12_tells 91 = .ok (.iadd, 1) := dc_96 (by decide +kernel)
theorem dX12_tells_92 : decode cX12_tells 92 = .ok (.iload 5, 2) := dc_21 5 (by decide +kernel)
theorem dX12_tells_94 : decode cX12_tells 94 = .ok (.iastore, 1) := dc_79 (by decide +kernel)
theorem dX12_tells_95 : decode cX12_tells 95 = .ok (.aload_n 0, 1) := dc_42 (by decide +kernel)
theorem dX12_tells_96 : decode cX12_tells 96 = .ok (.getfield 7, 3) := dc_180 0 7 (by decide +kernel)
theorem dX12_tells_99 : decode cX12_tells 99 = .ok (.sipush 456, 3) := dc_17 1 200 456 (by decide +kernel)
theorem dX12_tells_102 : decode cX12_tells 102 = .ok (.iload 7, 2) := dc_21 7 (by decide +kernel)
theorem dX12_tells_104 : decode cX12_tells 104 = .ok (.iadd, 1) := dc_96 (by decide +kernel)
theorem dX12_tells_105 : decode cX12_tells 105 = .ok (.iload 6, 2) := dc_21 6 (by decide +kernel)
theorem dX12_tells_107 : decode cX12_tells 107 = .ok (.ifCond .eq 7, 3) := dc_153 0 7 7 (by decide +kernel)
theorem dX12_tells_114 : decode cX12_tells 114 = .ok (.iconst 0, 1) := dc_3 (by decide +kernel)
theorem dX12_tells_115 : decode cX12_tells 115 = .ok (.iastore, 1) := dc_79 (by decide +kernel)
theorem dX12_tells_116 : decode cX12_tells 116 = .ok (.aload_n 0, 1) := dc_42 (by decide +kernel)
theorem dX12_tells_117 : decode cX12_tells 117 = .ok (.getfield 7, 3) := dc_180 0 7 (by decide +kernel)
theorem dX12_tells_120 : decode cX12_tells 120 = .ok (.iconst 2, 1) := dc_5 (by decide +kernel)
theorem dX12_tells_121 : decode cX12_tells 121 = .ok (.dup2, 1) := dc_92 (by decide +kernel)
theorem dX12_tells_122 : decode cX12_tells 122 = .ok (.iaload, 1) := dc_46 (by decide +kernel)
theorem dX12_tells_123 : decode cX12_tells 123 = .ok (.iconst 1, 1) := dc_4 (by decide +kernel)
theorem dX12_tells_124 : decode cX12_tells 124 = .ok (.iadd, 1) := dc_96 (by decide +kernel)
theorem dX12_tells_125 : decode cX12_tells 125 = .ok (.iastore, 1) := dc_79 (by decide +kernel)
theorem dX12_tells_126 : decode cX12_tells 126 = .ok (.aload_n 0, 1) := dc_42 (by decide +kernel)
theorem dX12_tells_127 : decode cX12_tells 127 = .ok (.iconst 0, 1) := dc_3 (by decide +kernel)
theorem dX12_tells_128 : decode cX12_tells 128 = .ok (.iload 7, 2) := dc_21 7 (by decide +kernel)
theorem dX12_tells_130 : decode cX12_tells 130 = .ok (.invokevirtual 79, 3) := dc_182 0 79 (by decide +kernel)
theorem dX12_tells_133 : decode cX12_tells 133 = .ok (.iload 7, 2) := dc_21 7 (by decide +kernel)
theorem dX12_tells_135 : decode cX12_tells 135 = .ok (.ireturn, 1) := dc_172 (by decide +kernel)
theorem dX12_tells_110 : decode cX12_tells 110 = .ok (.iconst 1, 1) := dc_4 (by decide +kernel)
theorem dX12_tells_111 : decode cX12_tells 111 = .ok (.goto 4, 3) := dc_167 0 4 4 (by decide +kernel)
abbrev R_X12_tells : Room := { frames := 1, cells := 0, slots := 0, locals := 22 }
set_option maxRecDepth 100000 in
set_option maxHeartbeats 4000000 in
theorem s_X12_tells {l : Launch} {n0 : Nat} {D : va_G} {cA : Nat → ClassId} {M : gM} (a : Int) (r_a : 1 ≤ a ∧ a ≤ 4) (b : Int) (r_b : 0 ≤ b ∧ b ≤ 15) (c : Int) (r_c : 0 ≤ c ∧ c ≤ 15) (d : Int) (r_d : 0 ≤ d ∧ d ≤ 9999) (f : Int) (r_f : -3000 ≤ f ∧ f ≤ 300) (g : Int) (r_g : 0 ≤ g ∧ g ≤ 1) {sz : Nat} (hsz : 206 ≤ sz) (I : gI sz M) (C : gC sz M) (W : gW 191 M) (hk : (a = 3 ∨ c ≤ 5) ∧ (a = 3 → c < M 191 1 ∧ M 191 (c + 80) = 0 ∧ M 191 (b + 80) = 1 ∧ b < M 191 1))  : Met l yX12_tells (gWsOf yX12_tells cX12_tells 8 (Option.some Jvm.ClassFile.FieldType.int)) R_X12_tells (gPc n0 D cA [gA n0 190, gJ a, gJ b, gJ c, gJ d, gJ f, gJ g] M sz) (gQi n0 D cA sz (fun z M1 => (-4 ≤ z ∧ z ≤ 39) ∧ gI sz M1 ∧ gC sz M1 ∧ gFr 464228105030079899045462016 M M1 ∧ (gW 191 M1 ∧ pTellM a b c d f g z M M1))) 0 0 (fun q => n0 ≤ q) := by
  refine gMetI [gA n0 190, gJ a, gJ b, gJ c, gJ d, gJ f, gJ g] (by decide) (Nat.le_of_ble_eq_true rfl) ⟨rfl, rfl⟩ ?_
  intro p e s m args below meth cd Q X hq
  have X : gCx p s m args meth cd n0 D cA "ParishUnionModel" cX12_tells 8 := X
  show G p l e R_X12_tells s m args below meth cd n0 D cA 8 Q 0 0 M sz 0 [(0, gA n0 190), (1, gJ a), (2, gJ b), (3, gJ c), (4, gJ d), (5, gJ f), (6, gJ g)] []
  obtain ⟨v1, hv1, rv1⟩ := gRd I (by decide) (gsz hsz (by decide)) (rs_PERS (k := 1) (by omega)).1
  obtain ⟨v2, hv2, rv2⟩ := gRd I (by decide) (gsz hsz (by decide)) (rs_NR (k := 2) (by omega)).1
  obtain ⟨v3, hv3, rv3⟩ := gRd I (by decide) (gsz hsz (by decide)) (rs_NE (k := 3) (by omega)).1
  refine g_aload_n (n := 1) X 0 dX12_tells_0 rfl rfl rfl ?_
  refine gg_12_1 (n := 4) (z := 191) X (by decide) (gsz hsz (by decide)) lay_190 kw_6_27 dX12_tells_1 rfl (rf_190_1 I (gsz hsz (by decide))) (by decide) ?_
  refine g_iconst (n := 5) X dX12_tells_4 rfl ?_
  refine g_iald2 (n := 6) (v := v2) X (by decide) (gsz hsz (by decide)) lay_191 (by omega) (by omega) (by decide) dX12_tells_5 rfl hv2 ?_
  refine g_bipush (n := 8) X dX12_tells_6 (by decide +kernel) rfl ?_
  refine g_icmp_eq (n := 11) (tgt := 22) X dX12_tells_8 (by decide) (by omega) (by omega) rfl (fun c4 => ?_) (fun c4 => ?_)
  · refine g_bipush (n := 24) X dX12_tells_22 (by decide +kernel) rfl ?_
    exact hq _ _ _ _ dX12_tells_24 ⟨by omega, I, C, gFr.rf, ⟨W, Or.inl ⟨by omega, by omega, pSameM.rf⟩⟩⟩
  · refine g_aload_n (n := 12) X 0 dX12_tells_11 rfl rfl rfl ?_
    refine gg_12_1 (n := 15) (z := 191) X (by decide) (gsz hsz (by decide)) lay_190 kw_6_27 dX12_tells_12 rfl (rf_190_1 I (gsz hsz (by decide))) (by decide) ?_
    refine g_iconst (n := 16) X dX12_tells_15 rfl ?_
    refine g_iald2 (n := 17) (v := v3) X (by decide) (gsz hsz (by decide)) lay_191 (by omega) (by omega) (by decide) dX12_tells_16 rfl hv3 ?_
    refine g_bipush (n := 19) X dX12_tells_17 (by decide +kernel) rfl ?_
    refine g_icmp_ne (n := 22) (tgt := 25) X dX12_tells_19 (by decide) (by omega) (by omega) rfl (fun c5 => ?_) (fun c5 => ?_)
    · refine g_aload_n (n := 26) X 0 dX12_tells_25 rfl rfl rfl ?_
      refine gg_12_1 (n := 29) (z := 191) X (by decide) (gsz hsz (by decide)) lay_190 kw_6_27 dX12_tells_26 rfl (rf_190_1 I (gsz hsz (by decide))) (by decide) ?_
      refine g_iconst (n := 30) X dX12_tells_29 rfl ?_
      refine g_iald2 (n := 31) (v := v2) X (by decide) (gsz hsz (by decide)) lay_191 (by omega) (by omega) (by decide) dX12_tells_30 rfl hv2 ?_
      refine g_istore (n := 33) (L' := [(7, gJ v2), (0, gA n0 190), (1, gJ a), (2, gJ b), (3, gJ c), (4, gJ d), (5, gJ f), (6, gJ g)]) X dX12_tells_31 (by decide) rfl rfl ?_
      refine g_aload_n (n := 34) X 1 dX12_tells_33 rfl rfl rfl ?_
      refine gg_12_1 (n := 37) (z := 191) X (by decide) (gsz hsz (by decide)) lay_190 kw_6_27 dX12_tells_34 rfl (rf_190_1 I (gsz hsz (by decide))) (by decide) ?_
      refine g_sipush (n := 40) X dX12_tells_37 (by decide +kernel) rfl ?_
      refine g_iload (n := 42) X 0 dX12_tells_40 rfl rfl ?_
      refine g_iadd (n := 43) (z := v2 + 256) X dX12_tells_42 (by omega) rfl ?_
      refine g_iload_n (n := 44) X 2 dX12_tells_43 rfl rfl rfl ?_
      refine g_iast (n := 45) X (by decide) (gsz hsz (by decide)) lay_191 (by omega) (by omega) (by decide) dX12_tells_44 rfl ?_
      refine G.nm (fun M6 e7 => ?_)
      have IM6 : gI sz M6 := gI.set I (rs_RKIND (k := v2 + 256) (by omega)).1 (by omega) e7
      have CM6 : gC sz M6 := gC.set C (rs_RKIND (k := v2 + 256) (by omega)).2.1 e7
      refine g_aload_n (n := 46) X 1 dX12_tells_45 rfl rfl rfl ?_
      refine gg_12_1 (n := 49) (z := 191) X (by decide) (gsz hsz (by decide)) lay_190 kw_6_27 dX12_tells_46 rfl (rf_190_1 IM6 (gsz hsz (by decide))) (by decide) ?_
      refine g_sipush (n := 52) X dX12_tells_49 (by decide +kernel) rfl ?_
      refine g_iload (n := 54) X 0 dX12_tells_52 rfl rfl ?_
      refine g_iadd (n := 55) (z := v2 + 296) X dX12_tells_54 (by omega) rfl ?_
      refine g_iload_n (n := 56) X 3 dX12_tells_55 rfl rfl rfl ?_
      refine g_iast (n := 57) X (by decide) (gsz hsz (by decide)) lay_191 (by omega) (by omega) (by decide) dX12_tells_56 rfl ?_
      refine G.nm (fun M8 e9 => ?_)
      have IM8 : gI sz M8 := gI.set IM6 (rs_RWHO (k := v2 + 296) (by omega)).1 (by omega) e9
      have CM8 : gC sz M8 := gC.set CM6 (rs_RWHO (k := v2 + 296) (by omega)).2.1 e9
      refine g_aload_n (n := 58) X 1 dX12_tells_57 rfl rfl rfl ?_
      refine gg_12_1 (n := 61) (z := 191) X (by decide) (gsz hsz (by decide)) lay_190 kw_6_27 dX12_tells_58 rfl (rf_190_1 IM8 (gsz hsz (by decide))) (by decide) ?_
      refine g_sipush (n := 64) X dX12_tells_61 (by decide +kernel) rfl ?_
      refine g_iload (n := 66) X 0 dX12_tells_64 rfl rfl ?_
      refine g_iadd (n := 67) (z := v2 + 336) X dX12_tells_66 (by omega) rfl ?_
      refine g_iload_n (n := 68) X 4 dX12_tells_67 rfl rfl rfl ?_
      refine g_iast (n := 69) X (by decide) (gsz hsz (by decide)) lay_191 (by omega) (by omega) (by decide) dX12_tells_68 rfl ?_
      refine G.nm (fun M10 e11 => ?_)
      have IM10 : gI sz M10 := gI.set IM8 (rs_RTO (k := v2 + 336) (by omega)).1 (by omega) e11
      have CM10 : gC sz M10 := gC.set CM8 (rs_RTO (k := v2 + 336) (by omega)).2.1 e11
      refine g_aload_n (n := 70) X 1 dX12_tells_69 rfl rfl rfl ?_
      refine gg_12_1 (n := 73) (z := 191) X (by decide) (gsz hsz (by decide)) lay_190 kw_6_27 dX12_tells_70 rfl (rf_190_1 IM10 (gsz hsz (by decide))) (by decide) ?_
      refine g_sipush (n := 76) X dX12_tells_73 (by decide +kernel) rfl ?_
      refine g_iload (n := 78) X 0 dX12_tells_76 rfl rfl ?_
      refine g_iadd (n := 79) (z := v2 + 376) X dX12_tells_78 (by omega) rfl ?_
      refine g_iload (n := 81) X 5 dX12_tells_79 rfl rfl ?_
      refine g_iast (n := 82) X (by decide) (gsz hsz (by decide)) lay_191 (by omega) (by omega) (by decide) dX12_tells_81 rfl ?_
      refine G.nm (fun M12 e13 => ?_)
      have IM12 : gI sz M12 := gI.set IM10 (rs_RN (k := v2 + 376) (by omega)).1 (by omega) e13
      have CM12 : gC sz M12 := gC.set CM10 (rs_RN (k := v2 + 376) (by omega)).2.1 e13
      refine g_aload_n (n := 83) X 1 dX12_tells_82 rfl rfl rfl ?_
      refine gg_12_1 (n := 86) (z := 191) X (by decide) (gsz hsz (by decide)) lay_190 kw_6_27 dX12_tells_83 rfl (rf_190_1 IM12 (gsz hsz (by decide))) (by decide) ?_
      refine g_sipush (n := 89) X dX12_tells_86 (by decide +kernel) rfl ?_
      refine g_iload (n := 91) X 0 dX12_tells_89 rfl rfl ?_
      refine g_iadd (n := 92) (z := v2 + 416) X dX12_tells_91 (by omega) rfl ?_
      refine g_iload (n := 94) X 6 dX12_tells_92 rfl rfl ?_
      refine g_iast (n := 95) X (by decide) (gsz hsz (by decide)) lay_191 (by omega) (by omega) (by decide) dX12_tells_94 rfl ?_
      refine G.nm (fun M14 e15 => ?_)
      have IM14 : gI sz M14 := gI.set IM12 (rs_RWEEK (k := v2 + 416) (by omega)).1 (by omega) e15
      have CM14 : gC sz M14 := gC.set CM12 (rs_RWEEK (k := v2 + 416) (by omega)).2.1 e15
      refine g_aload_n (n := 96) X 1 dX12_tells_95 rfl rfl rfl ?_
      refine gg_12_1 (n := 99) (z := 191) X (by decide) (gsz hsz (by decide)) lay_190 kw_6_27 dX12_tells_96 rfl (rf_190_1 IM14 (gsz hsz (by decide))) (by decide) ?_
      refine g_sipush (n := 102) X dX12_tells_99 (by decide +kernel) rfl ?_
      refine g_iload (n := 104) X 0 dX12_tells_102 rfl rfl ?_
      refine g_iadd (n := 105) (z := v2 + 456) X dX12_tells_104 (by omega) rfl ?_
      refine g_iload (n := 107) X 7 dX12_tells_105 rfl rfl ?_
      refine g_if_eq (n := 110) (tgt := 114) X dX12_tells_107 (by decide) (by omega) rfl (fun c16 => ?_) (fun c16 => ?_)
      · refine g_iconst (n := 115) X dX12_tells_114 rfl ?_
        refine g_iast (n := 116) X (by decide) (gsz hsz (by decide)) lay_191 (by omega) (by omega) (by decide) dX12_tells_115 rfl ?_
        refine G.nm (fun M17 e18 => ?_)
        have IM17 : gI sz M17 := gI.set IM14 (rs_RSURE (k := v2 + 456) (by omega)).1 (by omega) e18
        have CM17 : gC sz M17 := gC.set CM14 (rs_RSURE (k := v2 + 456) (by omega)).2.1 e18
        refine g_aload_n (n := 117) X 1 dX12_tells_116 rfl rfl rfl ?_
        refine gg_12_1 (n := 120) (z := 191) X (by decide) (gsz hsz (by decide)) lay_190 kw_6_27 dX12_tells_117 rfl (rf_190_1 IM17 (gsz hsz (by decide))) (by decide) ?_
        refine g_iconst (n := 121) X dX12_tells_120 rfl ?_
        refine g_dup2 (n := 122) X dX12_tells_121 rfl rfl rfl ?_
        refine g_iald2 (n := 123) (v := v2) X (by decide) (gsz hsz (by decide)) lay_191 (by omega) (by omega) (by decide) dX12_tells_122 rfl ((congrFun (congrFun e18 _) _).trans ((gset_ne (by omega)).trans ((congrFun (congrFun e15 _) _).trans ((gset_ne (by omega)).trans ((congrFun (congrFun e13 _) _).trans ((gset_ne (by omega)).trans ((congrFun (congrFun e11 _) _).trans ((gset_ne (by omega)).trans ((congrFun (congrFun e9 _) _).trans ((gset_ne (by omega)).trans ((congrFun (congrFun e7 _) _).trans ((gset_ne (by omega)).trans hv2)))))))))))) ?_
        refine g_iconst (n := 124) X dX12_tells_123 rfl ?_
        refine g_iadd (n := 125) (z := v2 + 1) X dX12_tells_124 (by omega) rfl ?_
        refine g_iast (n := 126) X (by decide) (gsz hsz (by decide)) lay_191 (by omega) (by omega) (by decide) dX12_tells_125 rfl ?_
        refine G.nm (fun M19 e20 => ?_)
        have IM19 : gI sz M19 := gI.set IM17 (rs_NR (k := 2) (by omega)).1 (by omega) e20
        have CM19 : gC sz M19 := gC.set CM17 (rs_NR (k := 2) (by omega)).2.1 e20
        refine g_aload_n (n := 127) X 1 dX12_tells_126 rfl rfl rfl ?_
        refine g_iconst (n := 128) X dX12_tells_127 rfl ?_
        refine g_iload (n := 130) X 0 dX12_tells_128 rfl rfl ?_
        refine g_callVv (n := 133) (As := [gJ 0, gJ v2]) (rest := []) (cs1 := 0) (ss1 := 0) X (s_X12_enter 0 (by omega) v2 (by omega) hsz IM19 CM19 (by have := ((congrFun (congrFun e20 _) _).trans ((gset_ne (by omega)).trans ((congrFun (congrFun e18 _) _).trans ((gset_ne (by omega)).trans ((congrFun (congrFun e15 _) _).trans ((gset_ne (by omega)).trans ((congrFun (congrFun e13 _) _).trans ((gset_ne (by omega)).trans ((congrFun (congrFun e11 _) _).trans ((gset_ne (by omega)).trans ((congrFun (congrFun e9 _) _).trans ((gset_ne (by omega)).trans ((congrFun (congrFun e7 _) _).trans ((gset_ne (by omega)).trans hv3)))))))))))))); omega)) okX12_enter kw_6_145 ⟨kw_6_147, kw_0_43⟩ ⟨rfl, rfl⟩ ⟨Nat.le_of_ble_eq_true rfl, Nat.le_of_ble_eq_true rfl⟩ rfl (by decide) (gsz hsz (by decide)) lay_190 rfl rfl (Nat.le_of_ble_eq_true rfl) ⟨Nat.le_of_ble_eq_true rfl, Nat.le_of_ble_eq_true rfl⟩ rfl rfl dX12_tells_130 rfl (fun M22 P23 => ?_)
        obtain ⟨IM22, CM22, FM22, xM22⟩ := P23
        refine g_iload (n := 135) X 0 dX12_tells_133 rfl rfl ?_
        have WR : gW 191 M19 := gW.right (r := v2) (k := a) (w := b) (t := c) W I hsz (by omega) hk (by omega) (by omega) (((congrFun (congrFun e20 _) _).trans ((gset_ne (by omega)).trans ((congrFun (congrFun e18 _) _).trans ((gset_ne (by omega)).trans ((congrFun (congrFun e15 _) _).trans ((gset_ne (by omega)).trans ((congrFun (congrFun e13 _) _).trans ((gset_ne (by omega)).trans ((congrFun (congrFun e11 _) _).trans ((gset_ne (by omega)).trans ((congrFun (congrFun e9 _) _).trans ((gset_ne (by omega)).trans ((congrFun (congrFun e7 _) _).trans ((gset_ne (by omega)).trans hv1)))))))))))))).trans hv1.symm) ((congrFun (congrFun e20 _) _).trans ((gset_ne (by omega)).trans ((congrFun (congrFun e18 _) _).trans ((gset_ne (by omega)).trans ((congrFun (congrFun e15 _) _).trans ((gset_ne (by omega)).trans ((congrFun (congrFun e13 _) _).trans ((gset_ne (by omega)).trans ((congrFun (congrFun e11 _) _).trans ((gset_ne (by omega)).trans ((congrFun (congrFun e9 _) _).trans ((gset_ne (by omega)).trans ((congrFun (congrFun e7 _) _).trans (gset_eq _ _ _ _)))))))))))))) ((congrFun (congrFun e20 _) _).trans ((gset_ne (by omega)).trans ((congrFun (congrFun e18 _) _).trans ((gset_ne (by omega)).trans ((congrFun (congrFun e15 _) _).trans ((gset_ne (by omega)).trans ((congrFun (congrFun e13 _) _).trans ((gset_ne (by omega)).trans ((congrFun (congrFun e11 _) _).trans ((gset_ne (by omega)).trans ((congrFun (congrFun e9 _) _).trans (gset_eq _ _ _ _)))))))))))) ((congrFun (congrFun e20 _) _).trans ((gset_ne (by omega)).trans ((congrFun (congrFun e18 _) _).trans ((gset_ne (by omega)).trans ((congrFun (congrFun e15 _) _).trans ((gset_ne (by omega)).trans ((congrFun (congrFun e13 _) _).trans ((gset_ne (by omega)).trans ((congrFun (congrFun e11 _) _).trans (gset_eq _ _ _ _)))))))))) (fun k hk g0 g1 g2 => ((congrFun (congrFun e20 _) _).trans ((gset_ne (by unfold gWu at hk; omega)).trans ((congrFun (congrFun e18 _) _).trans ((gset_ne (by unfold gWu at hk; omega)).trans ((congrFun (congrFun e15 _) _).trans ((gset_ne (by unfold gWu at hk; omega)).trans ((congrFun (congrFun e13 _) _).trans ((gset_ne (by unfold gWu at hk; omega)).trans ((congrFun (congrFun e11 _) _).trans ((gset_ne (by unfold gWu at hk; omega)).trans ((congrFun (congrFun e9 _) _).trans ((gset_ne (by unfold gWu at hk; omega)).trans ((congrFun (congrFun e7 _) _).trans ((gset_ne (by unfold gWu at hk; omega)).trans rfl)))))))))))))))
        exact hq _ _ _ _ dX12_tells_135 ⟨by omega, IM22, CM22, (gFr.c (gFr.s (gFr.s (gFr.s (gFr.s (gFr.s (gFr.s (gFr.s gFr.rf e7 (rs_RKIND (k := v2 + 256) (by omega)).2.2 rfl) e9 (rs_RWHO (k := v2 + 296) (by omega)).2.2 rfl) e11 (rs_RTO (k := v2 + 336) (by omega)).2.2 rfl) e13 (rs_RN (k := v2 + 376) (by omega)).2.2 rfl) e15 (rs_RWEEK (k := v2 + 416) (by omega)).2.2 rfl) e18 (rs_RSURE (k := v2 + 456) (by omega)).2.2 rfl) e20 (rs_NR (k := 2) (by omega)).2.2 rfl) FM22 rfl), ⟨(gW.fr (S := 464228105027827961792823296) WR ⟨sz, hsz, IM19⟩ (gFr.c gFr.rf FM22 rfl) rfl), Or.inr ⟨⟨by omega, by omega⟩, ⟨by have q := ((gFr.at FM22 (rs_NR (k := 2) (by omega)).2.2 rfl).trans ((congrFun (congrFun e20 _) _).trans (gset_eq _ _ _ _))); omega, by have q := (show M22 191 3 = v3 + 1 from xM22.1.trans (by have q := ((congrFun (congrFun e20 _) _).trans ((gset_ne (by omega)).trans ((congrFun (congrFun e18 _) _).trans ((gset_ne (by omega)).trans ((congrFun (congrFun e15 _) _).trans ((gset_ne (by omega)).trans ((congrFun (congrFun e13 _) _).trans ((gset_ne (by omega)).trans ((congrFun (congrFun e11 _) _).trans ((gset_ne (by omega)).trans ((congrFun (congrFun e9 _) _).trans ((gset_ne (by omega)).trans ((congrFun (congrFun e7 _) _).trans ((gset_ne (by omega)).trans hv3)))))))))))))); omega)); omega⟩, (fun k h0 h1 g1 g2 g3 g4 g5 g6 g7 g8 => ((xM22.2.2.2 k (by have q := ((congrFun (congrFun e20 _) _).trans ((gset_ne (by omega)).trans ((congrFun (congrFun e18 _) _).trans ((gset_ne (by omega)).trans ((congrFun (congrFun e15 _) _).trans ((gset_ne (by omega)).trans ((congrFun (congrFun e13 _) _).trans ((gset_ne (by omega)).trans ((congrFun (congrFun e11 _) _).trans ((gset_ne (by omega)).trans ((congrFun (congrFun e9 _) _).trans ((gset_ne (by omega)).trans ((congrFun (congrFun e7 _) _).trans ((gset_ne (by omega)).trans hv3)))))))))))))); omega) (by have q := ((congrFun (congrFun e20 _) _).trans ((gset_ne (by omega)).trans ((congrFun (congrFun e18 _) _).trans ((gset_ne (by omega)).trans ((congrFun (congrFun e15 _) _).trans ((gset_ne (by omega)).trans ((congrFun (congrFun e13 _) _).trans ((gset_ne (by omega)).trans ((congrFun (congrFun e11 _) _).trans ((gset_ne (by omega)).trans ((congrFun (congrFun e9 _) _).trans ((gset_ne (by omega)).trans ((congrFun (congrFun e7 _) _).trans ((gset_ne (by omega)).trans hv3)))))))))))))); omega) (by have q := ((congrFun (congrFun e20 _) _).trans ((gset_ne (by omega)).trans ((congrFun (congrFun e18 _) _).trans ((gset_ne (by omega)).trans ((congrFun (congrFun e15 _) _).trans ((gset_ne (by omega)).trans ((congrFun (congrFun e13 _) _).trans ((gset_ne (by omega)).trans ((congrFun (congrFun e11 _) _).trans ((gset_ne (by omega)).trans ((congrFun (congrFun e9 _) _).trans ((gset_ne (by omega)).trans ((congrFun (congrFun e7 _) _).trans ((gset_ne (by omega)).trans hv3)))))))))))))); omega)).trans ((congrFun (congrFun e20 _) _).trans ((gset_ne (by omega)).trans ((congrFun (congrFun e18 _) _).trans ((gset_ne (by omega)).trans ((congrFun (congrFun e15 _) _).trans ((gset_ne (by omega)).trans ((congrFun (congrFun e13 _) _).trans ((gset_ne (by omega)).trans ((congrFun (congrFun e11 _) _).trans ((gset_ne (by omega)).trans ((congrFun (congrFun e9 _) _).trans ((gset_ne (by omega)).trans ((congrFun (congrFun e7 _) _).trans ((gset_ne (by omega)).trans rfl)))))))))))))))), (by rw [hv2]; exact ((gFr.at FM22 (rs_RKIND (k := v2 + 256) (by omega)).2.2 rfl).trans ((congrFun (congrFun e20 _) _).trans ((gset_ne (by omega)).trans ((congrFun (congrFun e18 _) _).trans ((gset_ne (by omega)).trans ((congrFun (congrFun e15 _) _).trans ((gset_ne (by omega)).trans ((congrFun (congrFun e13 _) _).trans ((gset_ne (by omega)).trans ((congrFun (congrFun e11 _) _).trans ((gset_ne (by omega)).trans ((congrFun (congrFun e9 _) _).trans ((gset_ne (by omega)).trans ((congrFun (congrFun e7 _) _).trans (gset_eq _ _ _ _)))))))))))))))), (by rw [hv2]; exact ((gFr.at FM22 (rs_RWHO (k := v2 + 296) (by omega)).2.2 rfl).trans ((congrFun (congrFun e20 _) _).trans ((gset_ne (by omega)).trans ((congrFun (congrFun e18 _) _).trans ((gset_ne (by omega)).trans ((congrFun (congrFun e15 _) _).trans ((gset_ne (by omega)).trans ((congrFun (congrFun e13 _) _).trans ((gset_ne (by omega)).trans ((congrFun (congrFun e11 _) _).trans ((gset_ne (by omega)).trans ((congrFun (congrFun e9 _) _).trans (gset_eq _ _ _ _)))))))))))))), (by rw [hv2]; exact ((gFr.at FM22 (rs_RTO (k := v2 + 336) (by omega)).2.2 rfl).trans ((congrFun (congrFun e20 _) _).trans ((gset_ne (by omega)).trans ((congrFun (congrFun e18 _) _).trans ((gset_ne (by omega)).trans ((congrFun (congrFun e15 _) _).trans ((gset_ne (by omega)).trans ((congrFun (congrFun e13 _) _).trans ((gset_ne (by omega)).trans ((congrFun (congrFun e11 _) _).trans (gset_eq _ _ _ _)))))))))))), (by rw [hv2]; exact ((gFr.at FM22 (rs_RN (k := v2 + 376) (by omega)).2.2 rfl).trans ((congrFun (congrFun e20 _) _).trans ((gset_ne (by omega)).trans ((congrFun (congrFun e18 _) _).trans ((gset_ne (by omega)).trans ((congrFun (congrFun e15 _) _).trans ((gset_ne (by omega)).trans ((congrFun (congrFun e13 _) _).trans (gset_eq _ _ _ _)))))))))), (by rw [hv2]; exact ((gFr.at FM22 (rs_RWEEK (k := v2 + 416) (by omega)).2.2 rfl).trans ((congrFun (congrFun e20 _) _).trans ((gset_ne (by omega)).trans ((congrFun (congrFun e18 _) _).trans ((gset_ne (by omega)).trans ((congrFun (congrFun e15 _) _).trans (gset_eq _ _ _ _)))))))), (by rw [hv2]; exact (((gFr.at FM22 (rs_RSURE (k := v2 + 456) (by omega)).2.2 rfl).trans ((congrFun (congrFun e20 _) _).trans ((gset_ne (by omega)).trans ((congrFun (congrFun e18 _) _).trans (gset_eq _ _ _ _)))))).trans (by omega)), (by rw [hv3]; exact (show M22 191 (v3 + 496) = 0 from by have q := xM22.2.1; rw [((congrFun (congrFun e20 _) _).trans ((gset_ne (by omega)).trans ((congrFun (congrFun e18 _) _).trans ((gset_ne (by omega)).trans ((congrFun (congrFun e15 _) _).trans ((gset_ne (by omega)).trans ((congrFun (congrFun e13 _) _).trans ((gset_ne (by omega)).trans ((congrFun (congrFun e11 _) _).trans ((gset_ne (by omega)).trans ((congrFun (congrFun e9 _) _).trans ((gset_ne (by omega)).trans ((congrFun (congrFun e7 _) _).trans ((gset_ne (by omega)).trans hv3))))))))))))))] at q; exact q)), (by rw [hv3, hv2]; exact (show M22 191 (v3 + 576) = v2 from by have q := xM22.2.2.1; rw [((congrFun (congrFun e20 _) _).trans ((gset_ne (by omega)).trans ((congrFun (congrFun e18 _) _).trans ((gset_ne (by omega)).trans ((congrFun (congrFun e15 _) _).trans ((gset_ne (by omega)).trans ((congrFun (congrFun e13 _) _).trans ((gset_ne (by omega)).trans ((congrFun (congrFun e11 _) _).trans ((gset_ne (by omega)).trans ((congrFun (congrFun e9 _) _).trans ((gset_ne (by omega)).trans ((congrFun (congrFun e7 _) _).trans ((gset_ne (by omega)).trans hv3))))))))))))))] at q; exact q))⟩⟩⟩
      · refine g_iconst (n := 111) X dX12_tells_110 rfl ?_
        refine g_goto (tgt := 115) X dX12_tells_111 (by decide) ?_
        refine g_iast (n := 116) X (by decide) (gsz hsz (by decide)) lay_191 (by omega) (by omega) (by decide) dX12_tells_115 rfl ?_
        refine G.nm (fun M24 e25 => ?_)
        have IM24 : gI sz M24 := gI.set IM14 (rs_RSURE (k := v2 + 456) (by omega)).1 (by omega) e25
        have CM24 : gC sz M24 := gC.set CM14 (rs_RSURE (k := v2 + 456) (by omega)).2.1 e25
        refine g_aload_n (n := 117) X 1 dX12_tells_116 rfl rfl rfl ?_
        refine gg_12_1 (n := 120) (z := 191) X (by decide) (gsz hsz (by decide)) lay_190 kw_6_27 dX12_tells_117 rfl (rf_190_1 IM24 (gsz hsz (by decide))) (by decide) ?_
        refine g_iconst (n := 121) X dX12_tells_120 rfl ?_
        refine g_dup2 (n := 122) X dX12_tells_121 rfl rfl rfl ?_
        refine g_iald2 (n := 123) (v := v2) X (by decide) (gsz hsz (by decide)) lay_191 (by omega) (by omega) (by decide) dX12_tells_122 rfl ((congrFun (congrFun e25 _) _).trans ((gset_ne (by omega)).trans ((congrFun (congrFun e15 _) _).trans ((gset_ne (by omega)).trans ((congrFun (congrFun e13 _) _).trans ((gset_ne (by omega)).trans ((congrFun (congrFun e11 _) _).trans ((gset_ne (by omega)).trans ((congrFun (congrFun e9 _) _).trans ((gset_ne (by omega)).trans ((congrFun (congrFun e7 _) _).trans ((gset_ne (by omega)).trans hv2)))))))))))) ?_
        refine g_iconst (n := 124) X dX12_tells_123 rfl ?_
        refine g_iadd (n := 125) (z := v2 + 1) X dX12_tells_124 (by omega) rfl ?_
        refine g_iast (n := 126) X (by decide) (gsz hsz (by decide)) lay_191 (by omega) (by omega) (by decide) dX12_tells_125 rfl ?_
        refine G.nm (fun M26 e27 => ?_)
        have IM26 : gI sz M26 := gI.set IM24 (rs_NR (k := 2) (by omega)).1 (by omega) e27
        have CM26 : gC sz M26 := gC.set CM24 (rs_NR (k := 2) (by omega)).2.1 e27
        refine g_aload_n (n := 127) X 1 dX12_tells_126 rfl rfl rfl ?_
        refine g_iconst (n := 128) X dX12_tells_127 rfl ?_
        refine g_iload (n := 130) X 0 dX12_tells_128 rfl rfl ?_
        refine g_callVv (n := 133) (As := [gJ 0, gJ v2]) (rest := []) (cs1 := 0) (ss1 := 0) X (s_X12_enter 0 (by omega) v2 (by omega) hsz IM26 CM26 (by have := ((congrFun (congrFun e27 _) _).trans ((gset_ne (by omega)).trans ((congrFun (congrFun e25 _) _).trans ((gset_ne (by omega)).trans ((congrFun (congrFun e15 _) _).trans ((gset_ne (by omega)).trans ((congrFun (congrFun e13 _) _).trans ((gset_ne (by omega)).trans ((congrFun (congrFun e11 _) _).trans ((gset_ne (by omega)).trans ((congrFun (congrFun e9 _) _).trans ((gset_ne (by omega)).trans ((congrFun (congrFun e7 _) _).trans ((gset_ne (by omega)).trans hv3)))))))))))))); omega)) okX12_enter kw_6_145 ⟨kw_6_147, kw_0_43⟩ ⟨rfl, rfl⟩ ⟨Nat.le_of_ble_eq_true rfl, Nat.le_of_ble_eq_true rfl⟩ rfl (by decide) (gsz hsz (by decide)) lay_190 rfl rfl (Nat.le_of_ble_eq_true rfl) ⟨Nat.le_of_ble_eq_true rfl, Nat.le_of_ble_eq_true rfl⟩ rfl rfl dX12_tells_130 rfl (fun M29 P30 => ?_)
        obtain ⟨IM29, CM29, FM29, xM29⟩ := P30
        refine g_iload (n := 135) X 0 dX12_tells_133 rfl rfl ?_
        have WR : gW 191 M26 := gW.right (r := v2) (k := a) (w := b) (t := c) W I hsz (by omega) hk (by omega) (by omega) (((congrFun (congrFun e27 _) _).trans ((gset_ne (by omega)).trans ((congrFun (congrFun e25 _) _).trans ((gset_ne (by omega)).trans ((congrFun (congrFun e15 _) _).trans ((gset_ne (by omega)).trans ((congrFun (congrFun e13 _) _).trans ((gset_ne (by omega)).trans ((congrFun (congrFun e11 _) _).trans ((gset_ne (by omega)).trans ((congrFun (congrFun e9 _) _).trans ((gset_ne (by omega)).trans ((congrFun (congrFun e7 _) _).trans ((gset_ne (by omega)).trans hv1)))))))))))))).trans hv1.symm) ((congrFun (congrFun e27 _) _).trans ((gset_ne (by omega)).trans ((congrFun (congrFun e25 _) _).trans ((gset_ne (by omega)).trans ((congrFun (congrFun e15 _) _).trans ((gset_ne (by omega)).trans ((congrFun (congrFun e13 _) _).trans ((gset_ne (by omega)).trans ((congrFun (congrFun e11 _) _).trans ((gset_ne (by omega)).trans ((congrFun (congrFun e9 _) _).trans ((gset_ne (by omega)).trans ((congrFun (congrFun e7 _) _).trans (gset_eq _ _ _ _)))))))))))))) ((congrFun (congrFun e27 _) _).trans ((gset_ne (by omega)).trans ((congrFun (congrFun e25 _) _).trans ((gset_ne (by omega)).trans ((congrFun (congrFun e15 _) _).trans ((gset_ne (by omega)).trans ((congrFun (congrFun e13 _) _).trans ((gset_ne (by omega)).trans ((congrFun (congrFun e11 _) _).trans ((gset_ne (by omega)).trans ((congrFun (congrFun e9 _) _).trans (gset_eq _ _ _ _)))))))))))) ((congrFun (congrFun e27 _) _).trans ((gset_ne (by omega)).trans ((congrFun (congrFun e25 _) _).trans ((gset_ne (by omega)).trans ((congrFun (congrFun e15 _) _).trans ((gset_ne (by omega)).trans ((congrFun (congrFun e13 _) _).trans ((gset_ne (by omega)).trans ((congrFun (congrFun e11 _) _).trans (gset_eq _ _ _ _)))))))))) (fun k hk g0 g1 g2 => ((congrFun (congrFun e27 _) _).trans ((gset_ne (by unfold gWu at hk; omega)).trans ((congrFun (congrFun e25 _) _).trans ((gset_ne (by unfold gWu at hk; omega)).trans ((congrFun (congrFun e15 _) _).trans ((gset_ne (by unfold gWu at hk; omega)).trans ((congrFun (congrFun e13 _) _).trans ((gset_ne (by unfold gWu at hk; omega)).trans ((congrFun (congrFun e11 _) _).trans ((gset_ne (by unfold gWu at hk; omega)).trans ((congrFun (congrFun e9 _) _).trans ((gset_ne (by unfold gWu at hk; omega)).trans ((congrFun (congrFun e7 _) _).trans ((gset_ne (by unfold gWu at hk; omega)).trans rfl)))))))))))))))
        exact hq _ _ _ _ dX12_tells_135 ⟨by omega, IM29, CM29, (gFr.c (gFr.s (gFr.s (gFr.s (gFr.s (gFr.s (gFr.s (gFr.s gFr.rf e7 (rs_RKIND (k := v2 + 256) (by omega)).2.2 rfl) e9 (rs_RWHO (k := v2 + 296) (by omega)).2.2 rfl) e11 (rs_RTO (k := v2 + 336) (by omega)).2.2 rfl) e13 (rs_RN (k := v2 + 376) (by omega)).2.2 rfl) e15 (rs_RWEEK (k := v2 + 416) (by omega)).2.2 rfl) e25 (rs_RSURE (k := v2 + 456) (by omega)).2.2 rfl) e27 (rs_NR (k := 2) (by omega)).2.2 rfl) FM29 rfl), ⟨(gW.fr (S := 464228105027827961792823296) WR ⟨sz, hsz, IM26⟩ (gFr.c gFr.rf FM29 rfl) rfl), Or.inr ⟨⟨by omega, by omega⟩, ⟨by have q := ((gFr.at FM29 (rs_NR (k := 2) (by omega)).2.2 rfl).trans ((congrFun (congrFun e27 _) _).trans (gset_eq _ _ _ _))); omega, by have q := (show M29 191 3 = v3 + 1 from xM29.1.trans (by have q := ((congrFun (congrFun e27 _) _).trans ((gset_ne (by omega)).trans ((congrFun (congrFun e25 _) _).trans ((gset_ne (by omega)).trans ((congrFun (congrFun e15 _) _).trans ((gset_ne (by omega)).trans ((congrFun (congrFun e13 _) _).trans ((gset_ne (by omega)).trans ((congrFun (congrFun e11 _) _).trans ((gset_ne (by omega)).trans ((congrFun (congrFun e9 _) _).trans ((gset_ne (by omega)).trans ((congrFun (congrFun e7 _) _).trans ((gset_ne (by omega)).trans hv3)))))))))))))); omega)); omega⟩, (fun k h0 h1 g1 g2 g3 g4 g5 g6 g7 g8 => ((xM29.2.2.2 k (by have q := ((congrFun (congrFun e27 _) _).trans ((gset_ne (by omega)).trans ((congrFun (congrFun e25 _) _).trans ((gset_ne (by omega)).trans ((congrFun (congrFun e15 _) _).trans ((gset_ne (by omega)).trans ((congrFun (congrFun e13 _) _).trans ((gset_ne (by omega)).trans ((congrFun (congrFun e11 _) _).trans ((gset_ne (by omega)).trans ((congrFun (congrFun e9 _) _).trans ((gset_ne (by omega)).trans ((congrFun (congrFun e7 _) _).trans ((gset_ne (by omega)).trans hv3)))))))))))))); omega) (by have q := ((congrFun (congrFun e27 _) _).trans ((gset_ne (by omega)).trans ((congrFun (congrFun e25 _) _).trans ((gset_ne (by omega)).trans ((congrFun (congrFun e15 _) _).trans ((gset_ne (by omega)).trans ((congrFun (congrFun e13 _) _).trans ((gset_ne (by omega)).trans ((congrFun (congrFun e11 _) _).trans ((gset_ne (by omega)).trans ((congrFun (congrFun e9 _) _).trans ((gset_ne (by omega)).trans ((congrFun (congrFun e7 _) _).trans ((gset_ne (by omega)).trans hv3)))))))))))))); omega) (by have q := ((congrFun (congrFun e27 _) _).trans ((gset_ne (by omega)).trans ((congrFun (congrFun e25 _) _).trans ((gset_ne (by omega)).trans ((congrFun (congrFun e15 _) _).trans ((gset_ne (by omega)).trans ((congrFun (congrFun e13 _) _).trans ((gset_ne (by omega)).trans ((congrFun (congrFun e11 _) _).trans ((gset_ne (by omega)).trans ((congrFun (congrFun e9 _) _).trans ((gset_ne (by omega)).trans ((congrFun (congrFun e7 _) _).trans ((gset_ne (by omega)).trans hv3)))))))))))))); omega)).trans ((congrFun (congrFun e27 _) _).trans ((gset_ne (by omega)).trans ((congrFun (congrFun e25 _) _).trans ((gset_ne (by omega)).trans ((congrFun (congrFun e15 _) _).trans ((gset_ne (by omega)).trans ((congrFun (congrFun e13 _) _).trans ((gset_ne (by omega)).trans ((congrFun (congrFun e11 _) _).trans ((gset_ne (by omega)).trans ((congrFun (congrFun e9 _) _).trans ((gset_ne (by omega)).trans ((congrFun (congrFun e7 _) _).trans ((gset_ne (by omega)).trans rfl)))))))))))))))), (by rw [hv2]; exact ((gFr.at FM29 (rs_RKIND (k := v2 + 256) (by omega)).2.2 rfl).trans ((congrFun (congrFun e27 _) _).trans ((gset_ne (by omega)).trans ((congrFun (congrFun e25 _) _).trans ((gset_ne (by omega)).trans ((congrFun (congrFun e15 _) _).trans ((gset_ne (by omega)).trans ((congrFun (congrFun e13 _) _).trans ((gset_ne (by omega)).trans ((congrFun (congrFun e11 _) _).trans ((gset_ne (by omega)).trans ((congrFun (congrFun e9 _) _).trans ((gset_ne (by omega)).trans ((congrFun (congrFun e7 _) _).trans (gset_eq _ _ _ _)))))))))))))))), (by rw [hv2]; exact ((gFr.at FM29 (rs_RWHO (k := v2 + 296) (by omega)).2.2 rfl).trans ((congrFun (congrFun e27 _) _).trans ((gset_ne (by omega)).trans ((congrFun (congrFun e25 _) _).trans ((gset_ne (by omega)).trans ((congrFun (congrFun e15 _) _).trans ((gset_ne (by omega)).trans ((congrFun (congrFun e13 _) _).trans ((gset_ne (by omega)).trans ((congrFun (congrFun e11 _) _).trans ((gset_ne (by omega)).trans ((congrFun (congrFun e9 _) _).trans (gset_eq _ _ _ _)))))))))))))), (by rw [hv2]; exact ((gFr.at FM29 (rs_RTO (k := v2 + 336) (by omega)).2.2 rfl).trans ((congrFun (congrFun e27 _) _).trans ((gset_ne (by omega)).trans ((congrFun (congrFun e25 _) _).trans ((gset_ne (by omega)).trans ((congrFun (congrFun e15 _) _).trans ((gset_ne (by omega)).trans ((congrFun (congrFun e13 _) _).trans ((gset_ne (by omega)).trans ((congrFun (congrFun e11 _) _).trans (gset_eq _ _ _ _)))))))))))), (by rw [hv2]; exact ((gFr.at FM29 (rs_RN (k := v2 + 376) (by omega)).2.2 rfl).trans ((congrFun (congrFun e27 _) _).trans ((gset_ne (by omega)).trans ((congrFun (congrFun e25 _) _).trans ((gset_ne (by omega)).trans ((congrFun (congrFun e15 _) _).trans ((gset_ne (by omega)).trans ((congrFun (congrFun e13 _) _).trans (gset_eq _ _ _ _)))))))))), (by rw [hv2]; exact ((gFr.at FM29 (rs_RWEEK (k := v2 + 416) (by omega)).2.2 rfl).trans ((congrFun (congrFun e27 _) _).trans ((gset_ne (by omega)).trans ((congrFun (congrFun e25 _) _).trans ((gset_ne (by omega)).trans ((congrFun (congrFun e15 _) _).trans (gset_eq _ _ _ _)))))))), (by rw [hv2]; exact (((gFr.at FM29 (rs_RSURE (k := v2 + 456) (by omega)).2.2 rfl).trans ((congrFun (congrFun e27 _) _).trans ((gset_ne (by omega)).trans ((congrFun (congrFun e25 _) _).trans (gset_eq _ _ _ _)))))).trans (by omega)), (by rw [hv3]; exact (show M29 191 (v3 + 496) = 0 from by have q := xM29.2.1; rw [((congrFun (congrFun e27 _) _).trans ((gset_ne (by omega)).trans ((congrFun (congrFun e25 _) _).trans ((gset_ne (by omega)).trans ((congrFun (congrFun e15 _) _).trans ((gset_ne (by omega)).trans ((congrFun (congrFun e13 _) _).trans ((gset_ne (by omega)).trans ((congrFun (congrFun e11 _) _).trans ((gset_ne (by omega)).trans ((congrFun (congrFun e9 _) _).trans ((gset_ne (by omega)).trans ((congrFun (congrFun e7 _) _).trans ((gset_ne (by omega)).trans hv3))))))))))))))] at q; exact q)), (by rw [hv3, hv2]; exact (show M29 191 (v3 + 576) = v2 from by have q := xM29.2.2.1; rw [((congrFun (congrFun e27 _) _).trans ((gset_ne (by omega)).trans ((congrFun (congrFun e25 _) _).trans ((gset_ne (by omega)).trans ((congrFun (congrFun e15 _) _).trans ((gset_ne (by omega)).trans ((congrFun (congrFun e13 _) _).trans ((gset_ne (by omega)).trans ((congrFun (congrFun e11 _) _).trans ((gset_ne (by omega)).trans ((congrFun (congrFun e9 _) _).trans ((gset_ne (by omega)).trans ((congrFun (congrFun e7 _) _).trans ((gset_ne (by omega)).trans hv3))))))))))))))] at q; exact q))⟩⟩⟩
    · refine g_bipush (n := 24) X dX12_tells_22 (by decide +kernel) rfl ?_
      exact hq _ _ _ _ dX12_tells_24 ⟨by omega, I, C, gFr.rf, ⟨W, Or.inl ⟨by omega, by omega, pSameM.rf⟩⟩⟩
theorem dX12_hire_0 : decode cX12_hire 0 = .ok (.aload_n 0, 1) := dc_42 (by decide +kernel)
theorem dX12_hire_1 : decode cX12_hire 1 = .ok (.iload_n 1, 1) := dc_27 (by decide +kernel)
theorem dX12_hire_2 : decode cX12_hire 2 = .ok (.invokevirtual 76, 3) := dc_182 0 76 (by decide +kernel)
theorem dX12_hire_5 : decode cX12_hire 5 = .ok (.ifCond .eq 10, 3) := dc_153 0 10 10 (by decide +kernel)
theorem dX12_hire_15 : decode cX12_hire 15 = .ok (.iconst (-1), 1) := dc_2 (by decide +kernel)
theorem dX12_hire_16 : decode cX12_hire 16 = .ok (.ireturn, 1) := dc_172 (by decide +kernel)
theorem dX12_hire_8 : decode cX12_hire 8 = .ok (.iload_n 2, 1) := dc_28 (by decide +kernel)
theorem dX12_hire_9 : decode cX12_hire 9 = .ok (.invokestatic 68, 3) := dc_184 0 68 (by decide +kernel)
theorem dX12_hire_12 : decode cX12_hire 12 = .ok (.ifCond .ne 5, 3) := dc_154 0 5 5 (by decide +kernel)
theorem dX12_hire_17 : decode cX12_hire 17 = .ok (.iload_n 3, 1) := dc_29 (by decide +kernel)
theorem dX12_hire_18 : decode cX12_hire 18 = .ok (.iconst 1, 1) := dc_4 (by decide +kernel)
theorem dX12_hire_19 : decode cX12_hire 19 = .ok (.sipush 200, 3) := dc_17 0 200 200 (by decide +kernel)
theorem dX12_hire_22 : decode cX12_hire 22 = .ok (.invokestatic 64, 3) := dc_184 0 64 (by decide +kernel)
theorem dX12_hire_25 : decode cX12_hire 25 = .ok (.ifCond .eq 12, 3) := dc_153 0 12 12 (by decide +kernel)
theorem dX12_hire_37 : decode cX12_hire 37 = .ok (.bipush (-2), 2) := dc_16 254 (-2) (by decide +kernel)
theorem dX12_hire_39 : decode cX12_hire 39 = .ok (.ireturn, 1) := dc_172 (by decide +kernel)
theorem dX12_hire_28 : decode cX12_hire 28 = .ok (.aload_n 0, 1) := dc_42 (by decide +kernel)
theorem dX12_hire_29 : decode cX12_hire 29 = .ok (.iload 4, 2) := dc_21 4 (by decide +kernel)
theorem dX12_hire_31 : decode cX12_hire 31 = .ok (.invokevirtual 83, 3) := dc_182 0 83 (by decide +kernel)
theorem kw_6_137 : (Jvm.Cond.methodLink "ParishUnionModel" (83 : Nat) ({ cls := "ParishUnionModel", name := "isRightWeek", desc := "(I)Z" } : Jvm.MethodName)) ∈ gT := gT_of (tb_6 _ (List.mem_of_getElem? (i := 137) rfl)) rfl
theorem kw_6_140 : (Jvm.Cond.code ({ cls := "ParishUnionModel", name := "isRightWeek", desc := "(I)Z" } : Jvm.MethodName) prog_14_method_15_code (2 : Nat) (Option.some Jvm.ClassFile.FieldType.boolean)) ∈ gT := gT_of (tb_6 _ (List.mem_of_getElem? (i := 140) rfl)) rfl
theorem okX12_isRightWeek : gQok yX12_isRightWeek cX12_isRightWeek 2 (Option.some Jvm.ClassFile.FieldType.boolean) 1 := ⟨kw_6_140, kw_1_13, by decide +kernel, by decide +kernel, by decide +kernel⟩
theorem kw_6_139 : (Jvm.Cond.instanceMethod ({ cls := "ParishUnionModel", name := "isRightWeek", desc := "(I)Z" } : Jvm.MethodName)) ∈ gT := gT_of (tb_6 _ (List.mem_of_getElem? (i := 139) rfl)) rfl
theorem kw_0_41 : (Jvm.Cond.selects "ParishUnionModel" ({ cls := "ParishUnionModel", name := "isRightWeek", desc := "(I)Z" } : Jvm.MethodName) ({ cls := "ParishUnionModel", name := "isRightWeek", desc := "(I)Z" } : Jvm.MethodName)) ∈ gT := gT_of (tb_0 _ (List.mem_of_getElem? (i := 41) rfl)) rfl
theorem dX12_hire_34 : decode cX12_hire 34 = .ok (.ifCond .ne 6, 3) := dc_154 0 6 6 (by decide +kernel)
theorem dX12_hire_40 : decode cX12_hire 40 = .ok (.aload_n 0, 1) := dc_42 (by decide +kernel)
theorem dX12_hire_41 : decode cX12_hire 41 = .ok (.iload 5, 2) := dc_21 5 (by decide +kernel)
theorem dX12_hire_43 : decode cX12_hire 43 = .ok (.ifCond .eq 7, 3) := dc_153 0 7 7 (by decide +kernel)
theorem dX12_hire_50 : decode cX12_hire 50 = .ok (.iconst 1, 1) := dc_4 (by decide +kernel)
theorem dX12_hire_51 : decode cX12_hire 51 = .ok (.iload_n 1, 1) := dc_27 (by decide +kernel)
theorem dX12_hire_52 : decode cX12_hire 52 = .ok (.iload_n 2, 1) := dc_28 (by decide +kernel)
theorem dX12_hire_53 : decode cX12_hire 53 = .ok (.iload_n 3, 1) := dc_29 (by decide +kernel)
theorem dX12_hire_54 : decode cX12_hire 54 = .ok (.iload 4, 2) := dc_21 4 (by decide +kernel)
theorem dX12_hire_56 : decode cX12_hire 56 = .ok (.iload 6, 2) := dc_21 6 (by decide +kernel)
theorem dX12_hire_58 : decode cX12_hire 58 = .ok (.invokevirtual 86, 3) := dc_182 0 86 (by decide +kernel)
theorem kw_6_141 : (Jvm.Cond.methodLink "ParishUnionModel" (86 : Nat) ({ cls := "ParishUnionModel", name := "tells", desc := "(IIIIIZ)I" } : Jvm.MethodName)) ∈ gT := gT_of (tb_6 _ (List.mem_of_getElem? (i := 141) rfl)) rfl
theorem kw_6_144 : (Jvm.Cond.code ({ cls := "ParishUnionModel", name := "tells", desc := "(IIIIIZ)I" } : Jvm.MethodName) prog_14_method_16_code (8 : Nat) (Option.some Jvm.ClassFile.FieldType.int)) ∈ gT := gT_of (tb_6 _ (List.mem_of_getElem? (i := 144) rfl)) rfl
theorem okX12_tells : gQok yX12_tells cX12_tells 8 (Option.some Jvm.ClassFile.FieldType.int) 6 := ⟨kw_6_144, kw_1_13, by decide +kernel, by decide +kernel, by decide +kernel⟩
theorem kw_6_143 : (Jvm.Cond.instanceMethod ({ cls := "ParishUnionModel", name := "tells", desc := "(IIIIIZ)I" } : Jvm.MethodName)) ∈ gT := gT_of (tb_6 _ (List.mem_of_getElem? (i := 143) rfl)) rfl
theorem kw_0_42 : (Jvm.Cond.selects "ParishUnionModel" ({ cls := "ParishUnionModel", name := "tells", desc := "(IIIIIZ)I" } : Jvm.MethodName) ({ cls := "ParishUnionModel", name := "tells", desc := "(IIIIIZ)I" } : Jvm.MethodName)) ∈ gT := gT_of (tb_0 _ (List.mem_of_getElem? (i := 42) rfl)) rfl
theorem dX12_hire_61 : decode cX12_hire 61 = .ok (.ireturn, 1) := dc_172 (by decide +kernel)
theorem dX12_hire_46 : decode cX12_hire 46 = .ok (.iconst 4, 1) := dc_7 (by decide +kernel)
theorem dX12_hire_47 : decode cX12_hire 47 = .ok (.goto 4, 3) := dc_167 0 4 4 (by decide +kernel)
abbrev R_X12_hire : Room := { frames := 2, cells := 0, slots := 0, locals := 49 }
set_option maxRecDepth 100000 in
set_option maxHeartbeats 4000000 in
theorem s_X12_hire {l : Launch} {n0 : Nat} {D : va_G} {cA : Nat → ClassId} {M : gM} (a : Int) (r_a : -2147483648 ≤ a ∧ a ≤ 2147483647) (b : Int) (r_b : -2147483648 ≤ b ∧ b ≤ 2147483647) (c : Int) (r_c : -2147483648 ≤ c ∧ c ≤ 2147483647) (d : Int) (r_d : -2147483648 ≤ d ∧ d ≤ 2147483647) (f : Int) (r_f : 0 ≤ f ∧ f ≤ 1) (g : Int) (r_g : 0 ≤ g ∧ g ≤ 1) {sz : Nat} (hsz : 206 ≤ sz) (I : gI sz M) (C : gC sz M) (W : gW 191 M)  : Met l yX12_hire (gWsOf yX12_hire cX12_hire 7 (Option.some Jvm.ClassFile.FieldType.int)) R_X12_hire (gPc n0 D cA [gA n0 190, gJ a, gJ b, gJ c, gJ d, gJ f, gJ g] M sz) (gQi n0 D cA sz (fun z M1 => (-4 ≤ z ∧ z ≤ 39) ∧ gI sz M1 ∧ gC sz M1 ∧ gFr 464228105030079899045462016 M M1 ∧ (gW 191 M1 ∧ ((((¬ (0 ≤ a ∧ a < M 191 1) ∨ ¬ (0 ≤ b ∧ b ≤ 5)) ∧ z = -1) ∨ (¬ (¬ (0 ≤ a ∧ a < M 191 1) ∨ ¬ (0 ≤ b ∧ b ≤ 5)) ∧ (¬ (1 ≤ c ∧ c ≤ 200) ∨ ¬ (-3000 ≤ d ∧ d ≤ M 191 0)) ∧ z = -2)) ∧ pSameM M M1 ∨ (¬ (¬ (0 ≤ a ∧ a < M 191 1) ∨ ¬ (0 ≤ b ∧ b ≤ 5)) ∧ ¬ (¬ (1 ≤ c ∧ c ≤ 200) ∨ ¬ (-3000 ≤ d ∧ d ≤ M 191 0))) ∧ ((f = 1 ∧ pTellM 4 a b c d g z M M1) ∨ (f = 0 ∧ pTellM 1 a b c d g z M M1)))))) 0 0 (fun q => n0 ≤ q) := by
  refine gMetI [gA n0 190, gJ a, gJ b, gJ c, gJ d, gJ f, gJ g] (by decide) (Nat.le_of_ble_eq_true rfl) ⟨rfl, rfl⟩ ?_
  intro p e s m args below meth cd Q X hq
  have X : gCx p s m args meth cd n0 D cA "ParishUnionModel" cX12_hire 7 := X
  show G p l e R_X12_hire s m args below meth cd n0 D cA 7 Q 0 0 M sz 0 [(0, gA n0 190), (1, gJ a), (2, gJ b), (3, gJ c), (4, gJ d), (5, gJ f), (6, gJ g)] []
  obtain ⟨v1, hv1, rv1⟩ := gRd I (by decide) (gsz hsz (by decide)) (rs_PERS (k := 1) (by omega)).1
  obtain ⟨v2, hv2, rv2⟩ := gRd I (by decide) (gsz hsz (by decide)) (rs_NOW (k := 0) (by omega)).1
  refine g_aload_n (n := 1) X 0 dX12_hire_0 rfl rfl rfl ?_
  refine g_iload_n (n := 2) X 1 dX12_hire_1 rfl rfl rfl ?_
  refine g_callVi (n := 5) (As := [gJ a]) (rest := []) (cs1 := 0) (ss1 := 0) X (s_X12_isPerson a (by omega) hsz I C ) okX12_isPerson kw_6_125 ⟨kw_6_127, kw_0_40⟩ ⟨rfl, rfl⟩ ⟨Nat.le_of_ble_eq_true rfl, Nat.le_of_ble_eq_true rfl⟩ rfl (by decide) (gsz hsz (by decide)) lay_190 rfl rfl (Nat.le_of_ble_eq_true rfl) ⟨Nat.le_of_ble_eq_true rfl, Nat.le_of_ble_eq_true rfl⟩ rfl rfl dX12_hire_2 rfl (fun v3 M4 P5 => ?_)
  obtain ⟨rfl, rv3, xv3⟩ := P5
  refine g_if_eq (n := 8) (tgt := 15) X dX12_hire_5 (by decide) (by omega) rfl (fun c6 => ?_) (fun c6 => ?_)
  · refine g_iconst (n := 16) X dX12_hire_15 rfl ?_
    exact hq _ _ _ _ dX12_hire_16 ⟨by omega, I, C, gFr.rf, ⟨W, Or.inl ⟨by omega, pSameM.rf⟩⟩⟩
  · refine g_iload_n (n := 9) X 2 dX12_hire_8 rfl rfl rfl ?_
    refine g_callSi (n := 12) (As := [gJ b]) (rest := []) (cs1 := 0) (ss1 := 0) X (s_X12_isParish b (by omega) hsz I C ) okX12_isParish kw_6_103 kw_6_104 ⟨rfl, rfl⟩ ⟨Nat.le_of_ble_eq_true rfl, Nat.le_of_ble_eq_true rfl⟩ rfl rfl (Nat.le_of_ble_eq_true rfl) ⟨Nat.le_of_ble_eq_true rfl, Nat.le_of_ble_eq_true rfl⟩ rfl rfl dX12_hire_9 rfl (fun v7 M8 P9 => ?_)
    obtain ⟨rfl, rv7, xv7⟩ := P9
    refine g_if_ne (n := 15) (tgt := 17) X dX12_hire_12 (by decide) (by omega) rfl (fun c10 => ?_) (fun c10 => ?_)
    · refine g_iload_n (n := 18) X 3 dX12_hire_17 rfl rfl rfl ?_
      refine g_iconst (n := 19) X dX12_hire_18 rfl ?_
      refine g_sipush (n := 22) X dX12_hire_19 (by decide +kernel) rfl ?_
      refine g_callSi (n := 25) (As := [gJ c, gJ 1, gJ 200]) (rest := []) (cs1 := 0) (ss1 := 0) X (s_X12_in c (by omega) 1 (by omega) 200 (by omega) hsz I C ) okX12_in kw_6_106 kw_6_107 ⟨rfl, rfl⟩ ⟨Nat.le_of_ble_eq_true rfl, Nat.le_of_ble_eq_true rfl⟩ rfl rfl (Nat.le_of_ble_eq_true rfl) ⟨Nat.le_of_ble_eq_true rfl, Nat.le_of_ble_eq_true rfl⟩ rfl rfl dX12_hire_22 rfl (fun v11 M12 P13 => ?_)
      obtain ⟨rfl, rv11, xv11⟩ := P13
      refine g_if_eq (n := 28) (tgt := 37) X dX12_hire_25 (by decide) (by omega) rfl (fun c14 => ?_) (fun c14 => ?_)
      · refine g_bipush (n := 39) X dX12_hire_37 (by decide +kernel) rfl ?_
        exact hq _ _ _ _ dX12_hire_39 ⟨by omega, I, C, gFr.rf, ⟨W, Or.inl ⟨by omega, pSameM.rf⟩⟩⟩
      · refine g_aload_n (n := 29) X 0 dX12_hire_28 rfl rfl rfl ?_
        refine g_iload (n := 31) X 4 dX12_hire_29 rfl rfl ?_
        refine g_callVi (n := 34) (As := [gJ d]) (rest := []) (cs1 := 0) (ss1 := 0) X (s_X12_isRightWeek d (by omega) hsz I C ) okX12_isRightWeek kw_6_137 ⟨kw_6_139, kw_0_41⟩ ⟨rfl, rfl⟩ ⟨Nat.le_of_ble_eq_true rfl, Nat.le_of_ble_eq_true rfl⟩ rfl (by decide) (gsz hsz (by decide)) lay_190 rfl rfl (Nat.le_of_ble_eq_true rfl) ⟨Nat.le_of_ble_eq_true rfl, Nat.le_of_ble_eq_true rfl⟩ rfl rfl dX12_hire_31 rfl (fun v15 M16 P17 => ?_)
        obtain ⟨rfl, rv15, xv15⟩ := P17
        refine g_if_ne (n := 37) (tgt := 40) X dX12_hire_34 (by decide) (by omega) rfl (fun c18 => ?_) (fun c18 => ?_)
        · refine g_aload_n (n := 41) X 0 dX12_hire_40 rfl rfl rfl ?_
          refine g_iload (n := 43) X 5 dX12_hire_41 rfl rfl ?_
          refine g_if_eq (n := 46) (tgt := 50) X dX12_hire_43 (by decide) (by omega) rfl (fun c19 => ?_) (fun c19 => ?_)
          · refine g_iconst (n := 51) X dX12_hire_50 rfl ?_
            refine g_iload_n (n := 52) X 1 dX12_hire_51 rfl rfl rfl ?_
            refine g_iload_n (n := 53) X 2 dX12_hire_52 rfl rfl rfl ?_
            refine g_iload_n (n := 54) X 3 dX12_hire_53 rfl rfl rfl ?_
            refine g_iload (n := 56) X 4 dX12_hire_54 rfl rfl ?_
            refine g_iload (n := 58) X 6 dX12_hire_56 rfl rfl ?_
            refine g_callVi (n := 61) (As := [gJ 1, gJ a, gJ b, gJ c, gJ d, gJ g]) (rest := []) (cs1 := 0) (ss1 := 0) X (s_X12_tells 1 (by omega) a (by omega) b (by omega) c (by omega) d (by omega) g (by omega) hsz I C W ⟨by omega, fun h => by exfalso; omega⟩) okX12_tells kw_6_141 ⟨kw_6_143, kw_0_42⟩ ⟨rfl, rfl⟩ ⟨Nat.le_of_ble_eq_true rfl, Nat.le_of_ble_eq_true rfl⟩ rfl (by decide) (gsz hsz (by decide)) lay_190 rfl rfl (Nat.le_of_ble_eq_true rfl) ⟨Nat.le_of_ble_eq_true rfl, Nat.le_of_ble_eq_true rfl⟩ rfl rfl dX12_hire_58 rfl (fun v20 M21 P22 => ?_)
            obtain ⟨rv20, IM21, CM21, FM21, xM21⟩ := P22
            exact hq _ _ _ _ dX12_hire_61 ⟨by omega, IM21, CM21, (gFr.c gFr.rf FM21 rfl), ⟨xM21.1, Or.inr ⟨⟨by omega, by omega⟩, (by first | exact Or.inl ⟨by omega, xM21.2⟩ | exact Or.inr ⟨by omega, xM21.2⟩)⟩⟩⟩
          · refine g_iconst (n := 47) X dX12_hire_46 rfl ?_
            refine g_goto (tgt := 51) X dX12_hire_47 (by decide) ?_
            refine g_iload_n (n := 52) X 1 dX12_hire_51 rfl rfl rfl ?_
            refine g_iload_n (n := 53) X 2 dX12_hire_52 rfl rfl rfl ?_
            refine g_iload_n (n := 54) X 3 dX12_hire_53 rfl rfl rfl ?_
            refine g_iload (n := 56) X 4 dX12_hire_54 rfl rfl ?_
            refine g_iload (n := 58) X 6 dX12_hire_56 rfl rfl ?_
            refine g_callVi (n := 61) (As := [gJ 4, gJ a, gJ b, gJ c, gJ d, gJ g]) (rest := []) (cs1 := 0) (ss1 := 0) X (s_X12_tells 4 (by omega) a (by omega) b (by omega) c (by omega) d (by omega) g (by omega) hsz I C W ⟨by omega, fun h => by exfalso; omega⟩) okX12_tells kw_6_141 ⟨kw_6_143, kw_0_42⟩ ⟨rfl, rfl⟩ ⟨Nat.le_of_ble_eq_true rfl, Nat.le_of_ble_eq_true rfl⟩ rfl (by decide) (gsz hsz (by decide)) lay_190 rfl rfl (Nat.le_of_ble_eq_true rfl) ⟨Nat.le_of_ble_eq_true rfl, Nat.le_of_ble_eq_true rfl⟩ rfl rfl dX12_hire_58 rfl (fun v23 M24 P25 => ?_)
            obtain ⟨rv23, IM24, CM24, FM24, xM24⟩ := P25
            exact hq _ _ _ _ dX12_hire_61 ⟨by omega, IM24, CM24, (gFr.c gFr.rf FM24 rfl), ⟨xM24.1, Or.inr ⟨⟨by omega, by omega⟩, (by first | exact Or.inl ⟨by omega, xM24.2⟩ | exact Or.inr ⟨by omega, xM24.2⟩)⟩⟩⟩
        · refine g_bipush (n := 39) X dX12_hire_37 (by decide +kernel) rfl ?_
          exact hq _ _ _ _ dX12_hire_39 ⟨by omega, I, C, gFr.rf, ⟨W, Or.inl ⟨by omega, pSameM.rf⟩⟩⟩
    · refine g_iconst (n := 16) X dX12_hire_15 rfl ?_
      exact hq _ _ _ _ dX12_hire_16 ⟨by omega, I, C, gFr.rf, ⟨W, Or.inl ⟨by omega, pSameM.rf⟩⟩⟩
theorem dX12_rated_0 : decode cX12_rated 0 = .ok (.aload_n 0, 1) := dc_42 (by decide +kernel)
theorem dX12_rated_1 : decode cX12_rated 1 = .ok (.iload_n 1, 1) := dc_27 (by decide +kernel)
theorem dX12_rated_2 : decode cX12_rated 2 = .ok (.invokevirtual 76, 3) := dc_182 0 76 (by decide +kernel)
theorem dX12_rated_5 : decode cX12_rated 5 = .ok (.ifCond .eq 10, 3) := dc_153 0 10 10 (by decide +kernel)
theorem dX12_rated_15 : decode cX12_rated 15 = .ok (.iconst (-1), 1) := dc_2 (by decide +kernel)
theorem dX12_rated_16 : decode cX12_rated 16 = .ok (.ireturn, 1) := dc_172 (by decide +kernel)
theorem dX12_rated_8 : decode cX12_rated 8 = .ok (.iload_n 2, 1) := dc_28 (by decide +kernel)
theorem dX12_rated_9 : decode cX12_rated 9 = .ok (.invokestatic 68, 3) := dc_184 0 68 (by decide +kernel)
theorem dX12_rated_12 : decode cX12_rated 12 = .ok (.ifCond .ne 5, 3) := dc_154 0 5 5 (by decide +kernel)
theorem dX12_rated_17 : decode cX12_rated 17 = .ok (.iload_n 3, 1) := dc_29 (by decide +kernel)
theorem dX12_rated_18 : decode cX12_rated 18 = .ok (.iconst 1, 1) := dc_4 (by decide +kernel)
theorem dX12_rated_19 : decode cX12_rated 19 = .ok (.sipush 9999, 3) := dc_17 39 15 9999 (by decide +kernel)
theorem dX12_rated_22 : decode cX12_rated 22 = .ok (.invokestatic 64, 3) := dc_184 0 64 (by decide +kernel)
theorem dX12_rated_25 : decode cX12_rated 25 = .ok (.ifCond .eq 27, 3) := dc_153 0 27 27 (by decide +kernel)
theorem dX12_rated_52 : decode cX12_rated 52 = .ok (.bipush (-2), 2) := dc_16 254 (-2) (by decide +kernel)
theorem dX12_rated_54 : decode cX12_rated 54 = .ok (.ireturn, 1) := dc_172 (by decide +kernel)
theorem dX12_rated_28 : decode cX12_rated 28 = .ok (.aload_n 0, 1) := dc_42 (by decide +kernel)
theorem dX12_rated_29 : decode cX12_rated 29 = .ok (.iload 4, 2) := dc_21 4 (by decide +kernel)
theorem dX12_rated_31 : decode cX12_rated 31 = .ok (.invokevirtual 83, 3) := dc_182 0 83 (by decide +kernel)
theorem dX12_rated_34 : decode cX12_rated 34 = .ok (.ifCond .eq 18, 3) := dc_153 0 18 18 (by decide +kernel)
theorem dX12_rated_37 : decode cX12_rated 37 = .ok (.aload_n 0, 1) := dc_42 (by decide +kernel)
theorem dX12_rated_38 : decode cX12_rated 38 = .ok (.iconst 2, 1) := dc_5 (by decide +kernel)
theorem dX12_rated_39 : decode cX12_rated 39 = .ok (.iload_n 1, 1) := dc_27 (by decide +kernel)
theorem dX12_rated_40 : decode cX12_rated 40 = .ok (.iload_n 2, 1) := dc_28 (by decide +kernel)
theorem dX12_rated_41 : decode cX12_rated 41 = .ok (.iload_n 3, 1) := dc_29 (by decide +kernel)
theorem dX12_rated_42 : decode cX12_rated 42 = .ok (.iload 4, 2) := dc_21 4 (by decide +kernel)
theorem dX12_rated_44 : decode cX12_rated 44 = .ok (.iload 5, 2) := dc_21 5 (by decide +kernel)
theorem dX12_rated_46 : decode cX12_rated 46 = .ok (.invokevirtual 86, 3) := dc_182 0 86 (by decide +kernel)
theorem dX12_rated_49 : decode cX12_rated 49 = .ok (.goto 5, 3) := dc_167 0 5 5 (by decide +kernel)
abbrev R_X12_rated : Room := { frames := 2, cells := 0, slots := 0, locals := 49 }
set_option maxRecDepth 100000 in
set_option maxHeartbeats 4000000 in
theorem s_X12_rated {l : Launch} {n0 : Nat} {D : va_G} {cA : Nat → ClassId} {M : gM} (a : Int) (r_a : -2147483648 ≤ a ∧ a ≤ 2147483647) (b : Int) (r_b : -2147483648 ≤ b ∧ b ≤ 2147483647) (c : Int) (r_c : -2147483648 ≤ c ∧ c ≤ 2147483647) (d : Int) (r_d : -2147483648 ≤ d ∧ d ≤ 2147483647) (f : Int) (r_f : 0 ≤ f ∧ f ≤ 1) {sz : Nat} (hsz : 206 ≤ sz) (I : gI sz M) (C : gC sz M) (W : gW 191 M)  : Met l yX12_rated (gWsOf yX12_rated cX12_rated 6 (Option.some Jvm.ClassFile.FieldType.int)) R_X12_rated (gPc n0 D cA [gA n0 190, gJ a, gJ b, gJ c, gJ d, gJ f] M sz) (gQi n0 D cA sz (fun z M1 => (-4 ≤ z ∧ z ≤ 39) ∧ gI sz M1 ∧ gC sz M1 ∧ gFr 464228105030079899045462016 M M1 ∧ (gW 191 M1 ∧ ((((¬ (0 ≤ a ∧ a < M 191 1) ∨ ¬ (0 ≤ b ∧ b ≤ 5)) ∧ z = -1) ∨ (¬ (¬ (0 ≤ a ∧ a < M 191 1) ∨ ¬ (0 ≤ b ∧ b ≤ 5)) ∧ (¬ (1 ≤ c ∧ c ≤ 9999) ∨ ¬ (-3000 ≤ d ∧ d ≤ M 191 0)) ∧ z = -2)) ∧ pSameM M M1 ∨ (¬ (¬ (0 ≤ a ∧ a < M 191 1) ∨ ¬ (0 ≤ b ∧ b ≤ 5)) ∧ ¬ (¬ (1 ≤ c ∧ c ≤ 9999) ∨ ¬ (-3000 ≤ d ∧ d ≤ M 191 0))) ∧ (pTellM 2 a b c d f z M M1))))) 0 0 (fun q => n0 ≤ q) := by
  refine gMetI [gA n0 190, gJ a, gJ b, gJ c, gJ d, gJ f] (by decide) (Nat.le_of_ble_eq_true rfl) ⟨rfl, rfl⟩ ?_
  intro p e s m args below meth cd Q X hq
  have X : gCx p s m args meth cd n0 D cA "ParishUnionModel" cX12_rated 6 := X
  show G p l e R_X12_rated s m args below meth cd n0 D cA 6 Q 0 0 M sz 0 [(0, gA n0 190), (1, gJ a), (2, gJ b), (3, gJ c), (4, gJ d), (5, gJ f)] []
  obtain ⟨v1, hv1, rv1⟩ := gRd I (by decide) (gsz hsz (by decide)) (rs_PERS (k := 1) (by omega)).1
  obtain ⟨v2, hv2, rv2⟩ := gRd I (by decide) (gsz hsz (by decide)) (rs_NOW (k := 0) (by omega)).1
  refine g_aload_n (n := 1) X 0 dX12_rated_0 rfl rfl rfl ?_
  refine g_iload_n (n := 2) X 1 dX12_rated_1 rfl rfl rfl ?_
  refine g_callVi (n := 5) (As := [gJ a]) (rest := []) (cs1 := 0) (ss1 := 0) X (s_X12_isPerson a (by omega) hsz I C ) okX12_isPerson kw_6_125 ⟨kw_6_127, kw_0_40⟩ ⟨rfl, rfl⟩ ⟨Nat.le_of_ble_eq_true rfl, Nat.le_of_ble_eq_true rfl⟩ rfl (by decide) (gsz hsz (by decide)) lay_190 rfl rfl (Nat.le_of_ble_eq_true rfl) ⟨Nat.le_of_ble_eq_true rfl, Nat.le_of_ble_eq_true rfl⟩ rfl rfl dX12_rated_2 rfl (fun v3 M4 P5 => ?_)
  obtain ⟨rfl, rv3, xv3⟩ := P5
  refine g_if_eq (n := 8) (tgt := 15) X dX12_rated_5 (by decide) (by omega) rfl (fun c6 => ?_) (fun c6 => ?_)
  · refine g_iconst (n := 16) X dX12_rated_15 rfl ?_
    exact hq _ _ _ _ dX12_rated_16 ⟨by omega, I, C, gFr.rf, ⟨W, Or.inl ⟨by omega, pSameM.rf⟩⟩⟩
  · refine g_iload_n (n := 9) X 2 dX12_rated_8 rfl rfl rfl ?_
    refine g_callSi (n := 12) (As := [gJ b]) (rest := []) (cs1 := 0) (ss1 := 0) X (s_X12_isParish b (by omega) hsz I C ) okX12_isParish kw_6_103 kw_6_104 ⟨rfl, rfl⟩ ⟨Nat.le_of_ble_eq_true rfl, Nat.le_of_ble_eq_true rfl⟩ rfl rfl (Nat.le_of_ble_eq_true rfl) ⟨Nat.le_of_ble_eq_true rfl, Nat.le_of_ble_eq_true rfl⟩ rfl rfl dX12_rated_9 rfl (fun v7 M8 P9 => ?_)
    obtain ⟨rfl, rv7, xv7⟩ := P9
    refine g_if_ne (n := 15) (tgt := 17) X dX12_rated_12 (by decide) (by omega) rfl (fun c10 => ?_) (fun c10 => ?_)
    · refine g_iload_n (n := 18) X 3 dX12_rated_17 rfl rfl rfl ?_
      refine g_iconst (n := 19) X dX12_rated_18 rfl ?_
      refine g_sipush (n := 22) X dX12_rated_19 (by decide +kernel) rfl ?_
      refine g_callSi (n := 25) (As := [gJ c, gJ 1, gJ 9999]) (rest := []) (cs1 := 0) (ss1 := 0) X (s_X12_in c (by omega) 1 (by omega) 9999 (by omega) hsz I C ) okX12_in kw_6_106 kw_6_107 ⟨rfl, rfl⟩ ⟨Nat.le_of_ble_eq_true rfl, Nat.le_of_ble_eq_true rfl⟩ rfl rfl (Nat.le_of_ble_eq_true rfl) ⟨Nat.le_of_ble_eq_true rfl, Nat.le_of_ble_eq_true rfl⟩ rfl rfl dX12_rated_22 rfl (fun v11 M12 P13 => ?_)
      obtain ⟨rfl, rv11, xv11⟩ := P13
      refine g_if_eq (n := 28) (tgt := 52) X dX12_rated_25 (by decide) (by omega) rfl (fun c14 => ?_) (fun c14 => ?_)
      · refine g_bipush (n := 54) X dX12_rated_52 (by decide +kernel) rfl ?_
        exact hq _ _ _ _ dX12_rated_54 ⟨by omega, I, C, gFr.rf, ⟨W, Or.inl ⟨by omega, pSameM.rf⟩⟩⟩
      · refine g_aload_n (n := 29) X 0 dX12_rated_28 rfl rfl rfl ?_
        refine g_iload (n := 31) X 4 dX12_rated_29 rfl rfl ?_
        refine g_callVi (n := 34) (As := [gJ d]) (rest := []) (cs1 := 0) (ss1 := 0) X (s_X12_isRightWeek d (by omega) hsz I C ) okX12_isRightWeek kw_6_137 ⟨kw_6_139, kw_0_41⟩ ⟨rfl, rfl⟩ ⟨Nat.le_of_ble_eq_true rfl, Nat.le_of_ble_eq_true rfl⟩ rfl (by decide) (gsz hsz (by decide)) lay_190 rfl rfl (Nat.le_of_ble_eq_true rfl) ⟨Nat.le_of_ble_eq_true rfl, Nat.le_of_ble_eq_true rfl⟩ rfl rfl dX12_rated_31 rfl (fun v15 M16 P17 => ?_)
        obtain ⟨rfl, rv15, xv15⟩ := P17
        refine g_if_eq (n := 37) (tgt := 52) X dX12_rated_34 (by decide) (by omega) rfl (fun c18 => ?_) (fun c18 => ?_)
        · refine g_bipush (n := 54) X dX12_rated_52 (by decide +kernel) rfl ?_
          exact hq _ _ _ _ dX12_rated_54 ⟨by omega, I, C, gFr.rf, ⟨W, Or.inl ⟨by omega, pSameM.rf⟩⟩⟩
        · refine g_aload_n (n := 38) X 0 dX12_rated_37 rfl rfl rfl ?_
          refine g_iconst (n := 39) X dX12_rated_38 rfl ?_
          refine g_iload_n (n := 40) X 1 dX12_rated_39 rfl rfl rfl ?_
          refine g_iload_n (n := 41) X 2 dX12_rated_40 rfl rfl rfl ?_
          refine g_iload_n (n := 42) X 3 dX12_rated_41 rfl rfl rfl ?_
          refine g_iload (n := 44) X 4 dX12_rated_42 rfl rfl ?_
          refine g_iload (n := 46) X 5 dX12_rated_44 rfl rfl ?_
          refine g_callVi (n := 49) (As := [gJ 2, gJ a, gJ b, gJ c, gJ d, gJ f]) (rest := []) (cs1 := 0) (ss1 := 0) X (s_X12_tells 2 (by omega) a (by omega) b (by omega) c (by omega) d (by omega) f (by omega) hsz I C W ⟨by omega, fun h => by exfalso; omega⟩) okX12_tells kw_6_141 ⟨kw_6_143, kw_0_42⟩ ⟨rfl, rfl⟩ ⟨Nat.le_of_ble_eq_true rfl, Nat.le_of_ble_eq_true rfl⟩ rfl (by decide) (gsz hsz (by decide)) lay_190 rfl rfl (Nat.le_of_ble_eq_true rfl) ⟨Nat.le_of_ble_eq_true rfl, Nat.le_of_ble_eq_true rfl⟩ rfl rfl dX12_rated_46 rfl (fun v19 M20 P21 => ?_)
          obtain ⟨rv19, IM20, CM20, FM20, xM20⟩ := P21
          refine g_goto (tgt := 54) X dX12_rated_49 (by decide) ?_
          exact hq _ _ _ _ dX12_rated_54 ⟨by omega, IM20, CM20, (gFr.c gFr.rf FM20 rfl), ⟨xM20.1, Or.inr ⟨⟨by omega, by omega⟩, xM20.2⟩⟩⟩
    · refine g_iconst (n := 16) X dX12_rated_15 rfl ?_
      exact hq _ _ _ _ dX12_rated_16 ⟨by omega, I, C, gFr.rf, ⟨W, Or.inl ⟨by omega, pSameM.rf⟩⟩⟩
theorem dX12_wed_0 : decode cX12_wed 0 = .ok (.aload_n 0, 1) := dc_42 (by decide +kernel)
theorem dX12_wed_1 : decode cX12_wed 1 = .ok (.iload_n 1, 1) := dc_27 (by decide +kernel)
theorem dX12_wed_2 : decode cX12_wed 2 = .ok (.invokevirtual 76, 3) := dc_182 0 76 (by decide +kernel)
theorem dX12_wed_5 : decode cX12_wed 5 = .ok (.ifCond .eq 11, 3) := dc_153 0 11 11 (by decide +kernel)
theorem dX12_wed_16 : decode cX12_wed 16 = .ok (.iconst (-1), 1) := dc_2 (by decide +kernel)
theorem dX12_wed_17 : decode cX12_wed 17 = .ok (.ireturn, 1) := dc_172 (by decide +kernel)
theorem dX12_wed_8 : decode cX12_wed 8 = .ok (.aload_n 0, 1) := dc_42 (by decide +kernel)
theorem dX12_wed_9 : decode cX12_wed 9 = .ok (.iload_n 2, 1) := dc_28 (by decide +kernel)
theorem dX12_wed_10 : decode cX12_wed 10 = .ok (.invokevirtual 76, 3) := dc_182 0 76 (by decide +kernel)
theorem dX12_wed_13 : decode cX12_wed 13 = .ok (.ifCond .ne 5, 3) := dc_154 0 5 5 (by decide +kernel)
theorem dX12_wed_18 : decode cX12_wed 18 = .ok (.aload_n 0, 1) := dc_42 (by decide +kernel)
theorem dX12_wed_19 : decode cX12_wed 19 = .ok (.getfield 7, 3) := dc_180 0 7 (by decide +kernel)
theorem dX12_wed_22 : decode cX12_wed 22 = .ok (.bipush 80, 2) := dc_16 80 80 (by decide +kernel)
theorem dX12_wed_24 : decode cX12_wed 24 = .ok (.iload_n 1, 1) := dc_27 (by decide +kernel)
theorem dX12_wed_25 : decode cX12_wed 25 = .ok (.iadd, 1) := dc_96 (by decide +kernel)
theorem dX12_wed_26 : decode cX12_wed 26 = .ok (.iaload, 1) := dc_46 (by decide +kernel)
theorem dX12_wed_27 : decode cX12_wed 27 = .ok (.iconst 1, 1) := dc_4 (by decide +kernel)
theorem dX12_wed_28 : decode cX12_wed 28 = .ok (.if_icmp .ne 23, 3) := dc_160 0 23 23 (by decide +kernel)
theorem dX12_wed_51 : decode cX12_wed 51 = .ok (.bipush (-2), 2) := dc_16 254 (-2) (by decide +kernel)
theorem dX12_wed_53 : decode cX12_wed 53 = .ok (.ireturn, 1) := dc_172 (by decide +kernel)
theorem dX12_wed_31 : decode cX12_wed 31 = .ok (.aload_n 0, 1) := dc_42 (by decide +kernel)
theorem dX12_wed_32 : decode cX12_wed 32 = .ok (.getfield 7, 3) := dc_180 0 7 (by decide +kernel)
theorem dX12_wed_35 : decode cX12_wed 35 = .ok (.bipush 80, 2) := dc_16 80 80 (by decide +kernel)
theorem dX12_wed_37 : decode cX12_wed 37 = .ok (.iload_n 2, 1) := dc_28 (by decide +kernel)
theorem dX12_wed_38 : decode cX12_wed 38 = .ok (.iadd, 1) := dc_96 (by decide +kernel)
theorem dX12_wed_39 : decode cX12_wed 39 = .ok (.iaload, 1) := dc_46 (by decide +kernel)
theorem dX12_wed_40 : decode cX12_wed 40 = .ok (.ifCond .ne 11, 3) := dc_154 0 11 11 (by decide +kernel)
theorem dX12_wed_43 : decode cX12_wed 43 = .ok (.aload_n 0, 1) := dc_42 (by decide +kernel)
theorem dX12_wed_44 : decode cX12_wed 44 = .ok (.iload_n 3, 1) := dc_29 (by decide +kernel)
theorem dX12_wed_45 : decode cX12_wed 45 = .ok (.invokevirtual 83, 3) := dc_182 0 83 (by decide +kernel)
theorem dX12_wed_48 : decode cX12_wed 48 = .ok (.ifCond .ne 6, 3) := dc_154 0 6 6 (by decide +kernel)
theorem dX12_wed_54 : decode cX12_wed 54 = .ok (.aload_n 0, 1) := dc_42 (by decide +kernel)
theorem dX12_wed_55 : decode cX12_wed 55 = .ok (.iconst 3, 1) := dc_6 (by decide +kernel)
theorem dX12_wed_56 : decode cX12_wed 56 = .ok (.iload_n 1, 1) := dc_27 (by decide +kernel)
theorem dX12_wed_57 : decode cX12_wed 57 = .ok (.iload_n 2, 1) := dc_28 (by decide +kernel)
theorem dX12_wed_58 : decode cX12_wed 58 = .ok (.iconst 0, 1) := dc_3 (by decide +kernel)
theorem dX12_wed_59 : decode cX12_wed 59 = .ok (.iload_n 3, 1) := dc_29 (by decide +kernel)
theorem dX12_wed_60 : decode cX12_wed 60 = .ok (.iload 4, 2) := dc_21 4 (by decide +kernel)
theorem dX12_wed_62 : decode cX12_wed 62 = .ok (.invokevirtual 86, 3) := dc_182 0 86 (by decide +kernel)
theorem dX12_wed_65 : decode cX12_wed 65 = .ok (.ireturn, 1) := dc_172 (by decide +kernel)
abbrev R_X12_wed : Room := { frames := 2, cells := 0, slots := 0, locals := 49 }
set_option maxRecDepth 100000 in
set_option maxHeartbeats 4000000 in
theorem s_X12_wed {l : Launch} {n0 : Nat} {D : va_G} {cA : Nat → ClassId} {M : gM} (a : Int) (r_a : -2147483648 ≤ a ∧ a ≤ 2147483647) (b : Int) (r_b : -2147483648 ≤ b ∧ b ≤ 2147483647) (c : Int) (r_c : -2147483648 ≤ c ∧ c ≤ 2147483647) (d : Int) (r_d : 0 ≤ d ∧ d ≤ 1) {sz : Nat} (hsz : 206 ≤ sz) (I : gI sz M) (C : gC sz M) (W : gW 191 M)  : Met l yX12_wed (gWsOf yX12_wed cX12_wed 5 (Option.some Jvm.ClassFile.FieldType.int)) R_X12_wed (gPc n0 D cA [gA n0 190, gJ a, gJ b, gJ c, gJ d] M sz) (gQi n0 D cA sz (fun z M1 => (-4 ≤ z ∧ z ≤ 39) ∧ gI sz M1 ∧ gC sz M1 ∧ gFr 464228105030079899045462016 M M1 ∧ (gW 191 M1 ∧ ((((¬ (0 ≤ a ∧ a < M 191 1) ∨ ¬ (0 ≤ b ∧ b < M 191 1)) ∧ z = -1) ∨ (¬ (¬ (0 ≤ a ∧ a < M 191 1) ∨ ¬ (0 ≤ b ∧ b < M 191 1)) ∧ (¬ M 191 (a + 80) = 1 ∨ ¬ M 191 (b + 80) = 0 ∨ ¬ (-3000 ≤ c ∧ c ≤ M 191 0)) ∧ z = -2)) ∧ pSameM M M1 ∨ (¬ (¬ (0 ≤ a ∧ a < M 191 1) ∨ ¬ (0 ≤ b ∧ b < M 191 1)) ∧ ¬ (¬ M 191 (a + 80) = 1 ∨ ¬ M 191 (b + 80) = 0 ∨ ¬ (-3000 ≤ c ∧ c ≤ M 191 0))) ∧ (pTellM 3 a b 0 c d z M M1))))) 0 0 (fun q => n0 ≤ q) := by
  refine gMetI [gA n0 190, gJ a, gJ b, gJ c, gJ d] (by decide) (Nat.le_of_ble_eq_true rfl) ⟨rfl, rfl⟩ ?_
  intro p e s m args below meth cd Q X hq
  have X : gCx p s m args meth cd n0 D cA "ParishUnionModel" cX12_wed 5 := X
  show G p l e R_X12_wed s m args below meth cd n0 D cA 5 Q 0 0 M sz 0 [(0, gA n0 190), (1, gJ a), (2, gJ b), (3, gJ c), (4, gJ d)] []
  obtain ⟨v1, hv1, rv1⟩ := gRd I (by decide) (gsz hsz (by decide)) (rs_PERS (k := 1) (by omega)).1
  obtain ⟨v2, hv2, rv2⟩ := gRd I (by decide) (gsz hsz (by decide)) (rs_NOW (k := 0) (by omega)).1
  refine g_aload_n (n := 1) X 0 dX12_wed_0 rfl rfl rfl ?_
  refine g_iload_n (n := 2) X 1 dX12_wed_1 rfl rfl rfl ?_
  refine g_callVi (n := 5) (As := [gJ a]) (rest := []) (cs1 := 0) (ss1 := 0) X (s_X12_isPerson a (by omega) hsz I C ) okX12_isPerson kw_6_125 ⟨kw_6_127, kw_0_40⟩ ⟨rfl, rfl⟩ ⟨Nat.le_of_ble_eq_true rfl, Nat.le_of_ble_eq_true rfl⟩ rfl (by decide) (gsz hsz (by decide)) lay_190 rfl rfl (Nat.le_of_ble_eq_true rfl) ⟨Nat.le_of_ble_eq_true rfl, Nat.le_of_ble_eq_true rfl⟩ rfl rfl dX12_wed_2 rfl (fun v3 M4 P5 => ?_)
  obtain ⟨rfl, rv3, xv3⟩ := P5
  refine g_if_eq (n := 8) (tgt := 16) X dX12_wed_5 (by decide) (by omega) rfl (fun c6 => ?_) (fun c6 => ?_)
  · refine g_iconst (n := 17) X dX12_wed_16 rfl ?_
    exact hq _ _ _ _ dX12_wed_17 ⟨by omega, I, C, gFr.rf, ⟨W, Or.inl ⟨by omega, pSameM.rf⟩⟩⟩
  · refine g_aload_n (n := 9) X 0 dX12_wed_8 rfl rfl rfl ?_
    refine g_iload_n (n := 10) X 2 dX12_wed_9 rfl rfl rfl ?_
    refine g_callVi (n := 13) (As := [gJ b]) (rest := []) (cs1 := 0) (ss1 := 0) X (s_X12_isPerson b (by omega) hsz I C ) okX12_isPerson kw_6_125 ⟨kw_6_127, kw_0_40⟩ ⟨rfl, rfl⟩ ⟨Nat.le_of_ble_eq_true rfl, Nat.le_of_ble_eq_true rfl⟩ rfl (by decide) (gsz hsz (by decide)) lay_190 rfl rfl (Nat.le_of_ble_eq_true rfl) ⟨Nat.le_of_ble_eq_true rfl, Nat.le_of_ble_eq_true rfl⟩ rfl rfl dX12_wed_10 rfl (fun v7 M8 P9 => ?_)
    obtain ⟨rfl, rv7, xv7⟩ := P9
    refine g_if_ne (n := 16) (tgt := 18) X dX12_wed_13 (by decide) (by omega) rfl (fun c10 => ?_) (fun c10 => ?_)
    · refine g_aload_n (n := 19) X 0 dX12_wed_18 rfl rfl rfl ?_
      refine gg_12_1 (n := 22) (z := 191) X (by decide) (gsz hsz (by decide)) lay_190 kw_6_27 dX12_wed_19 rfl (rf_190_1 I (gsz hsz (by decide))) (by decide) ?_
      refine g_bipush (n := 24) X dX12_wed_22 (by decide +kernel) rfl ?_
      refine g_iload_n (n := 25) X 1 dX12_wed_24 rfl rfl rfl ?_
      refine g_iadd (n := 26) (z := a + 80) X dX12_wed_25 (by omega) rfl ?_
      obtain ⟨v11, hv11, rv11⟩ := gRd I (by decide) (gsz hsz (by decide)) (rs_SEX (k := a + 80) (by omega)).1
      refine g_iald2 (n := 27) (v := v11) X (by decide) (gsz hsz (by decide)) lay_191 (by omega) (by omega) (by decide) dX12_wed_26 rfl hv11 ?_
      refine g_iconst (n := 28) X dX12_wed_27 rfl ?_
      refine g_icmp_ne (n := 31) (tgt := 51) X dX12_wed_28 (by decide) (by omega) (by omega) rfl (fun c12 => ?_) (fun c12 => ?_)
      · refine g_bipush (n := 53) X dX12_wed_51 (by decide +kernel) rfl ?_
        exact hq _ _ _ _ dX12_wed_53 ⟨by omega, I, C, gFr.rf, ⟨W, Or.inl ⟨by omega, pSameM.rf⟩⟩⟩
      · refine g_aload_n (n := 32) X 0 dX12_wed_31 rfl rfl rfl ?_
        refine gg_12_1 (n := 35) (z := 191) X (by decide) (gsz hsz (by decide)) lay_190 kw_6_27 dX12_wed_32 rfl (rf_190_1 I (gsz hsz (by decide))) (by decide) ?_
        refine g_bipush (n := 37) X dX12_wed_35 (by decide +kernel) rfl ?_
        refine g_iload_n (n := 38) X 2 dX12_wed_37 rfl rfl rfl ?_
        refine g_iadd (n := 39) (z := b + 80) X dX12_wed_38 (by omega) rfl ?_
        obtain ⟨v13, hv13, rv13⟩ := gRd I (by decide) (gsz hsz (by decide)) (rs_SEX (k := b + 80) (by omega)).1
        refine g_iald2 (n := 40) (v := v13) X (by decide) (gsz hsz (by decide)) lay_191 (by omega) (by omega) (by decide) dX12_wed_39 rfl hv13 ?_
        refine g_if_ne (n := 43) (tgt := 51) X dX12_wed_40 (by decide) (by omega) rfl (fun c14 => ?_) (fun c14 => ?_)
        · refine g_bipush (n := 53) X dX12_wed_51 (by decide +kernel) rfl ?_
          exact hq _ _ _ _ dX12_wed_53 ⟨by omega, I, C, gFr.rf, ⟨W, Or.inl ⟨by omega, pSameM.rf⟩⟩⟩
        · refine g_aload_n (n := 44) X 0 dX12_wed_43 rfl rfl rfl ?_
          refine g_iload_n (n := 45) X 3 dX12_wed_44 rfl rfl rfl ?_
          refine g_callVi (n := 48) (As := [gJ c]) (rest := []) (cs1 := 0) (ss1 := 0) X (s_X12_isRightWeek c (by omega) hsz I C ) okX12_isRightWeek kw_6_137 ⟨kw_6_139, kw_0_41⟩ ⟨rfl, rfl⟩ ⟨Nat.le_of_ble_eq_true rfl, Nat.le_of_ble_eq_true rfl⟩ rfl (by decide) (gsz hsz (by decide)) lay_190 rfl rfl (Nat.le_of_ble_eq_true rfl) ⟨Nat.le_of_ble_eq_true rfl, Nat.le_of_ble_eq_true rfl⟩ rfl rfl dX12_wed_45 rfl (fun v15 M16 P17 => ?_)
          obtain ⟨rfl, rv15, xv15⟩ := P17
          refine g_if_ne (n := 51) (tgt := 54) X dX12_wed_48 (by decide) (by omega) rfl (fun c18 => ?_) (fun c18 => ?_)
          · refine g_aload_n (n := 55) X 0 dX12_wed_54 rfl rfl rfl ?_
            refine g_iconst (n := 56) X dX12_wed_55 rfl ?_
            refine g_iload_n (n := 57) X 1 dX12_wed_56 rfl rfl rfl ?_
            refine g_iload_n (n := 58) X 2 dX12_wed_57 rfl rfl rfl ?_
            refine g_iconst (n := 59) X dX12_wed_58 rfl ?_
            refine g_iload_n (n := 60) X 3 dX12_wed_59 rfl rfl rfl ?_
            refine g_iload (n := 62) X 4 dX12_wed_60 rfl rfl ?_
            refine g_callVi (n := 65) (As := [gJ 3, gJ a, gJ b, gJ 0, gJ c, gJ d]) (rest := []) (cs1 := 0) (ss1 := 0) X (s_X12_tells 3 (by omega) a (by omega) b (by omega) 0 (by omega) c (by omega) d (by omega) hsz I C W ⟨Or.inl rfl, fun _ => ⟨by have q2 := hv1; omega, hv13.trans (by omega), hv11.trans (by omega), by have q2 := hv1; omega⟩⟩) okX12_tells kw_6_141 ⟨kw_6_143, kw_0_42⟩ ⟨rfl, rfl⟩ ⟨Nat.le_of_ble_eq_true rfl, Nat.le_of_ble_eq_true rfl⟩ rfl (by decide) (gsz hsz (by decide)) lay_190 rfl rfl (Nat.le_of_ble_eq_true rfl) ⟨Nat.le_of_ble_eq_true rfl, Nat.le_of_ble_eq_true rfl⟩ rfl rfl dX12_wed_62 rfl (fun v19 M20 P21 => ?_)
            obtain ⟨rv19, IM20, CM20, FM20, xM20⟩ := P21
            exact hq _ _ _ _ dX12_wed_65 ⟨by omega, IM20, CM20, (gFr.c gFr.rf FM20 rfl), ⟨xM20.1, Or.inr ⟨⟨by omega, by omega⟩, xM20.2⟩⟩⟩
          · refine g_bipush (n := 53) X dX12_wed_51 (by decide +kernel) rfl ?_
            exact hq _ _ _ _ dX12_wed_53 ⟨by omega, I, C, gFr.rf, ⟨W, Or.inl ⟨by omega, pSameM.rf⟩⟩⟩
    · refine g_iconst (n := 17) X dX12_wed_16 rfl ?_
      exact hq _ _ _ _ dX12_wed_17 ⟨by omega, I, C, gFr.rf, ⟨W, Or.inl ⟨by omega, pSameM.rf⟩⟩⟩
