theorem dX1_isLawful_0 : decode cX1_isLawful 0 = .ok (.iconst 0, 1) := dc_3 (by decide +kernel)
theorem dX1_isLawful_1 : decode cX1_isLawful 1 = .ok (.aload_n 2, 1) := dc_44 (by decide +kernel)
theorem dX1_isLawful_2 : decode cX1_isLawful 2 = .ok (.getfield 62, 3) := dc_180 0 62 (by decide +kernel)
theorem kw_2_36 : (Jvm.Cond.fieldLink "ParishUnion$Bench" (62 : Nat) "ParishUnion$Right" "week" "I") ∈ gT := gT_of (tb_2 _ (List.mem_of_getElem? (i := 36) rfl)) rfl
theorem dX1_isLawful_5 : decode cX1_isLawful 5 = .ok (.invokestatic 65, 3) := dc_184 0 65 (by decide +kernel)
theorem kw_3_152 : (Jvm.Cond.methodLink "ParishUnion$Bench" (65 : Nat) ({ cls := "java/lang/Math", name := "max", desc := "(II)I" } : Jvm.MethodName)) ∈ gT := gT_of (tb_3 _ (List.mem_of_getElem? (i := 152) rfl)) rfl
theorem dX1_isLawful_8 : decode cX1_isLawful 8 = .ok (.istore_n 3, 1) := dc_62 (by decide +kernel)
theorem dX1_isLawful_9 : decode cX1_isLawful 9 = .ok (.aload_n 2, 1) := dc_44 (by decide +kernel)
theorem dX1_isLawful_10 : decode cX1_isLawful 10 = .ok (.getfield 70, 3) := dc_180 0 70 (by decide +kernel)
theorem kw_2_25 : (Jvm.Cond.fieldLink "ParishUnion$Bench" (70 : Nat) "ParishUnion$Right" "kind" "I") ∈ gT := gT_of (tb_2 _ (List.mem_of_getElem? (i := 25) rfl)) rfl
theorem dX1_isLawful_13 : decode cX1_isLawful 13 = .ok (.iconst 3, 1) := dc_6 (by decide +kernel)
theorem dX1_isLawful_14 : decode cX1_isLawful 14 = .ok (.if_icmp .ne 19, 3) := dc_160 0 19 19 (by decide +kernel)
theorem dX1_isLawful_33 : decode cX1_isLawful 33 = .ok (.aload_n 1, 1) := dc_43 (by decide +kernel)
theorem dX1_isLawful_34 : decode cX1_isLawful 34 = .ok (.aload_n 2, 1) := dc_44 (by decide +kernel)
theorem dX1_isLawful_35 : decode cX1_isLawful 35 = .ok (.getfield 70, 3) := dc_180 0 70 (by decide +kernel)
theorem dX1_isLawful_38 : decode cX1_isLawful 38 = .ok (.iconst 2, 1) := dc_5 (by decide +kernel)
theorem dX1_isLawful_39 : decode cX1_isLawful 39 = .ok (.if_icmp .ne 7, 3) := dc_160 0 7 7 (by decide +kernel)
theorem dX1_isLawful_46 : decode cX1_isLawful 46 = .ok (.iconst 0, 1) := dc_3 (by decide +kernel)
theorem dX1_isLawful_47 : decode cX1_isLawful 47 = .ok (.iload_n 3, 1) := dc_29 (by decide +kernel)
theorem dX1_isLawful_48 : decode cX1_isLawful 48 = .ok (.invokevirtual 34, 3) := dc_182 0 34 (by decide +kernel)
theorem kw_3_137 : (Jvm.Cond.methodLink "ParishUnion$Bench" (34 : Nat) ({ cls := "ParishUnion$Union", name := "law", desc := "(II)I" } : Jvm.MethodName)) ∈ gT := gT_of (tb_3 _ (List.mem_of_getElem? (i := 137) rfl)) rfl
theorem dX1_isLawful_51 : decode cX1_isLawful 51 = .ok (.aload_n 2, 1) := dc_44 (by decide +kernel)
theorem dX1_isLawful_52 : decode cX1_isLawful 52 = .ok (.invokevirtual 73, 3) := dc_182 0 73 (by decide +kernel)
theorem kw_3_155 : (Jvm.Cond.methodLink "ParishUnion$Bench" (73 : Nat) ({ cls := "ParishUnion$Right", name := "worth", desc := "()I" } : Jvm.MethodName)) ∈ gT := gT_of (tb_3 _ (List.mem_of_getElem? (i := 155) rfl)) rfl
theorem kw_3_121 : (Jvm.Cond.code ({ cls := "ParishUnion$Right", name := "worth", desc := "()I" } : Jvm.MethodName) prog_10_method_6_code (1 : Nat) (Option.some Jvm.ClassFile.FieldType.int)) ∈ gT := gT_of (tb_3 _ (List.mem_of_getElem? (i := 121) rfl)) rfl
theorem kw_1_9 : (Jvm.Cond.initialized "ParishUnion$Right") ∈ gT := gT_of (tb_1 _ (List.mem_of_getElem? (i := 9) rfl)) rfl
theorem okX8_worth : gQok yX8_worth cX8_worth 1 (Option.some Jvm.ClassFile.FieldType.int) 0 := ⟨kw_3_121, kw_1_9, by decide +kernel, by decide +kernel, by decide +kernel⟩
theorem kw_3_119 : (Jvm.Cond.instanceMethod ({ cls := "ParishUnion$Right", name := "worth", desc := "()I" } : Jvm.MethodName)) ∈ gT := gT_of (tb_3 _ (List.mem_of_getElem? (i := 119) rfl)) rfl
theorem kw_3_120 : (Jvm.Cond.selects "ParishUnion$Right" ({ cls := "ParishUnion$Right", name := "worth", desc := "()I" } : Jvm.MethodName) ({ cls := "ParishUnion$Right", name := "worth", desc := "()I" } : Jvm.MethodName)) ∈ gT := gT_of (tb_3 _ (List.mem_of_getElem? (i := 120) rfl)) rfl
theorem dX1_isLawful_55 : decode cX1_isLawful 55 = .ok (.if_icmp .gt 7, 3) := dc_163 0 7 7 (by decide +kernel)
theorem dX1_isLawful_62 : decode cX1_isLawful 62 = .ok (.iconst 0, 1) := dc_3 (by decide +kernel)
theorem dX1_isLawful_63 : decode cX1_isLawful 63 = .ok (.ireturn, 1) := dc_172 (by decide +kernel)
theorem dX1_isLawful_58 : decode cX1_isLawful 58 = .ok (.iconst 1, 1) := dc_4 (by decide +kernel)
theorem dX1_isLawful_59 : decode cX1_isLawful 59 = .ok (.goto 4, 3) := dc_167 0 4 4 (by decide +kernel)
theorem dX1_isLawful_42 : decode cX1_isLawful 42 = .ok (.iconst 1, 1) := dc_4 (by decide +kernel)
theorem dX1_isLawful_43 : decode cX1_isLawful 43 = .ok (.goto 4, 3) := dc_167 0 4 4 (by decide +kernel)
theorem dX1_isLawful_17 : decode cX1_isLawful 17 = .ok (.aload_n 1, 1) := dc_43 (by decide +kernel)
theorem dX1_isLawful_18 : decode cX1_isLawful 18 = .ok (.iconst 5, 1) := dc_8 (by decide +kernel)
theorem dX1_isLawful_19 : decode cX1_isLawful 19 = .ok (.iload_n 3, 1) := dc_29 (by decide +kernel)
theorem dX1_isLawful_20 : decode cX1_isLawful 20 = .ok (.invokevirtual 34, 3) := dc_182 0 34 (by decide +kernel)
theorem dX1_isLawful_23 : decode cX1_isLawful 23 = .ok (.iconst 1, 1) := dc_4 (by decide +kernel)
theorem dX1_isLawful_24 : decode cX1_isLawful 24 = .ok (.if_icmp .ne 7, 3) := dc_160 0 7 7 (by decide +kernel)
theorem dX1_isLawful_31 : decode cX1_isLawful 31 = .ok (.iconst 0, 1) := dc_3 (by decide +kernel)
theorem dX1_isLawful_32 : decode cX1_isLawful 32 = .ok (.ireturn, 1) := dc_172 (by decide +kernel)
theorem dX1_isLawful_27 : decode cX1_isLawful 27 = .ok (.iconst 1, 1) := dc_4 (by decide +kernel)
theorem dX1_isLawful_28 : decode cX1_isLawful 28 = .ok (.goto 4, 3) := dc_167 0 4 4 (by decide +kernel)
abbrev R_X1_isLawful : Room := { frames := 4, cells := 0, slots := 0, locals := 120 }
set_option maxRecDepth 100000 in
set_option maxHeartbeats 4000000 in
theorem s_X1_isLawful {l : Launch} {n0 : Nat} {D : va_G} {cA : Nat → ClassId} {M : gM} (ob : Int) (r_ob : 47 ≤ ob ∧ ob < 87) {sz : Nat} (hsz : 206 ≤ sz) (I : gI sz M) (C : gC sz M)   : Met l yX1_isLawful (gWsOf yX1_isLawful cX1_isLawful 4 (Option.some Jvm.ClassFile.FieldType.boolean)) R_X1_isLawful (gPc n0 D cA [gA n0 153, gA n0 1, gA n0 ob] M sz) (gQi n0 D cA sz (fun z M1 => M = M1 ∧ (0 ≤ z ∧ z ≤ 1))) 0 0 (fun q => n0 ≤ q) := by
  refine gMetZ [gA n0 153, gA n0 1, gA n0 ob] (by decide) (Nat.le_of_ble_eq_true rfl) ⟨rfl, rfl⟩ ?_
  intro p e s m args below meth cd Q X hq
  have X : gCx p s m args meth cd n0 D cA "ParishUnion$Bench" cX1_isLawful 4 := X
  show G p l e R_X1_isLawful s m args below meth cd n0 D cA 4 Q 0 0 M sz 0 [(0, gA n0 153), (1, gA n0 1), (2, gA n0 ob)] []
  refine g_iconst (n := 1) X dX1_isLawful_0 rfl ?_
  refine g_aload_n (n := 2) X 2 dX1_isLawful_1 rfl rfl rfl ?_
  obtain ⟨v1, hv1, rv1⟩ := gRd I (Rto0 r_ob) (Rtosz hsz r_ob) (rR_4 r_ob).1
  refine gg_8_4 (n := 5) (z := v1) X (Rto0 r_ob) (Rtosz hsz r_ob) (lay2_R r_ob) kw_2_36 dX1_isLawful_2 rfl hv1 ?_
  refine g_mmax (n := 8) X kw_3_152 kw_3_153 kw_1_14 kw_3_154 (by omega) (by omega) (Nat.le_of_ble_eq_true rfl) (Nat.le_of_ble_eq_true rfl) (Nat.le_of_ble_eq_true rfl) (Nat.le_of_ble_eq_true rfl) dX1_isLawful_5 rfl (fun x2 hx2 => ?_)
  have rx2 : 0 ≤ x2 ∧ x2 ≤ 300 := by omega
  refine g_istore_n (n := 9) (L' := [(3, gJ x2), (0, gA n0 153), (1, gA n0 1), (2, gA n0 ob)]) X dX1_isLawful_8 rfl (by decide) rfl rfl ?_
  refine g_aload_n (n := 10) X 3 dX1_isLawful_9 rfl rfl rfl ?_
  obtain ⟨v3, hv3, rv3⟩ := gRd I (Rto0 r_ob) (Rtosz hsz r_ob) (rR_0 r_ob).1
  refine gg_8_0 (n := 13) (z := v3) X (Rto0 r_ob) (Rtosz hsz r_ob) (lay2_R r_ob) kw_2_25 dX1_isLawful_10 rfl hv3 ?_
  refine g_iconst (n := 14) X dX1_isLawful_13 rfl ?_
  refine g_icmp_ne (n := 17) (tgt := 33) X dX1_isLawful_14 (by decide) (by omega) (by omega) rfl (fun c4 => ?_) (fun c4 => ?_)
  · refine g_aload_n (n := 34) X 2 dX1_isLawful_33 rfl rfl rfl ?_
    refine g_aload_n (n := 35) X 3 dX1_isLawful_34 rfl rfl rfl ?_
    refine gg_8_0 (n := 38) (z := v3) X (Rto0 r_ob) (Rtosz hsz r_ob) (lay2_R r_ob) kw_2_25 dX1_isLawful_35 rfl hv3 ?_
    refine g_iconst (n := 39) X dX1_isLawful_38 rfl ?_
    refine g_icmp_ne (n := 42) (tgt := 46) X dX1_isLawful_39 (by decide) (by omega) (by omega) rfl (fun c5 => ?_) (fun c5 => ?_)
    · refine g_iconst (n := 47) X dX1_isLawful_46 rfl ?_
      refine g_iload_n (n := 48) X 0 dX1_isLawful_47 rfl rfl rfl ?_
      refine g_callVi (n := 51) (As := [gJ 0, gJ x2]) (rest := []) (cs1 := 0) (ss1 := 0) X (s_X9_law 0 (by omega) x2 (by omega) hsz I C ) okX9_law kw_3_137 ⟨kw_3_138, kw_3_139⟩ ⟨rfl, rfl⟩ ⟨Nat.le_of_ble_eq_true rfl, Nat.le_of_ble_eq_true rfl⟩ rfl (by decide) (gsz hsz (by decide)) lay_1 rfl rfl (Nat.le_of_ble_eq_true rfl) ⟨Nat.le_of_ble_eq_true rfl, Nat.le_of_ble_eq_true rfl⟩ rfl rfl dX1_isLawful_48 rfl (fun v6 M7 P8 => ?_)
      obtain ⟨rfl, rv6⟩ := P8
      refine g_aload_n (n := 52) X 3 dX1_isLawful_51 rfl rfl rfl ?_
      refine g_callVi (n := 55) (As := []) (rest := [gJ v6]) (cs1 := 0) (ss1 := 0) X (s_X8_worth ob r_ob hsz I C ) okX8_worth kw_3_155 ⟨kw_3_119, kw_3_120⟩ ⟨rfl, rfl⟩ ⟨Nat.le_of_ble_eq_true rfl, Nat.le_of_ble_eq_true rfl⟩ rfl (Rto0 r_ob) (Rtosz hsz r_ob) (lay2_R r_ob) rfl rfl (Nat.le_of_ble_eq_true rfl) ⟨Nat.le_of_ble_eq_true rfl, Nat.le_of_ble_eq_true rfl⟩ rfl rfl dX1_isLawful_52 rfl (fun v9 M10 P11 => ?_)
      obtain ⟨rfl, rv9, xv9⟩ := P11
      refine g_icmp_gt (n := 58) (tgt := 62) X dX1_isLawful_55 (by decide) (by omega) (by omega) rfl (fun c12 => ?_) (fun c12 => ?_)
      · refine g_iconst (n := 63) X dX1_isLawful_62 rfl ?_
        exact hq _ _ _ _ dX1_isLawful_63 (by omega) ⟨rfl, by omega⟩
      · refine g_iconst (n := 59) X dX1_isLawful_58 rfl ?_
        refine g_goto (tgt := 63) X dX1_isLawful_59 (by decide) ?_
        exact hq _ _ _ _ dX1_isLawful_63 (by omega) ⟨rfl, by omega⟩
    · refine g_iconst (n := 43) X dX1_isLawful_42 rfl ?_
      refine g_goto (tgt := 47) X dX1_isLawful_43 (by decide) ?_
      refine g_iload_n (n := 48) X 0 dX1_isLawful_47 rfl rfl rfl ?_
      refine g_callVi (n := 51) (As := [gJ 1, gJ x2]) (rest := []) (cs1 := 0) (ss1 := 0) X (s_X9_law 1 (by omega) x2 (by omega) hsz I C ) okX9_law kw_3_137 ⟨kw_3_138, kw_3_139⟩ ⟨rfl, rfl⟩ ⟨Nat.le_of_ble_eq_true rfl, Nat.le_of_ble_eq_true rfl⟩ rfl (by decide) (gsz hsz (by decide)) lay_1 rfl rfl (Nat.le_of_ble_eq_true rfl) ⟨Nat.le_of_ble_eq_true rfl, Nat.le_of_ble_eq_true rfl⟩ rfl rfl dX1_isLawful_48 rfl (fun v13 M14 P15 => ?_)
      obtain ⟨rfl, rv13⟩ := P15
      refine g_aload_n (n := 52) X 3 dX1_isLawful_51 rfl rfl rfl ?_
      refine g_callVi (n := 55) (As := []) (rest := [gJ v13]) (cs1 := 0) (ss1 := 0) X (s_X8_worth ob r_ob hsz I C ) okX8_worth kw_3_155 ⟨kw_3_119, kw_3_120⟩ ⟨rfl, rfl⟩ ⟨Nat.le_of_ble_eq_true rfl, Nat.le_of_ble_eq_true rfl⟩ rfl (Rto0 r_ob) (Rtosz hsz r_ob) (lay2_R r_ob) rfl rfl (Nat.le_of_ble_eq_true rfl) ⟨Nat.le_of_ble_eq_true rfl, Nat.le_of_ble_eq_true rfl⟩ rfl rfl dX1_isLawful_52 rfl (fun v16 M17 P18 => ?_)
      obtain ⟨rfl, rv16, xv16⟩ := P18
      refine g_icmp_gt (n := 58) (tgt := 62) X dX1_isLawful_55 (by decide) (by omega) (by omega) rfl (fun c19 => ?_) (fun c19 => ?_)
      · refine g_iconst (n := 63) X dX1_isLawful_62 rfl ?_
        exact hq _ _ _ _ dX1_isLawful_63 (by omega) ⟨rfl, by omega⟩
      · refine g_iconst (n := 59) X dX1_isLawful_58 rfl ?_
        refine g_goto (tgt := 63) X dX1_isLawful_59 (by decide) ?_
        exact hq _ _ _ _ dX1_isLawful_63 (by omega) ⟨rfl, by omega⟩
  · refine g_aload_n (n := 18) X 2 dX1_isLawful_17 rfl rfl rfl ?_
    refine g_iconst (n := 19) X dX1_isLawful_18 rfl ?_
    refine g_iload_n (n := 20) X 0 dX1_isLawful_19 rfl rfl rfl ?_
    refine g_callVi (n := 23) (As := [gJ 5, gJ x2]) (rest := []) (cs1 := 0) (ss1 := 0) X (s_X9_law 5 (by omega) x2 (by omega) hsz I C ) okX9_law kw_3_137 ⟨kw_3_138, kw_3_139⟩ ⟨rfl, rfl⟩ ⟨Nat.le_of_ble_eq_true rfl, Nat.le_of_ble_eq_true rfl⟩ rfl (by decide) (gsz hsz (by decide)) lay_1 rfl rfl (Nat.le_of_ble_eq_true rfl) ⟨Nat.le_of_ble_eq_true rfl, Nat.le_of_ble_eq_true rfl⟩ rfl rfl dX1_isLawful_20 rfl (fun v20 M21 P22 => ?_)
    obtain ⟨rfl, rv20⟩ := P22
    refine g_iconst (n := 24) X dX1_isLawful_23 rfl ?_
    refine g_icmp_ne (n := 27) (tgt := 31) X dX1_isLawful_24 (by decide) (by omega) (by omega) rfl (fun c23 => ?_) (fun c23 => ?_)
    · refine g_iconst (n := 32) X dX1_isLawful_31 rfl ?_
      exact hq _ _ _ _ dX1_isLawful_32 (by omega) ⟨rfl, by omega⟩
    · refine g_iconst (n := 28) X dX1_isLawful_27 rfl ?_
      refine g_goto (tgt := 32) X dX1_isLawful_28 (by decide) ?_
      exact hq _ _ _ _ dX1_isLawful_32 (by omega) ⟨rfl, by omega⟩
theorem dX1_prepare_0 : decode cX1_prepare 0 = .ok (.iload_n 2, 1) := dc_28 (by decide +kernel)
theorem dX1_prepare_1 : decode cX1_prepare 1 = .ok (.iconst (-1), 1) := dc_2 (by decide +kernel)
theorem dX1_prepare_2 : decode cX1_prepare 2 = .ok (.if_icmp .ne 10, 3) := dc_160 0 10 10 (by decide +kernel)
theorem dX1_prepare_12 : decode cX1_prepare 12 = .ok (.iload_n 2, 1) := dc_28 (by decide +kernel)
theorem dX1_prepare_5 : decode cX1_prepare 5 = .ok (.aload_n 1, 1) := dc_43 (by decide +kernel)
theorem dX1_prepare_6 : decode cX1_prepare 6 = .ok (.getfield 28, 3) := dc_180 0 28 (by decide +kernel)
theorem kw_2_131 : (Jvm.Cond.fieldLink "ParishUnion$Bench" (28 : Nat) "ParishUnion$Union" "entries" "I") ∈ gT := gT_of (tb_2 _ (List.mem_of_getElem? (i := 131) rfl)) rfl
theorem dX1_prepare_9 : decode cX1_prepare 9 = .ok (.goto 4, 3) := dc_167 0 4 4 (by decide +kernel)
theorem dX1_prepare_13 : decode cX1_prepare 13 = .ok (.istore_n 3, 1) := dc_62 (by decide +kernel)
theorem dX1_prepare_14 : decode cX1_prepare 14 = .ok (.aload_n 0, 1) := dc_42 (by decide +kernel)
theorem dX1_prepare_15 : decode cX1_prepare 15 = .ok (.aload_n 1, 1) := dc_43 (by decide +kernel)
theorem dX1_prepare_16 : decode cX1_prepare 16 = .ok (.bipush 6, 2) := dc_16 6 6 (by decide +kernel)
theorem dX1_prepare_18 : decode cX1_prepare 18 = .ok (.iconst 0, 1) := dc_3 (by decide +kernel)
theorem dX1_prepare_19 : decode cX1_prepare 19 = .ok (.invokevirtual 34, 3) := dc_182 0 34 (by decide +kernel)
theorem dX1_prepare_22 : decode cX1_prepare 22 = .ok (.iconst 1, 1) := dc_4 (by decide +kernel)
theorem dX1_prepare_23 : decode cX1_prepare 23 = .ok (.if_icmp .ne 7, 3) := dc_160 0 7 7 (by decide +kernel)
theorem dX1_prepare_30 : decode cX1_prepare 30 = .ok (.iconst 0, 1) := dc_3 (by decide +kernel)
theorem dX1_prepare_26 : decode cX1_prepare 26 = .ok (.iconst 1, 1) := dc_4 (by decide +kernel)
theorem dX1_prepare_27 : decode cX1_prepare 27 = .ok (.goto 4, 3) := dc_167 0 4 4 (by decide +kernel)
theorem dX1_prepare_31 : decode cX1_prepare 31 = .ok (.putfield 38, 3) := dc_181 0 38 (by decide +kernel)
theorem kw_2_185 : (Jvm.Cond.fieldLink "ParishUnion$Bench" (38 : Nat) "ParishUnion$Bench" "kin" "Z") ∈ gT := gT_of (tb_2 _ (List.mem_of_getElem? (i := 185) rfl)) rfl
theorem rc_153_6 : gRg 153 6 = (0, 1) ∧ gCr 153 6 = false ∧ gG 153 6 = 25 := by decide +kernel
theorem dX1_prepare_34 : decode cX1_prepare 34 = .ok (.aload_n 0, 1) := dc_42 (by decide +kernel)
theorem dX1_prepare_35 : decode cX1_prepare 35 = .ok (.iconst 0, 1) := dc_3 (by decide +kernel)
theorem dX1_prepare_36 : decode cX1_prepare 36 = .ok (.putfield 42, 3) := dc_181 0 42 (by decide +kernel)
theorem kw_2_184 : (Jvm.Cond.fieldLink "ParishUnion$Bench" (42 : Nat) "ParishUnion$Bench" "doubtedCount" "I") ∈ gT := gT_of (tb_2 _ (List.mem_of_getElem? (i := 184) rfl)) rfl
theorem rc_153_5 : gRg 153 5 = (0, 10) ∧ gCr 153 5 = false ∧ gG 153 5 = 25 := by decide +kernel
theorem dX1_prepare_39 : decode cX1_prepare 39 = .ok (.iconst 0, 1) := dc_3 (by decide +kernel)
theorem dX1_prepare_40 : decode cX1_prepare 40 = .ok (.istore 4, 2) := dc_54 4 (by decide +kernel)
theorem dX1_prepare_42 : decode cX1_prepare 42 = .ok (.iload 4, 2) := dc_21 4 (by decide +kernel)
theorem dX1_prepare_44 : decode cX1_prepare 44 = .ok (.aload_n 1, 1) := dc_43 (by decide +kernel)
theorem dX1_prepare_45 : decode cX1_prepare 45 = .ok (.getfield 45, 3) := dc_180 0 45 (by decide +kernel)
theorem kw_2_128 : (Jvm.Cond.fieldLink "ParishUnion$Bench" (45 : Nat) "ParishUnion$Union" "rightCount" "I") ∈ gT := gT_of (tb_2 _ (List.mem_of_getElem? (i := 128) rfl)) rfl
theorem dX1_prepare_48 : decode cX1_prepare 48 = .ok (.if_icmp .ge 86, 3) := dc_162 0 86 86 (by decide +kernel)
theorem dX1_prepare_134 : decode cX1_prepare 134 = .ok (.return_, 1) := dc_177 (by decide +kernel)
theorem dX1_prepare_51 : decode cX1_prepare 51 = .ok (.aload_n 0, 1) := dc_42 (by decide +kernel)
theorem dX1_prepare_52 : decode cX1_prepare 52 = .ok (.getfield 9, 3) := dc_180 0 9 (by decide +kernel)
theorem kw_2_179 : (Jvm.Cond.fieldLink "ParishUnion$Bench" (9 : Nat) "ParishUnion$Bench" "held" "[I") ∈ gT := gT_of (tb_2 _ (List.mem_of_getElem? (i := 179) rfl)) rfl
theorem rf_153_0 {sz : Nat} {M : gM} (I : gI sz M) (h : (153 : Int) < (sz : Int)) : M 153 0 = 154 + 1 := gI.rf I (by decide) h (by decide +kernel)
theorem dX1_prepare_55 : decode cX1_prepare 55 = .ok (.iload 4, 2) := dc_21 4 (by decide +kernel)
theorem dX1_prepare_57 : decode cX1_prepare 57 = .ok (.aload_n 1, 1) := dc_43 (by decide +kernel)
theorem dX1_prepare_58 : decode cX1_prepare 58 = .ok (.getfield 48, 3) := dc_180 0 48 (by decide +kernel)
theorem kw_2_110 : (Jvm.Cond.fieldLink "ParishUnion$Bench" (48 : Nat) "ParishUnion$Union" "rights" "[LParishUnion$Right;") ∈ gT := gT_of (tb_2 _ (List.mem_of_getElem? (i := 110) rfl)) rfl
theorem rf_1_2 {sz : Nat} {M : gM} (I : gI sz M) (h : (1 : Int) < (sz : Int)) : M 1 2 = 6 + 1 := gI.rf I (by decide) h (by decide +kernel)
theorem dX1_prepare_61 : decode cX1_prepare 61 = .ok (.iload 4, 2) := dc_21 4 (by decide +kernel)
theorem dX1_prepare_63 : decode cX1_prepare 63 = .ok (.aaload, 1) := dc_50 (by decide +kernel)
theorem dX1_prepare_64 : decode cX1_prepare 64 = .ok (.iload_n 3, 1) := dc_29 (by decide +kernel)
theorem dX1_prepare_65 : decode cX1_prepare 65 = .ok (.invokevirtual 52, 3) := dc_182 0 52 (by decide +kernel)
theorem kw_3_147 : (Jvm.Cond.methodLink "ParishUnion$Bench" (52 : Nat) ({ cls := "ParishUnion$Right", name := "heldBy", desc := "(I)I" } : Jvm.MethodName)) ∈ gT := gT_of (tb_3 _ (List.mem_of_getElem? (i := 147) rfl)) rfl
theorem kw_3_107 : (Jvm.Cond.code ({ cls := "ParishUnion$Right", name := "heldBy", desc := "(I)I" } : Jvm.MethodName) prog_10_method_4_code (2 : Nat) (Option.some Jvm.ClassFile.FieldType.int)) ∈ gT := gT_of (tb_3 _ (List.mem_of_getElem? (i := 107) rfl)) rfl
theorem okX8_heldBy : gQok yX8_heldBy cX8_heldBy 2 (Option.some Jvm.ClassFile.FieldType.int) 1 := ⟨kw_3_107, kw_1_9, by decide +kernel, by decide +kernel, by decide +kernel⟩
theorem kw_3_105 : (Jvm.Cond.instanceMethod ({ cls := "ParishUnion$Right", name := "heldBy", desc := "(I)I" } : Jvm.MethodName)) ∈ gT := gT_of (tb_3 _ (List.mem_of_getElem? (i := 105) rfl)) rfl
theorem kw_3_106 : (Jvm.Cond.selects "ParishUnion$Right" ({ cls := "ParishUnion$Right", name := "heldBy", desc := "(I)I" } : Jvm.MethodName) ({ cls := "ParishUnion$Right", name := "heldBy", desc := "(I)I" } : Jvm.MethodName)) ∈ gT := gT_of (tb_3 _ (List.mem_of_getElem? (i := 106) rfl)) rfl
theorem dX1_prepare_68 : decode cX1_prepare 68 = .ok (.iastore, 1) := dc_79 (by decide +kernel)
theorem ra_154 (k : Int) : gRg 154 k = (-2147483648, 2147483647) ∧ gCr 154 k = false ∧ gG 154 k = 25 := ⟨rfl, rfl, rfl⟩
theorem dX1_prepare_69 : decode cX1_prepare 69 = .ok (.aload_n 0, 1) := dc_42 (by decide +kernel)
theorem dX1_prepare_70 : decode cX1_prepare 70 = .ok (.getfield 15, 3) := dc_180 0 15 (by decide +kernel)
theorem kw_2_180 : (Jvm.Cond.fieldLink "ParishUnion$Bench" (15 : Nat) "ParishUnion$Bench" "lawful" "[Z") ∈ gT := gT_of (tb_2 _ (List.mem_of_getElem? (i := 180) rfl)) rfl
theorem rf_153_1 {sz : Nat} {M : gM} (I : gI sz M) (h : (153 : Int) < (sz : Int)) : M 153 1 = 155 + 1 := gI.rf I (by decide) h (by decide +kernel)
theorem dX1_prepare_73 : decode cX1_prepare 73 = .ok (.iload 4, 2) := dc_21 4 (by decide +kernel)
theorem dX1_prepare_75 : decode cX1_prepare 75 = .ok (.aload_n 0, 1) := dc_42 (by decide +kernel)
theorem dX1_prepare_76 : decode cX1_prepare 76 = .ok (.aload_n 1, 1) := dc_43 (by decide +kernel)
theorem dX1_prepare_77 : decode cX1_prepare 77 = .ok (.aload_n 1, 1) := dc_43 (by decide +kernel)
theorem dX1_prepare_78 : decode cX1_prepare 78 = .ok (.getfield 48, 3) := dc_180 0 48 (by decide +kernel)
theorem dX1_prepare_81 : decode cX1_prepare 81 = .ok (.iload 4, 2) := dc_21 4 (by decide +kernel)
theorem dX1_prepare_83 : decode cX1_prepare 83 = .ok (.aaload, 1) := dc_50 (by decide +kernel)
theorem dX1_prepare_84 : decode cX1_prepare 84 = .ok (.invokevirtual 58, 3) := dc_182 0 58 (by decide +kernel)
theorem kw_3_148 : (Jvm.Cond.methodLink "ParishUnion$Bench" (58 : Nat) ({ cls := "ParishUnion$Bench", name := "isLawful", desc := "(LParishUnion$Union;LParishUnion$Right;)Z" } : Jvm.MethodName)) ∈ gT := gT_of (tb_3 _ (List.mem_of_getElem? (i := 148) rfl)) rfl
theorem kw_3_151 : (Jvm.Cond.code ({ cls := "ParishUnion$Bench", name := "isLawful", desc := "(LParishUnion$Union;LParishUnion$Right;)Z" } : Jvm.MethodName) prog_3_method_3_code (4 : Nat) (Option.some Jvm.ClassFile.FieldType.boolean)) ∈ gT := gT_of (tb_3 _ (List.mem_of_getElem? (i := 151) rfl)) rfl
theorem kw_1_11 : (Jvm.Cond.initialized "ParishUnion$Bench") ∈ gT := gT_of (tb_1 _ (List.mem_of_getElem? (i := 11) rfl)) rfl
theorem okX1_isLawful : gQok yX1_isLawful cX1_isLawful 4 (Option.some Jvm.ClassFile.FieldType.boolean) 2 := ⟨kw_3_151, kw_1_11, by decide +kernel, by decide +kernel, by decide +kernel⟩
theorem kw_3_150 : (Jvm.Cond.instanceMethod ({ cls := "ParishUnion$Bench", name := "isLawful", desc := "(LParishUnion$Union;LParishUnion$Right;)Z" } : Jvm.MethodName)) ∈ gT := gT_of (tb_3 _ (List.mem_of_getElem? (i := 150) rfl)) rfl
theorem kw_0_3 : (Jvm.Cond.selects "ParishUnion$Bench" ({ cls := "ParishUnion$Bench", name := "isLawful", desc := "(LParishUnion$Union;LParishUnion$Right;)Z" } : Jvm.MethodName) ({ cls := "ParishUnion$Bench", name := "isLawful", desc := "(LParishUnion$Union;LParishUnion$Right;)Z" } : Jvm.MethodName)) ∈ gT := gT_of (tb_0 _ (List.mem_of_getElem? (i := 3) rfl)) rfl
theorem dX1_prepare_87 : decode cX1_prepare 87 = .ok (.bastore, 1) := dc_84 (by decide +kernel)
theorem ra_155 (k : Int) : gRg 155 k = (0, 1) ∧ gCr 155 k = false ∧ gG 155 k = 25 := ⟨rfl, rfl, rfl⟩
theorem dX1_prepare_88 : decode cX1_prepare 88 = .ok (.aload_n 0, 1) := dc_42 (by decide +kernel)
theorem dX1_prepare_89 : decode cX1_prepare 89 = .ok (.getfield 9, 3) := dc_180 0 9 (by decide +kernel)
theorem dX1_prepare_92 : decode cX1_prepare 92 = .ok (.iload 4, 2) := dc_21 4 (by decide +kernel)
theorem dX1_prepare_94 : decode cX1_prepare 94 = .ok (.iaload, 1) := dc_46 (by decide +kernel)
theorem dX1_prepare_95 : decode cX1_prepare 95 = .ok (.ifCond .ne 33, 3) := dc_154 0 33 33 (by decide +kernel)
theorem dX1_prepare_128 : decode cX1_prepare 128 = .ok (.iinc 4 1, 3) := dc_132 4 1 1 (by decide +kernel)
theorem dX1_prepare_131 : decode cX1_prepare 131 = .ok (.goto (-89), 3) := dc_167 255 167 (-89) (by decide +kernel)
theorem dX1_prepare_98 : decode cX1_prepare 98 = .ok (.aload_n 0, 1) := dc_42 (by decide +kernel)
theorem dX1_prepare_99 : decode cX1_prepare 99 = .ok (.getfield 42, 3) := dc_180 0 42 (by decide +kernel)
theorem dX1_prepare_102 : decode cX1_prepare 102 = .ok (.bipush 10, 2) := dc_16 10 10 (by decide +kernel)
theorem dX1_prepare_104 : decode cX1_prepare 104 = .ok (.if_icmp .ge 24, 3) := dc_162 0 24 24 (by decide +kernel)
theorem dX1_prepare_107 : decode cX1_prepare 107 = .ok (.aload_n 0, 1) := dc_42 (by decide +kernel)
theorem dX1_prepare_108 : decode cX1_prepare 108 = .ok (.getfield 19, 3) := dc_180 0 19 (by decide +kernel)
theorem kw_2_181 : (Jvm.Cond.fieldLink "ParishUnion$Bench" (19 : Nat) "ParishUnion$Bench" "doubted" "[I") ∈ gT := gT_of (tb_2 _ (List.mem_of_getElem? (i := 181) rfl)) rfl
theorem rf_153_2 {sz : Nat} {M : gM} (I : gI sz M) (h : (153 : Int) < (sz : Int)) : M 153 2 = 156 + 1 := gI.rf I (by decide) h (by decide +kernel)
theorem dX1_prepare_111 : decode cX1_prepare 111 = .ok (.aload_n 0, 1) := dc_42 (by decide +kernel)
theorem dX1_prepare_112 : decode cX1_prepare 112 = .ok (.getfield 42, 3) := dc_180 0 42 (by decide +kernel)
theorem dX1_prepare_115 : decode cX1_prepare 115 = .ok (.iload 4, 2) := dc_21 4 (by decide +kernel)
theorem dX1_prepare_117 : decode cX1_prepare 117 = .ok (.iastore, 1) := dc_79 (by decide +kernel)
theorem ra_156 (k : Int) : gRg 156 k = (0, 39) ∧ gCr 156 k = false ∧ gG 156 k = 25 := ⟨rfl, rfl, rfl⟩
theorem dX1_prepare_118 : decode cX1_prepare 118 = .ok (.aload_n 0, 1) := dc_42 (by decide +kernel)
theorem dX1_prepare_119 : decode cX1_prepare 119 = .ok (.dup, 1) := dc_89 (by decide +kernel)
theorem dX1_prepare_120 : decode cX1_prepare 120 = .ok (.getfield 42, 3) := dc_180 0 42 (by decide +kernel)
theorem dX1_prepare_123 : decode cX1_prepare 123 = .ok (.iconst 1, 1) := dc_4 (by decide +kernel)
theorem dX1_prepare_124 : decode cX1_prepare 124 = .ok (.iadd, 1) := dc_96 (by decide +kernel)
theorem dX1_prepare_125 : decode cX1_prepare 125 = .ok (.putfield 42, 3) := dc_181 0 42 (by decide +kernel)
abbrev R_X1_prepare : Room := { frames := 5, cells := 0, slots := 0, locals := 143 }
set_option maxRecDepth 100000 in
set_option maxHeartbeats 4000000 in
theorem s_X1_prepare {l : Launch} {n0 : Nat} {D : va_G} {cA : Nat → ClassId} {M : gM} (b : Int) (r_b : -1 ≤ b ∧ b ≤ 80) {sz : Nat} (hsz : 206 ≤ sz) (I : gI sz M) (C : gC sz M)   : Met l yX1_prepare (gWsOf yX1_prepare cX1_prepare 5 (Option.none : Option Jvm.ClassFile.FieldType)) R_X1_prepare (gPc n0 D cA [gA n0 153, gA n0 1, gJ b] M sz) (gQv n0 D cA sz (fun M1 => gI sz M1 ∧ gC sz M1 ∧ gFr 33554432 M M1)) 0 0 (fun q => n0 ≤ q) := by
  refine gMetV [gA n0 153, gA n0 1, gJ b] (by decide) (Nat.le_of_ble_eq_true rfl) ⟨rfl, rfl⟩ ?_
  intro p e s m args below meth cd Q X hq
  have X : gCx p s m args meth cd n0 D cA "ParishUnion$Bench" cX1_prepare 5 := X
  show G p l e R_X1_prepare s m args below meth cd n0 D cA 5 Q 0 0 M sz 0 [(0, gA n0 153), (1, gA n0 1), (2, gJ b)] []
  refine g_iload_n (n := 1) X 2 dX1_prepare_0 rfl rfl rfl ?_
  refine g_iconst (n := 2) X dX1_prepare_1 rfl ?_
  have j3 : ∀ (v4 : Int) , (0 ≤ v4 ∧ v4 ≤ 80) → G p l e R_X1_prepare s m args below meth cd n0 D cA 5 Q 0 0 M sz 13 [(0, gA n0 153), (1, gA n0 1)] [gJ v4] := by
    intro v4 rv4
    refine g_istore_n (n := 14) (L' := [(3, gJ v4), (0, gA n0 153), (1, gA n0 1)]) X dX1_prepare_13 rfl (by decide) rfl rfl ?_
    refine g_aload_n (n := 15) X 1 dX1_prepare_14 rfl rfl rfl ?_
    refine g_aload_n (n := 16) X 2 dX1_prepare_15 rfl rfl rfl ?_
    refine g_bipush (n := 18) X dX1_prepare_16 (by decide +kernel) rfl ?_
    refine g_iconst (n := 19) X dX1_prepare_18 rfl ?_
    refine g_callVi (n := 22) (As := [gJ 6, gJ 0]) (rest := [gA n0 153]) (cs1 := 0) (ss1 := 0) X (s_X9_law 6 (by omega) 0 (by omega) hsz I C ) okX9_law kw_3_137 ⟨kw_3_138, kw_3_139⟩ ⟨rfl, rfl⟩ ⟨Nat.le_of_ble_eq_true rfl, Nat.le_of_ble_eq_true rfl⟩ rfl (by decide) (gsz hsz (by decide)) lay_1 rfl rfl (Nat.le_of_ble_eq_true rfl) ⟨Nat.le_of_ble_eq_true rfl, Nat.le_of_ble_eq_true rfl⟩ rfl rfl dX1_prepare_19 rfl (fun v5 M6 P7 => ?_)
    obtain ⟨rfl, rv5⟩ := P7
    refine g_iconst (n := 23) X dX1_prepare_22 rfl ?_
    have j9 : ∀ (v10 : Int) , (0 ≤ v10 ∧ v10 ≤ 1) → G p l e R_X1_prepare s m args below meth cd n0 D cA 5 Q 0 0 M sz 31 [(0, gA n0 153), (1, gA n0 1), (3, gJ v4)] [gJ v10, gA n0 153] := by
      intro v10 rv10
      refine gp_1_6 (n := 34) X (by decide) (gsz hsz (by decide)) lay_153 kw_2_185 (by omega) dX1_prepare_31 rfl ?_
      refine G.nm (fun M11 e12 => ?_)
      have IM11 : gI sz M11 := gI.set I rc_153_6.1 (by omega) e12
      have CM11 : gC sz M11 := gC.set C rc_153_6.2.1 e12
      refine g_aload_n (n := 35) X 0 dX1_prepare_34 rfl rfl rfl ?_
      refine g_iconst (n := 36) X dX1_prepare_35 rfl ?_
      refine gp_1_5 (n := 39) X (by decide) (gsz hsz (by decide)) lay_153 kw_2_184 dX1_prepare_36 rfl ?_
      refine G.nm (fun M13 e14 => ?_)
      have IM13 : gI sz M13 := gI.set IM11 rc_153_5.1 (by omega) e14
      have CM13 : gC sz M13 := gC.set CM11 rc_153_5.2.1 e14
      refine g_iconst (n := 40) X dX1_prepare_39 rfl ?_
      refine g_istore (n := 42) (L' := [(4, gJ 0), (0, gA n0 153), (1, gA n0 1), (3, gJ v4)]) X dX1_prepare_40 (by decide) rfl rfl ?_
      have j17 : ∀ (N277 : Nat) (v15 : Int) (M16 : gM) , (0 ≤ v15 ∧ v15 ≤ 40) → gI sz M16 → gC sz M16 → gFr 33554432 M13 M16 → (40 - v15).toNat < N277 → G p l e R_X1_prepare s m args below meth cd n0 D cA 5 Q 0 0 M16 sz 42 [(0, gA n0 153), (1, gA n0 1), (3, gJ v4), (4, gJ v15)] [] := by
        intro N277; induction N277 with
        | zero => intro v15 M16 rv15 IM16 CM16 FM16 hm279; exfalso; omega
        | succ N277 ih278 =>
          intro v15 M16 rv15 IM16 CM16 FM16 hm279
          refine g_iload (n := 44) X 3 dX1_prepare_42 rfl rfl ?_
          refine g_aload_n (n := 45) X 1 dX1_prepare_44 rfl rfl rfl ?_
          obtain ⟨v280, hv280, rv280⟩ := gRd IM16 (by decide) (gsz hsz (by decide)) rc_1_11.1
          refine gg_9_11 (n := 48) (z := v280) X (by decide) (gsz hsz (by decide)) lay_1 kw_2_128 dX1_prepare_45 rfl hv280 ?_
          refine g_icmp_ge (n := 51) (tgt := 134) X dX1_prepare_48 (by decide) (by omega) (by omega) rfl (fun c281 => ?_) (fun c281 => ?_)
          · exact hq _ _ _ dX1_prepare_134 ⟨IM16, CM16, (gFr.c (gFr.s (gFr.s gFr.rf e12 rc_153_6.2.2 rfl) e14 rc_153_5.2.2 rfl) FM16 rfl)⟩
          · refine g_aload_n (n := 52) X 0 dX1_prepare_51 rfl rfl rfl ?_
            refine gg_1_0 (n := 55) (z := 154) X (by decide) (gsz hsz (by decide)) lay_153 kw_2_179 dX1_prepare_52 rfl (rf_153_0 IM16 (gsz hsz (by decide))) (by decide) ?_
            refine g_iload (n := 57) X 3 dX1_prepare_55 rfl rfl ?_
            refine g_aload_n (n := 58) X 1 dX1_prepare_57 rfl rfl rfl ?_
            refine gg_9_2 (n := 61) (z := 6) X (by decide) (gsz hsz (by decide)) lay_1 kw_2_110 dX1_prepare_58 rfl (rf_1_2 IM16 (gsz hsz (by decide))) (by decide) ?_
            refine g_iload (n := 63) X 3 dX1_prepare_61 rfl rfl ?_
            obtain ⟨o282, ho282, ro282⟩ : ∃ o : Int, o = 47 + v15 ∧ (47 ≤ o ∧ o < 87) := ⟨_, rfl, by omega⟩
            refine g_aald7 (n := 64) (t := o282) X (by decide) (gsz hsz (by decide)) lay_6 (by omega) (by omega) (by decide) (gA6 IM16 hsz (by omega) (by omega) (by omega)) (by omega) dX1_prepare_63 rfl ?_
            refine g_iload_n (n := 65) X 2 dX1_prepare_64 rfl rfl rfl ?_
            refine g_callVi (n := 68) (As := [gJ v4]) (rest := [gJ v15, gA n0 154]) (cs1 := 0) (ss1 := 0) X (s_X8_heldBy o282 ro282 v4 (by omega) hsz IM16 CM16 ) okX8_heldBy kw_3_147 ⟨kw_3_105, kw_3_106⟩ ⟨rfl, rfl⟩ ⟨Nat.le_of_ble_eq_true rfl, Nat.le_of_ble_eq_true rfl⟩ rfl (Rto0 ro282) (Rtosz hsz ro282) (lay2_R ro282) rfl rfl (Nat.le_of_ble_eq_true rfl) ⟨Nat.le_of_ble_eq_true rfl, Nat.le_of_ble_eq_true rfl⟩ rfl rfl dX1_prepare_65 rfl (fun v283 M284 P285 => ?_)
            obtain ⟨rfl, rv283, xv283⟩ := P285
            refine g_iast (n := 69) X (by decide) (gsz hsz (by decide)) lay_154 (by omega) (by omega) (by decide) dX1_prepare_68 rfl ?_
            refine G.nm (fun M286 e287 => ?_)
            have IM286 : gI sz M286 := gI.set IM16 (ra_154 v15).1 (by omega) e287
            have CM286 : gC sz M286 := gC.set CM16 (ra_154 v15).2.1 e287
            refine g_aload_n (n := 70) X 0 dX1_prepare_69 rfl rfl rfl ?_
            refine gg_1_1 (n := 73) (z := 155) X (by decide) (gsz hsz (by decide)) lay_153 kw_2_180 dX1_prepare_70 rfl (rf_153_1 IM286 (gsz hsz (by decide))) (by decide) ?_
            refine g_iload (n := 75) X 3 dX1_prepare_73 rfl rfl ?_
            refine g_aload_n (n := 76) X 0 dX1_prepare_75 rfl rfl rfl ?_
            refine g_aload_n (n := 77) X 1 dX1_prepare_76 rfl rfl rfl ?_
            refine g_aload_n (n := 78) X 1 dX1_prepare_77 rfl rfl rfl ?_
            refine gg_9_2 (n := 81) (z := 6) X (by decide) (gsz hsz (by decide)) lay_1 kw_2_110 dX1_prepare_78 rfl (rf_1_2 IM286 (gsz hsz (by decide))) (by decide) ?_
            refine g_iload (n := 83) X 3 dX1_prepare_81 rfl rfl ?_
            refine g_aald7 (n := 84) (t := o282) X (by decide) (gsz hsz (by decide)) lay_6 (by omega) (by omega) (by decide) (gA6 IM286 hsz (by omega) (by omega) (by omega)) (by omega) dX1_prepare_83 rfl ?_
            refine g_callVi (n := 87) (As := [gA n0 1, gA n0 o282]) (rest := [gJ v15, gA n0 155]) (cs1 := 0) (ss1 := 0) X (s_X1_isLawful o282 ro282 hsz IM286 CM286 ) okX1_isLawful kw_3_148 ⟨kw_3_150, kw_0_3⟩ ⟨rfl, rfl⟩ ⟨Nat.le_of_ble_eq_true rfl, Nat.le_of_ble_eq_true rfl⟩ rfl (by decide) (gsz hsz (by decide)) lay_153 rfl rfl (Nat.le_of_ble_eq_true rfl) ⟨Nat.le_of_ble_eq_true rfl, Nat.le_of_ble_eq_true rfl⟩ rfl rfl dX1_prepare_84 rfl (fun v288 M289 P290 => ?_)
            obtain ⟨rfl, rv288⟩ := P290
            refine g_zast (n := 88) (z := v288) X (by decide) (gsz hsz (by decide)) lay_155 (by omega) (by omega) (by decide) (g_zn (by omega)) dX1_prepare_87 rfl ?_
            refine G.nm (fun M291 e292 => ?_)
            have IM291 : gI sz M291 := gI.set IM286 (ra_155 v15).1 (by omega) e292
            have CM291 : gC sz M291 := gC.set CM286 (ra_155 v15).2.1 e292
            refine g_aload_n (n := 89) X 0 dX1_prepare_88 rfl rfl rfl ?_
            refine gg_1_0 (n := 92) (z := 154) X (by decide) (gsz hsz (by decide)) lay_153 kw_2_179 dX1_prepare_89 rfl (rf_153_0 IM291 (gsz hsz (by decide))) (by decide) ?_
            refine g_iload (n := 94) X 3 dX1_prepare_92 rfl rfl ?_
            refine g_iald2 (n := 95) (v := v283) X (by decide) (gsz hsz (by decide)) lay_154 (by omega) (by omega) (by decide) dX1_prepare_94 rfl ((congrFun (congrFun e292 _) _).trans ((gset_ne (by omega)).trans ((congrFun (congrFun e287 _) _).trans (gset_eq _ _ _ _)))) ?_
            refine g_if_ne (n := 98) (tgt := 128) X dX1_prepare_95 (by decide) (by omega) rfl (fun c293 => ?_) (fun c293 => ?_)
            · refine g_iinc (n := 131) (w := v15 + 1) (L' := [(4, gJ (v15 + 1)), (0, gA n0 153), (1, gA n0 1), (3, gJ v4)]) X 3 dX1_prepare_128 rfl rfl (by decide) rfl rfl ?_
              refine g_goto (tgt := 42) X dX1_prepare_131 (by decide) ?_
              refine G.sub (L' := [(0, gA n0 153), (1, gA n0 1), (3, gJ v4), (4, gJ (v15 + 1))]) [1, 2, 3, 0] rfl ?_
              exact ih278 (v15 + 1) M291 (by omega) IM291 CM291 (gFr.s (gFr.s (gFr.c gFr.rf FM16 rfl) e287 (ra_154 v15).2.2 rfl) e292 (ra_155 v15).2.2 rfl) (by omega)
            · refine g_aload_n (n := 99) X 0 dX1_prepare_98 rfl rfl rfl ?_
              obtain ⟨v294, hv294, rv294⟩ := gRd IM291 (by decide) (gsz hsz (by decide)) rc_153_5.1
              refine gg_1_5 (n := 102) (z := v294) X (by decide) (gsz hsz (by decide)) lay_153 kw_2_184 dX1_prepare_99 rfl hv294 ?_
              refine g_bipush (n := 104) X dX1_prepare_102 (by decide +kernel) rfl ?_
              refine g_icmp_ge (n := 107) (tgt := 128) X dX1_prepare_104 (by decide) (by omega) (by omega) rfl (fun c295 => ?_) (fun c295 => ?_)
              · refine g_iinc (n := 131) (w := v15 + 1) (L' := [(4, gJ (v15 + 1)), (0, gA n0 153), (1, gA n0 1), (3, gJ v4)]) X 3 dX1_prepare_128 rfl rfl (by decide) rfl rfl ?_
                refine g_goto (tgt := 42) X dX1_prepare_131 (by decide) ?_
                refine G.sub (L' := [(0, gA n0 153), (1, gA n0 1), (3, gJ v4), (4, gJ (v15 + 1))]) [1, 2, 3, 0] rfl ?_
                exact ih278 (v15 + 1) M291 (by omega) IM291 CM291 (gFr.s (gFr.s (gFr.c gFr.rf FM16 rfl) e287 (ra_154 v15).2.2 rfl) e292 (ra_155 v15).2.2 rfl) (by omega)
              · refine g_aload_n (n := 108) X 0 dX1_prepare_107 rfl rfl rfl ?_
                refine gg_1_2 (n := 111) (z := 156) X (by decide) (gsz hsz (by decide)) lay_153 kw_2_181 dX1_prepare_108 rfl (rf_153_2 IM291 (gsz hsz (by decide))) (by decide) ?_
                refine g_aload_n (n := 112) X 0 dX1_prepare_111 rfl rfl rfl ?_
                refine gg_1_5 (n := 115) (z := v294) X (by decide) (gsz hsz (by decide)) lay_153 kw_2_184 dX1_prepare_112 rfl hv294 ?_
                refine g_iload (n := 117) X 3 dX1_prepare_115 rfl rfl ?_
                refine g_iast (n := 118) X (by decide) (gsz hsz (by decide)) lay_156 (by omega) (by omega) (by decide) dX1_prepare_117 rfl ?_
                refine G.nm (fun M296 e297 => ?_)
                have IM296 : gI sz M296 := gI.set IM291 (ra_156 v294).1 (by omega) e297
                have CM296 : gC sz M296 := gC.set CM291 (ra_156 v294).2.1 e297
                refine g_aload_n (n := 119) X 0 dX1_prepare_118 rfl rfl rfl ?_
                refine g_dup (n := 120) X dX1_prepare_119 rfl rfl ?_
                refine gg_1_5 (n := 123) (z := v294) X (by decide) (gsz hsz (by decide)) lay_153 kw_2_184 dX1_prepare_120 rfl ((congrFun (congrFun e297 _) _).trans ((gset_ne (by omega)).trans hv294)) ?_
                refine g_iconst (n := 124) X dX1_prepare_123 rfl ?_
                refine g_iadd (n := 125) (z := v294 + 1) X dX1_prepare_124 (by omega) rfl ?_
                refine gp_1_5 (n := 128) X (by decide) (gsz hsz (by decide)) lay_153 kw_2_184 dX1_prepare_125 rfl ?_
                refine G.nm (fun M298 e299 => ?_)
                have IM298 : gI sz M298 := gI.set IM296 rc_153_5.1 (by omega) e299
                have CM298 : gC sz M298 := gC.set CM296 rc_153_5.2.1 e299
                refine g_iinc (n := 131) (w := v15 + 1) (L' := [(4, gJ (v15 + 1)), (0, gA n0 153), (1, gA n0 1), (3, gJ v4)]) X 3 dX1_prepare_128 rfl rfl (by decide) rfl rfl ?_
                refine g_goto (tgt := 42) X dX1_prepare_131 (by decide) ?_
                refine G.sub (L' := [(0, gA n0 153), (1, gA n0 1), (3, gJ v4), (4, gJ (v15 + 1))]) [1, 2, 3, 0] rfl ?_
                exact ih278 (v15 + 1) M298 (by omega) IM298 CM298 (gFr.s (gFr.s (gFr.s (gFr.s (gFr.c gFr.rf FM16 rfl) e287 (ra_154 v15).2.2 rfl) e292 (ra_155 v15).2.2 rfl) e297 (ra_156 v294).2.2 rfl) e299 rc_153_5.2.2 rfl) (by omega)
      refine G.sub (L' := [(0, gA n0 153), (1, gA n0 1), (3, gJ v4), (4, gJ 0)]) [1, 2, 3, 0] rfl ?_
      exact j17 _ 0 M13 (by omega) IM13 CM13 gFr.rf (Nat.lt_succ_self _)
    refine g_icmp_ne (n := 26) (tgt := 30) X dX1_prepare_23 (by decide) (by omega) (by omega) rfl (fun c8 => ?_) (fun c8 => ?_)
    · refine g_iconst (n := 31) X dX1_prepare_30 rfl ?_
      refine G.sub (L' := [(0, gA n0 153), (1, gA n0 1), (3, gJ v4)]) [1, 2, 0] rfl ?_
      exact j9 0 (by omega)
    · refine g_iconst (n := 27) X dX1_prepare_26 rfl ?_
      refine g_goto (tgt := 31) X dX1_prepare_27 (by decide) ?_
      refine G.sub (L' := [(0, gA n0 153), (1, gA n0 1), (3, gJ v4)]) [1, 2, 0] rfl ?_
      exact j9 1 (by omega)
  refine g_icmp_ne (n := 5) (tgt := 12) X dX1_prepare_2 (by decide) (by omega) (by omega) rfl (fun c1 => ?_) (fun c1 => ?_)
  · refine g_iload_n (n := 13) X 2 dX1_prepare_12 rfl rfl rfl ?_
    refine G.sub (L' := [(0, gA n0 153), (1, gA n0 1)]) [0, 1] rfl ?_
    exact j3 b (by omega)
  · refine g_aload_n (n := 6) X 1 dX1_prepare_5 rfl rfl rfl ?_
    obtain ⟨v300, hv300, rv300⟩ := gRd I (by decide) (gsz hsz (by decide)) rc_1_12.1
    refine gg_9_12 (n := 9) (z := v300) X (by decide) (gsz hsz (by decide)) lay_1 kw_2_131 dX1_prepare_6 rfl hv300 ?_
    refine g_goto (tgt := 13) X dX1_prepare_9 (by decide) ?_
    refine G.sub (L' := [(0, gA n0 153), (1, gA n0 1)]) [0, 1] rfl ?_
    exact j3 v300 (by omega)
theorem dX1_lastRight_0 : decode cX1_lastRight 0 = .ok (.iconst (-1), 1) := dc_2 (by decide +kernel)
theorem dX1_lastRight_1 : decode cX1_lastRight 1 = .ok (.istore 6, 2) := dc_54 6 (by decide +kernel)
theorem dX1_lastRight_3 : decode cX1_lastRight 3 = .ok (.iconst 0, 1) := dc_3 (by decide +kernel)
theorem dX1_lastRight_4 : decode cX1_lastRight 4 = .ok (.istore 7, 2) := dc_54 7 (by decide +kernel)
theorem dX1_lastRight_6 : decode cX1_lastRight 6 = .ok (.iload 7, 2) := dc_21 7 (by decide +kernel)
theorem dX1_lastRight_8 : decode cX1_lastRight 8 = .ok (.aload_n 1, 1) := dc_43 (by decide +kernel)
theorem dX1_lastRight_9 : decode cX1_lastRight 9 = .ok (.getfield 45, 3) := dc_180 0 45 (by decide +kernel)
theorem dX1_lastRight_12 : decode cX1_lastRight 12 = .ok (.if_icmp .ge 122, 3) := dc_162 0 122 122 (by decide +kernel)
theorem dX1_lastRight_134 : decode cX1_lastRight 134 = .ok (.iload 6, 2) := dc_21 6 (by decide +kernel)
theorem dX1_lastRight_136 : decode cX1_lastRight 136 = .ok (.ireturn, 1) := dc_172 (by decide +kernel)
theorem dX1_lastRight_15 : decode cX1_lastRight 15 = .ok (.aload_n 1, 1) := dc_43 (by decide +kernel)
theorem dX1_lastRight_16 : decode cX1_lastRight 16 = .ok (.getfield 48, 3) := dc_180 0 48 (by decide +kernel)
theorem dX1_lastRight_19 : decode cX1_lastRight 19 = .ok (.iload 7, 2) := dc_21 7 (by decide +kernel)
theorem dX1_lastRight_21 : decode cX1_lastRight 21 = .ok (.aaload, 1) := dc_50 (by decide +kernel)
theorem dX1_lastRight_22 : decode cX1_lastRight 22 = .ok (.astore 8, 2) := dc_58 8 (by decide +kernel)
theorem dX1_lastRight_24 : decode cX1_lastRight 24 = .ok (.aload 8, 2) := dc_25 8 (by decide +kernel)
theorem dX1_lastRight_26 : decode cX1_lastRight 26 = .ok (.getfield 99, 3) := dc_180 0 99 (by decide +kernel)
theorem kw_2_28 : (Jvm.Cond.fieldLink "ParishUnion$Bench" (99 : Nat) "ParishUnion$Right" "person" "I") ∈ gT := gT_of (tb_2 _ (List.mem_of_getElem? (i := 28) rfl)) rfl
theorem dX1_lastRight_29 : decode cX1_lastRight 29 = .ok (.iload_n 2, 1) := dc_28 (by decide +kernel)
theorem dX1_lastRight_30 : decode cX1_lastRight 30 = .ok (.if_icmp .ne 98, 3) := dc_160 0 98 98 (by decide +kernel)
theorem dX1_lastRight_128 : decode cX1_lastRight 128 = .ok (.iinc 7 1, 3) := dc_132 7 1 1 (by decide +kernel)
theorem dX1_lastRight_131 : decode cX1_lastRight 131 = .ok (.goto (-125), 3) := dc_167 255 131 (-125) (by decide +kernel)
theorem dX1_lastRight_33 : decode cX1_lastRight 33 = .ok (.aload 8, 2) := dc_25 8 (by decide +kernel)
theorem dX1_lastRight_35 : decode cX1_lastRight 35 = .ok (.getfield 62, 3) := dc_180 0 62 (by decide +kernel)
theorem dX1_lastRight_38 : decode cX1_lastRight 38 = .ok (.iload_n 3, 1) := dc_29 (by decide +kernel)
theorem dX1_lastRight_39 : decode cX1_lastRight 39 = .ok (.if_icmp .gt 89, 3) := dc_163 0 89 89 (by decide +kernel)
theorem dX1_lastRight_42 : decode cX1_lastRight 42 = .ok (.aload_n 0, 1) := dc_42 (by decide +kernel)
theorem dX1_lastRight_43 : decode cX1_lastRight 43 = .ok (.getfield 15, 3) := dc_180 0 15 (by decide +kernel)
theorem dX1_lastRight_46 : decode cX1_lastRight 46 = .ok (.iload 7, 2) := dc_21 7 (by decide +kernel)
theorem dX1_lastRight_48 : decode cX1_lastRight 48 = .ok (.baload, 1) := dc_51 (by decide +kernel)
theorem dX1_lastRight_49 : decode cX1_lastRight 49 = .ok (.ifCond .ne 6, 3) := dc_154 0 6 6 (by decide +kernel)
theorem dX1_lastRight_55 : decode cX1_lastRight 55 = .ok (.aload_n 0, 1) := dc_42 (by decide +kernel)
theorem dX1_lastRight_56 : decode cX1_lastRight 56 = .ok (.getfield 9, 3) := dc_180 0 9 (by decide +kernel)
theorem dX1_lastRight_59 : decode cX1_lastRight 59 = .ok (.iload 7, 2) := dc_21 7 (by decide +kernel)
theorem dX1_lastRight_61 : decode cX1_lastRight 61 = .ok (.iaload, 1) := dc_46 (by decide +kernel)
theorem dX1_lastRight_62 : decode cX1_lastRight 62 = .ok (.iconst 1, 1) := dc_4 (by decide +kernel)
theorem dX1_lastRight_63 : decode cX1_lastRight 63 = .ok (.if_icmp .eq 25, 3) := dc_159 0 25 25 (by decide +kernel)
theorem dX1_lastRight_88 : decode cX1_lastRight 88 = .ok (.iconst 1, 1) := dc_4 (by decide +kernel)
theorem dX1_lastRight_89 : decode cX1_lastRight 89 = .ok (.goto 4, 3) := dc_167 0 4 4 (by decide +kernel)
theorem dX1_lastRight_93 : decode cX1_lastRight 93 = .ok (.istore 9, 2) := dc_54 9 (by decide +kernel)
theorem dX1_lastRight_95 : decode cX1_lastRight 95 = .ok (.iload 9, 2) := dc_21 9 (by decide +kernel)
theorem dX1_lastRight_97 : decode cX1_lastRight 97 = .ok (.ifCond .eq 31, 3) := dc_153 0 31 31 (by decide +kernel)
theorem dX1_lastRight_100 : decode cX1_lastRight 100 = .ok (.iload 6, 2) := dc_21 6 (by decide +kernel)
theorem dX1_lastRight_102 : decode cX1_lastRight 102 = .ok (.iconst (-1), 1) := dc_2 (by decide +kernel)
theorem dX1_lastRight_103 : decode cX1_lastRight 103 = .ok (.if_icmp .eq 21, 3) := dc_159 0 21 21 (by decide +kernel)
theorem dX1_lastRight_124 : decode cX1_lastRight 124 = .ok (.iload 7, 2) := dc_21 7 (by decide +kernel)
theorem dX1_lastRight_126 : decode cX1_lastRight 126 = .ok (.istore 6, 2) := dc_54 6 (by decide +kernel)
theorem dX1_lastRight_66 : decode cX1_lastRight 66 = .ok (.aload_n 0, 1) := dc_42 (by decide +kernel)
theorem dX1_lastRight_67 : decode cX1_lastRight 67 = .ok (.getfield 9, 3) := dc_180 0 9 (by decide +kernel)
theorem dX1_lastRight_70 : decode cX1_lastRight 70 = .ok (.iload 7, 2) := dc_21 7 (by decide +kernel)
theorem dX1_lastRight_72 : decode cX1_lastRight 72 = .ok (.iaload, 1) := dc_46 (by decide +kernel)
theorem dX1_lastRight_73 : decode cX1_lastRight 73 = .ok (.ifCond .ne 19, 3) := dc_154 0 19 19 (by decide +kernel)
theorem dX1_lastRight_92 : decode cX1_lastRight 92 = .ok (.iconst 0, 1) := dc_3 (by decide +kernel)
theorem dX1_lastRight_76 : decode cX1_lastRight 76 = .ok (.lload 4, 2) := dc_22 4 (by decide +kernel)
theorem dX1_lastRight_78 : decode cX1_lastRight 78 = .ok (.iload 7, 2) := dc_21 7 (by decide +kernel)
theorem dX1_lastRight_80 : decode cX1_lastRight 80 = .ok (.lshr, 1) := dc_123 (by decide +kernel)
theorem dX1_lastRight_81 : decode cX1_lastRight 81 = .ok (.lconst 1, 1) := dc_10 (by decide +kernel)
theorem dX1_lastRight_82 : decode cX1_lastRight 82 = .ok (.land, 1) := dc_127 (by decide +kernel)
theorem dX1_lastRight_83 : decode cX1_lastRight 83 = .ok (.lconst 1, 1) := dc_10 (by decide +kernel)
theorem dX1_lastRight_84 : decode cX1_lastRight 84 = .ok (.lcmp, 1) := dc_148 (by decide +kernel)
theorem dX1_lastRight_85 : decode cX1_lastRight 85 = .ok (.ifCond .ne 7, 3) := dc_154 0 7 7 (by decide +kernel)
theorem dX1_lastRight_52 : decode cX1_lastRight 52 = .ok (.goto 76, 3) := dc_167 0 76 76 (by decide +kernel)
theorem dX1_lastRight_106 : decode cX1_lastRight 106 = .ok (.aload 8, 2) := dc_25 8 (by decide +kernel)
theorem dX1_lastRight_108 : decode cX1_lastRight 108 = .ok (.getfield 62, 3) := dc_180 0 62 (by decide +kernel)
theorem dX1_lastRight_111 : decode cX1_lastRight 111 = .ok (.aload_n 1, 1) := dc_43 (by decide +kernel)
theorem dX1_lastRight_112 : decode cX1_lastRight 112 = .ok (.getfield 48, 3) := dc_180 0 48 (by decide +kernel)
theorem dX1_lastRight_115 : decode cX1_lastRight 115 = .ok (.iload 6, 2) := dc_21 6 (by decide +kernel)
theorem dX1_lastRight_117 : decode cX1_lastRight 117 = .ok (.aaload, 1) := dc_50 (by decide +kernel)
theorem dX1_lastRight_118 : decode cX1_lastRight 118 = .ok (.getfield 62, 3) := dc_180 0 62 (by decide +kernel)
theorem dX1_lastRight_121 : decode cX1_lastRight 121 = .ok (.if_icmp .lt 7, 3) := dc_161 0 7 7 (by decide +kernel)
abbrev R_X1_lastRight : Room := { frames := 0, cells := 0, slots := 0, locals := 0 }
set_option maxRecDepth 100000 in
set_option maxHeartbeats 4000000 in
theorem s_X1_lastRight {l : Launch} {n0 : Nat} {D : va_G} {cA : Nat → ClassId} {M : gM} (b : Int) (r_b : 0 ≤ b ∧ b ≤ 15) (c : Int) (r_c : -3000 ≤ c ∧ c ≤ 300) (d : Int) (r_d : -9223372036854775808 ≤ d ∧ d ≤ 9223372036854775807) {sz : Nat} (hsz : 206 ≤ sz) (I : gI sz M) (C : gC sz M)   : Met l yX1_lastRight (gWsOf yX1_lastRight cX1_lastRight 10 (Option.some Jvm.ClassFile.FieldType.int)) R_X1_lastRight (gPc n0 D cA [gA n0 153, gA n0 1, gJ b, gJ c, gV d] M sz) (gQi n0 D cA sz (fun z M1 => M = M1 ∧ (-1 ≤ z ∧ z ≤ 39))) 0 0 (fun q => n0 ≤ q) := by
  refine gMetI [gA n0 153, gA n0 1, gJ b, gJ c, gV d] (by decide) (Nat.le_of_ble_eq_true rfl) ⟨rfl, rfl⟩ ?_
  intro p e s m args below meth cd Q X hq
  have X : gCx p s m args meth cd n0 D cA "ParishUnion$Bench" cX1_lastRight 10 := X
  show G p l e R_X1_lastRight s m args below meth cd n0 D cA 10 Q 0 0 M sz 0 [(0, gA n0 153), (1, gA n0 1), (2, gJ b), (3, gJ c), (4, gV d)] []
  refine g_iconst (n := 1) X dX1_lastRight_0 rfl ?_
  refine g_istore (n := 3) (L' := [(6, gJ (-1)), (0, gA n0 153), (1, gA n0 1), (2, gJ b), (3, gJ c), (4, gV d)]) X dX1_lastRight_1 (by decide) rfl rfl ?_
  refine g_iconst (n := 4) X dX1_lastRight_3 rfl ?_
  refine g_istore (n := 6) (L' := [(7, gJ 0), (6, gJ (-1)), (0, gA n0 153), (1, gA n0 1), (2, gJ b), (3, gJ c), (4, gV d)]) X dX1_lastRight_4 (by decide) rfl rfl ?_
  have j4 : ∀ (N195 : Nat) (v1 v2 : Int) , (-1 ≤ v1 ∧ v1 ≤ 39) → (0 ≤ v2 ∧ v2 ≤ 40) → (40 - v2).toNat < N195 → G p l e R_X1_lastRight s m args below meth cd n0 D cA 10 Q 0 0 M sz 6 [(0, gA n0 153), (1, gA n0 1), (2, gJ b), (3, gJ c), (4, gV d), (6, gJ v1), (7, gJ v2)] [] := by
    intro N195; induction N195 with
    | zero => intro v1 v2 rv1 rv2 hm197; exfalso; omega
    | succ N195 ih196 =>
      intro v1 v2 rv1 rv2 hm197
      refine g_iload (n := 8) X 6 dX1_lastRight_6 rfl rfl ?_
      refine g_aload_n (n := 9) X 1 dX1_lastRight_8 rfl rfl rfl ?_
      obtain ⟨v198, hv198, rv198⟩ := gRd I (by decide) (gsz hsz (by decide)) rc_1_11.1
      refine gg_9_11 (n := 12) (z := v198) X (by decide) (gsz hsz (by decide)) lay_1 kw_2_128 dX1_lastRight_9 rfl hv198 ?_
      refine g_icmp_ge (n := 15) (tgt := 134) X dX1_lastRight_12 (by decide) (by omega) (by omega) rfl (fun c199 => ?_) (fun c199 => ?_)
      · refine g_iload (n := 136) X 5 dX1_lastRight_134 rfl rfl ?_
        exact hq _ _ _ _ dX1_lastRight_136 ⟨rfl, by omega⟩
      · refine g_aload_n (n := 16) X 1 dX1_lastRight_15 rfl rfl rfl ?_
        refine gg_9_2 (n := 19) (z := 6) X (by decide) (gsz hsz (by decide)) lay_1 kw_2_110 dX1_lastRight_16 rfl (rf_1_2 I (gsz hsz (by decide))) (by decide) ?_
        refine g_iload (n := 21) X 6 dX1_lastRight_19 rfl rfl ?_
        obtain ⟨o200, ho200, ro200⟩ : ∃ o : Int, o = 47 + v2 ∧ (47 ≤ o ∧ o < 87) := ⟨_, rfl, by omega⟩
        refine g_aald7 (n := 22) (t := o200) X (by decide) (gsz hsz (by decide)) lay_6 (by omega) (by omega) (by decide) (gA6 I hsz (by omega) (by omega) (by omega)) (by omega) dX1_lastRight_21 rfl ?_
        refine g_astore (n := 24) (L' := [(8, gA n0 o200), (0, gA n0 153), (1, gA n0 1), (2, gJ b), (3, gJ c), (4, gV d), (6, gJ v1), (7, gJ v2)]) X dX1_lastRight_22 (by decide) rfl rfl ?_
        refine g_aload (n := 26) X 0 dX1_lastRight_24 rfl rfl ?_
        obtain ⟨v201, hv201, rv201⟩ := gRd I (Rto0 ro200) (Rtosz hsz ro200) (rR_1 ro200).1
        refine gg_8_1 (n := 29) (z := v201) X (Rto0 ro200) (Rtosz hsz ro200) (lay2_R ro200) kw_2_28 dX1_lastRight_26 rfl hv201 ?_
        refine g_iload_n (n := 30) X 3 dX1_lastRight_29 rfl rfl rfl ?_
        refine g_icmp_ne (n := 33) (tgt := 128) X dX1_lastRight_30 (by decide) (by omega) (by omega) rfl (fun c202 => ?_) (fun c202 => ?_)
        · refine g_iinc (n := 131) (w := v2 + 1) (L' := [(7, gJ (v2 + 1)), (8, gA n0 o200), (0, gA n0 153), (1, gA n0 1), (2, gJ b), (3, gJ c), (4, gV d), (6, gJ v1)]) X 7 dX1_lastRight_128 rfl rfl (by decide) rfl rfl ?_
          refine g_goto (tgt := 6) X dX1_lastRight_131 (by decide) ?_
          refine G.sub (L' := [(0, gA n0 153), (1, gA n0 1), (2, gJ b), (3, gJ c), (4, gV d), (6, gJ v1), (7, gJ (v2 + 1))]) [2, 3, 4, 5, 6, 7, 0] rfl ?_
          exact ih196 v1 (v2 + 1) (by omega) (by omega) (by omega)
        · refine g_aload (n := 35) X 0 dX1_lastRight_33 rfl rfl ?_
          obtain ⟨v203, hv203, rv203⟩ := gRd I (Rto0 ro200) (Rtosz hsz ro200) (rR_4 ro200).1
          refine gg_8_4 (n := 38) (z := v203) X (Rto0 ro200) (Rtosz hsz ro200) (lay2_R ro200) kw_2_36 dX1_lastRight_35 rfl hv203 ?_
          refine g_iload_n (n := 39) X 4 dX1_lastRight_38 rfl rfl rfl ?_
          refine g_icmp_gt (n := 42) (tgt := 128) X dX1_lastRight_39 (by decide) (by omega) (by omega) rfl (fun c204 => ?_) (fun c204 => ?_)
          · refine g_iinc (n := 131) (w := v2 + 1) (L' := [(7, gJ (v2 + 1)), (8, gA n0 o200), (0, gA n0 153), (1, gA n0 1), (2, gJ b), (3, gJ c), (4, gV d), (6, gJ v1)]) X 7 dX1_lastRight_128 rfl rfl (by decide) rfl rfl ?_
            refine g_goto (tgt := 6) X dX1_lastRight_131 (by decide) ?_
            refine G.sub (L' := [(0, gA n0 153), (1, gA n0 1), (2, gJ b), (3, gJ c), (4, gV d), (6, gJ v1), (7, gJ (v2 + 1))]) [2, 3, 4, 5, 6, 7, 0] rfl ?_
            exact ih196 v1 (v2 + 1) (by omega) (by omega) (by omega)
          · refine g_aload_n (n := 43) X 1 dX1_lastRight_42 rfl rfl rfl ?_
            refine gg_1_1 (n := 46) (z := 155) X (by decide) (gsz hsz (by decide)) lay_153 kw_2_180 dX1_lastRight_43 rfl (rf_153_1 I (gsz hsz (by decide))) (by decide) ?_
            refine g_iload (n := 48) X 7 dX1_lastRight_46 rfl rfl ?_
            obtain ⟨v205, hv205, rv205⟩ := gRd I (by decide) (gsz hsz (by decide)) (ra_155 v2).1
            refine g_zald2 (n := 49) (v := v205) X (by decide) (gsz hsz (by decide)) lay_155 (by omega) (by omega) (by decide) dX1_lastRight_48 rfl hv205 ?_
            refine g_if_ne (n := 52) (tgt := 55) X dX1_lastRight_49 (by decide) (by omega) rfl (fun c206 => ?_) (fun c206 => ?_)
            · refine g_aload_n (n := 56) X 1 dX1_lastRight_55 rfl rfl rfl ?_
              refine gg_1_0 (n := 59) (z := 154) X (by decide) (gsz hsz (by decide)) lay_153 kw_2_179 dX1_lastRight_56 rfl (rf_153_0 I (gsz hsz (by decide))) (by decide) ?_
              refine g_iload (n := 61) X 7 dX1_lastRight_59 rfl rfl ?_
              obtain ⟨v207, hv207, rv207⟩ := gRd I (by decide) (gsz hsz (by decide)) (ra_154 v2).1
              refine g_iald2 (n := 62) (v := v207) X (by decide) (gsz hsz (by decide)) lay_154 (by omega) (by omega) (by decide) dX1_lastRight_61 rfl hv207 ?_
              refine g_iconst (n := 63) X dX1_lastRight_62 rfl ?_
              refine g_icmp_eq (n := 66) (tgt := 88) X dX1_lastRight_63 (by decide) (by omega) (by omega) rfl (fun c208 => ?_) (fun c208 => ?_)
              · refine g_iconst (n := 89) X dX1_lastRight_88 rfl ?_
                refine g_goto (tgt := 93) X dX1_lastRight_89 (by decide) ?_
                refine g_istore (n := 95) (L' := [(9, gJ 1), (8, gA n0 o200), (0, gA n0 153), (1, gA n0 1), (2, gJ b), (3, gJ c), (4, gV d), (6, gJ v1), (7, gJ v2)]) X dX1_lastRight_93 (by decide) rfl rfl ?_
                refine g_iload (n := 97) X 0 dX1_lastRight_95 rfl rfl ?_
                refine g_if_eq (n := 100) (tgt := 128) X dX1_lastRight_97 (by decide) (by omega) rfl (fun c209 => by exfalso; omega) (fun c209 => ?_)
                refine g_iload (n := 102) X 7 dX1_lastRight_100 rfl rfl ?_
                refine g_iconst (n := 103) X dX1_lastRight_102 rfl ?_
                refine g_icmp_eq (n := 106) (tgt := 124) X dX1_lastRight_103 (by decide) (by omega) (by omega) rfl (fun c210 => ?_) (fun c210 => ?_)
                · refine g_iload (n := 126) X 8 dX1_lastRight_124 rfl rfl ?_
                  refine g_istore (n := 128) (L' := [(6, gJ v2), (9, gJ 1), (8, gA n0 o200), (0, gA n0 153), (1, gA n0 1), (2, gJ b), (3, gJ c), (4, gV d), (7, gJ v2)]) X dX1_lastRight_126 (by decide) rfl rfl ?_
                  refine g_iinc (n := 131) (w := v2 + 1) (L' := [(7, gJ (v2 + 1)), (6, gJ v2), (9, gJ 1), (8, gA n0 o200), (0, gA n0 153), (1, gA n0 1), (2, gJ b), (3, gJ c), (4, gV d)]) X 8 dX1_lastRight_128 rfl rfl (by decide) rfl rfl ?_
                  refine g_goto (tgt := 6) X dX1_lastRight_131 (by decide) ?_
                  refine G.sub (L' := [(0, gA n0 153), (1, gA n0 1), (2, gJ b), (3, gJ c), (4, gV d), (6, gJ v2), (7, gJ (v2 + 1))]) [4, 5, 6, 7, 8, 1, 0] rfl ?_
                  exact ih196 v2 (v2 + 1) (by omega) (by omega) (by omega)
                · refine g_aload (n := 108) X 1 dX1_lastRight_106 rfl rfl ?_
                  refine gg_8_4 (n := 111) (z := v203) X (Rto0 ro200) (Rtosz hsz ro200) (lay2_R ro200) kw_2_36 dX1_lastRight_108 rfl hv203 ?_
                  refine g_aload_n (n := 112) X 3 dX1_lastRight_111 rfl rfl rfl ?_
                  refine gg_9_2 (n := 115) (z := 6) X (by decide) (gsz hsz (by decide)) lay_1 kw_2_110 dX1_lastRight_112 rfl (rf_1_2 I (gsz hsz (by decide))) (by decide) ?_
                  refine g_iload (n := 117) X 7 dX1_lastRight_115 rfl rfl ?_
                  obtain ⟨o211, ho211, ro211⟩ : ∃ o : Int, o = 47 + v1 ∧ (47 ≤ o ∧ o < 87) := ⟨_, rfl, by omega⟩
                  refine g_aald7 (n := 118) (t := o211) X (by decide) (gsz hsz (by decide)) lay_6 (by omega) (by omega) (by decide) (gA6 I hsz (by omega) (by omega) (by omega)) (by omega) dX1_lastRight_117 rfl ?_
                  obtain ⟨v212, hv212, rv212⟩ := gRd I (Rto0 ro211) (Rtosz hsz ro211) (rR_4 ro211).1
                  refine gg_8_4 (n := 121) (z := v212) X (Rto0 ro211) (Rtosz hsz ro211) (lay2_R ro211) kw_2_36 dX1_lastRight_118 rfl hv212 ?_
                  refine g_icmp_lt (n := 124) (tgt := 128) X dX1_lastRight_121 (by decide) (by omega) (by omega) rfl (fun c213 => ?_) (fun c213 => ?_)
                  · refine g_iinc (n := 131) (w := v2 + 1) (L' := [(7, gJ (v2 + 1)), (9, gJ 1), (8, gA n0 o200), (0, gA n0 153), (1, gA n0 1), (2, gJ b), (3, gJ c), (4, gV d), (6, gJ v1)]) X 8 dX1_lastRight_128 rfl rfl (by decide) rfl rfl ?_
                    refine g_goto (tgt := 6) X dX1_lastRight_131 (by decide) ?_
                    refine G.sub (L' := [(0, gA n0 153), (1, gA n0 1), (2, gJ b), (3, gJ c), (4, gV d), (6, gJ v1), (7, gJ (v2 + 1))]) [3, 4, 5, 6, 7, 8, 0] rfl ?_
                    exact ih196 v1 (v2 + 1) (by omega) (by omega) (by omega)
                  · refine g_iload (n := 126) X 8 dX1_lastRight_124 rfl rfl ?_
                    refine g_istore (n := 128) (L' := [(6, gJ v2), (9, gJ 1), (8, gA n0 o200), (0, gA n0 153), (1, gA n0 1), (2, gJ b), (3, gJ c), (4, gV d), (7, gJ v2)]) X dX1_lastRight_126 (by decide) rfl rfl ?_
                    refine g_iinc (n := 131) (w := v2 + 1) (L' := [(7, gJ (v2 + 1)), (6, gJ v2), (9, gJ 1), (8, gA n0 o200), (0, gA n0 153), (1, gA n0 1), (2, gJ b), (3, gJ c), (4, gV d)]) X 8 dX1_lastRight_128 rfl rfl (by decide) rfl rfl ?_
                    refine g_goto (tgt := 6) X dX1_lastRight_131 (by decide) ?_
                    refine G.sub (L' := [(0, gA n0 153), (1, gA n0 1), (2, gJ b), (3, gJ c), (4, gV d), (6, gJ v2), (7, gJ (v2 + 1))]) [4, 5, 6, 7, 8, 1, 0] rfl ?_
                    exact ih196 v2 (v2 + 1) (by omega) (by omega) (by omega)
              · refine g_aload_n (n := 67) X 1 dX1_lastRight_66 rfl rfl rfl ?_
                refine gg_1_0 (n := 70) (z := 154) X (by decide) (gsz hsz (by decide)) lay_153 kw_2_179 dX1_lastRight_67 rfl (rf_153_0 I (gsz hsz (by decide))) (by decide) ?_
                refine g_iload (n := 72) X 7 dX1_lastRight_70 rfl rfl ?_
                refine g_iald2 (n := 73) (v := v207) X (by decide) (gsz hsz (by decide)) lay_154 (by omega) (by omega) (by decide) dX1_lastRight_72 rfl hv207 ?_
                refine g_if_ne (n := 76) (tgt := 92) X dX1_lastRight_73 (by decide) (by omega) rfl (fun c214 => ?_) (fun c214 => ?_)
                · refine g_iconst (n := 93) X dX1_lastRight_92 rfl ?_
                  refine g_istore (n := 95) (L' := [(9, gJ 0), (8, gA n0 o200), (0, gA n0 153), (1, gA n0 1), (2, gJ b), (3, gJ c), (4, gV d), (6, gJ v1), (7, gJ v2)]) X dX1_lastRight_93 (by decide) rfl rfl ?_
                  refine g_iload (n := 97) X 0 dX1_lastRight_95 rfl rfl ?_
                  refine g_if_eq (n := 100) (tgt := 128) X dX1_lastRight_97 (by decide) (by omega) rfl (fun c215 => ?_) (fun c215 => by exfalso; omega)
                  refine g_iinc (n := 131) (w := v2 + 1) (L' := [(7, gJ (v2 + 1)), (9, gJ 0), (8, gA n0 o200), (0, gA n0 153), (1, gA n0 1), (2, gJ b), (3, gJ c), (4, gV d), (6, gJ v1)]) X 8 dX1_lastRight_128 rfl rfl (by decide) rfl rfl ?_
                  refine g_goto (tgt := 6) X dX1_lastRight_131 (by decide) ?_
                  refine G.sub (L' := [(0, gA n0 153), (1, gA n0 1), (2, gJ b), (3, gJ c), (4, gV d), (6, gJ v1), (7, gJ (v2 + 1))]) [3, 4, 5, 6, 7, 8, 0] rfl ?_
                  exact ih196 v1 (v2 + 1) (by omega) (by omega) (by omega)
                · refine g_lload (n := 78) X 5 dX1_lastRight_76 rfl rfl ?_
                  refine g_iload (n := 80) X 7 dX1_lastRight_78 rfl rfl ?_
                  refine g_lshrA (n := 81) X dX1_lastRight_80 rfl (fun v216 rv216 xv216 => ?_)
                  clear xv216
                  refine g_lconst (n := 82) (z := 1) X dX1_lastRight_81 (by decide +kernel) rfl ?_
                  refine g_landC (n := 83) X dX1_lastRight_82 (by decide) rfl (fun v217 rv217 xv217 => ?_)
                  clear xv217
                  refine g_lconst (n := 84) (z := 1) X dX1_lastRight_83 (by decide +kernel) rfl ?_
                  refine g_lcmp2 (n := 85) X dX1_lastRight_84 (by omega) (by omega) rfl (fun v218 xv218 rv218 => ?_)
                  refine g_if_ne (n := 88) (tgt := 92) X dX1_lastRight_85 (by decide) (by omega) rfl (fun c219 => ?_) (fun c219 => ?_)
                  · refine g_iconst (n := 93) X dX1_lastRight_92 rfl ?_
                    refine g_istore (n := 95) (L' := [(9, gJ 0), (8, gA n0 o200), (0, gA n0 153), (1, gA n0 1), (2, gJ b), (3, gJ c), (4, gV d), (6, gJ v1), (7, gJ v2)]) X dX1_lastRight_93 (by decide) rfl rfl ?_
                    refine g_iload (n := 97) X 0 dX1_lastRight_95 rfl rfl ?_
                    refine g_if_eq (n := 100) (tgt := 128) X dX1_lastRight_97 (by decide) (by omega) rfl (fun c220 => ?_) (fun c220 => by exfalso; omega)
                    refine g_iinc (n := 131) (w := v2 + 1) (L' := [(7, gJ (v2 + 1)), (9, gJ 0), (8, gA n0 o200), (0, gA n0 153), (1, gA n0 1), (2, gJ b), (3, gJ c), (4, gV d), (6, gJ v1)]) X 8 dX1_lastRight_128 rfl rfl (by decide) rfl rfl ?_
                    refine g_goto (tgt := 6) X dX1_lastRight_131 (by decide) ?_
                    refine G.sub (L' := [(0, gA n0 153), (1, gA n0 1), (2, gJ b), (3, gJ c), (4, gV d), (6, gJ v1), (7, gJ (v2 + 1))]) [3, 4, 5, 6, 7, 8, 0] rfl ?_
                    exact ih196 v1 (v2 + 1) (by omega) (by omega) (by omega)
                  · refine g_iconst (n := 89) X dX1_lastRight_88 rfl ?_
                    refine g_goto (tgt := 93) X dX1_lastRight_89 (by decide) ?_
                    refine g_istore (n := 95) (L' := [(9, gJ 1), (8, gA n0 o200), (0, gA n0 153), (1, gA n0 1), (2, gJ b), (3, gJ c), (4, gV d), (6, gJ v1), (7, gJ v2)]) X dX1_lastRight_93 (by decide) rfl rfl ?_
                    refine g_iload (n := 97) X 0 dX1_lastRight_95 rfl rfl ?_
                    refine g_if_eq (n := 100) (tgt := 128) X dX1_lastRight_97 (by decide) (by omega) rfl (fun c221 => by exfalso; omega) (fun c221 => ?_)
                    refine g_iload (n := 102) X 7 dX1_lastRight_100 rfl rfl ?_
                    refine g_iconst (n := 103) X dX1_lastRight_102 rfl ?_
                    refine g_icmp_eq (n := 106) (tgt := 124) X dX1_lastRight_103 (by decide) (by omega) (by omega) rfl (fun c222 => ?_) (fun c222 => ?_)
                    · refine g_iload (n := 126) X 8 dX1_lastRight_124 rfl rfl ?_
                      refine g_istore (n := 128) (L' := [(6, gJ v2), (9, gJ 1), (8, gA n0 o200), (0, gA n0 153), (1, gA n0 1), (2, gJ b), (3, gJ c), (4, gV d), (7, gJ v2)]) X dX1_lastRight_126 (by decide) rfl rfl ?_
                      refine g_iinc (n := 131) (w := v2 + 1) (L' := [(7, gJ (v2 + 1)), (6, gJ v2), (9, gJ 1), (8, gA n0 o200), (0, gA n0 153), (1, gA n0 1), (2, gJ b), (3, gJ c), (4, gV d)]) X 8 dX1_lastRight_128 rfl rfl (by decide) rfl rfl ?_
                      refine g_goto (tgt := 6) X dX1_lastRight_131 (by decide) ?_
                      refine G.sub (L' := [(0, gA n0 153), (1, gA n0 1), (2, gJ b), (3, gJ c), (4, gV d), (6, gJ v2), (7, gJ (v2 + 1))]) [4, 5, 6, 7, 8, 1, 0] rfl ?_
                      exact ih196 v2 (v2 + 1) (by omega) (by omega) (by omega)
                    · refine g_aload (n := 108) X 1 dX1_lastRight_106 rfl rfl ?_
                      refine gg_8_4 (n := 111) (z := v203) X (Rto0 ro200) (Rtosz hsz ro200) (lay2_R ro200) kw_2_36 dX1_lastRight_108 rfl hv203 ?_
                      refine g_aload_n (n := 112) X 3 dX1_lastRight_111 rfl rfl rfl ?_
                      refine gg_9_2 (n := 115) (z := 6) X (by decide) (gsz hsz (by decide)) lay_1 kw_2_110 dX1_lastRight_112 rfl (rf_1_2 I (gsz hsz (by decide))) (by decide) ?_
                      refine g_iload (n := 117) X 7 dX1_lastRight_115 rfl rfl ?_
                      obtain ⟨o223, ho223, ro223⟩ : ∃ o : Int, o = 47 + v1 ∧ (47 ≤ o ∧ o < 87) := ⟨_, rfl, by omega⟩
                      refine g_aald7 (n := 118) (t := o223) X (by decide) (gsz hsz (by decide)) lay_6 (by omega) (by omega) (by decide) (gA6 I hsz (by omega) (by omega) (by omega)) (by omega) dX1_lastRight_117 rfl ?_
                      obtain ⟨v224, hv224, rv224⟩ := gRd I (Rto0 ro223) (Rtosz hsz ro223) (rR_4 ro223).1
                      refine gg_8_4 (n := 121) (z := v224) X (Rto0 ro223) (Rtosz hsz ro223) (lay2_R ro223) kw_2_36 dX1_lastRight_118 rfl hv224 ?_
                      refine g_icmp_lt (n := 124) (tgt := 128) X dX1_lastRight_121 (by decide) (by omega) (by omega) rfl (fun c225 => ?_) (fun c225 => ?_)
                      · refine g_iinc (n := 131) (w := v2 + 1) (L' := [(7, gJ (v2 + 1)), (9, gJ 1), (8, gA n0 o200), (0, gA n0 153), (1, gA n0 1), (2, gJ b), (3, gJ c), (4, gV d), (6, gJ v1)]) X 8 dX1_lastRight_128 rfl rfl (by decide) rfl rfl ?_
                        refine g_goto (tgt := 6) X dX1_lastRight_131 (by decide) ?_
                        refine G.sub (L' := [(0, gA n0 153), (1, gA n0 1), (2, gJ b), (3, gJ c), (4, gV d), (6, gJ v1), (7, gJ (v2 + 1))]) [3, 4, 5, 6, 7, 8, 0] rfl ?_
                        exact ih196 v1 (v2 + 1) (by omega) (by omega) (by omega)
                      · refine g_iload (n := 126) X 8 dX1_lastRight_124 rfl rfl ?_
                        refine g_istore (n := 128) (L' := [(6, gJ v2), (9, gJ 1), (8, gA n0 o200), (0, gA n0 153), (1, gA n0 1), (2, gJ b), (3, gJ c), (4, gV d), (7, gJ v2)]) X dX1_lastRight_126 (by decide) rfl rfl ?_
                        refine g_iinc (n := 131) (w := v2 + 1) (L' := [(7, gJ (v2 + 1)), (6, gJ v2), (9, gJ 1), (8, gA n0 o200), (0, gA n0 153), (1, gA n0 1), (2, gJ b), (3, gJ c), (4, gV d)]) X 8 dX1_lastRight_128 rfl rfl (by decide) rfl rfl ?_
                        refine g_goto (tgt := 6) X dX1_lastRight_131 (by decide) ?_
                        refine G.sub (L' := [(0, gA n0 153), (1, gA n0 1), (2, gJ b), (3, gJ c), (4, gV d), (6, gJ v2), (7, gJ (v2 + 1))]) [4, 5, 6, 7, 8, 1, 0] rfl ?_
                        exact ih196 v2 (v2 + 1) (by omega) (by omega) (by omega)
            · refine g_goto (tgt := 128) X dX1_lastRight_52 (by decide) ?_
              refine g_iinc (n := 131) (w := v2 + 1) (L' := [(7, gJ (v2 + 1)), (8, gA n0 o200), (0, gA n0 153), (1, gA n0 1), (2, gJ b), (3, gJ c), (4, gV d), (6, gJ v1)]) X 7 dX1_lastRight_128 rfl rfl (by decide) rfl rfl ?_
              refine g_goto (tgt := 6) X dX1_lastRight_131 (by decide) ?_
              refine G.sub (L' := [(0, gA n0 153), (1, gA n0 1), (2, gJ b), (3, gJ c), (4, gV d), (6, gJ v1), (7, gJ (v2 + 1))]) [2, 3, 4, 5, 6, 7, 0] rfl ?_
              exact ih196 v1 (v2 + 1) (by omega) (by omega) (by omega)
  refine G.sub (L' := [(0, gA n0 153), (1, gA n0 1), (2, gJ b), (3, gJ c), (4, gV d), (6, gJ (-1)), (7, gJ 0)]) [2, 3, 4, 5, 6, 1, 0] rfl ?_
  exact j4 _ (-1) 0 (by omega) (by omega) (Nat.lt_succ_self _)
theorem dX1_whose_0 : decode cX1_whose 0 = .ok (.iload_n 2, 1) := dc_28 (by decide +kernel)
theorem dX1_whose_1 : decode cX1_whose 1 = .ok (.istore 6, 2) := dc_54 6 (by decide +kernel)
theorem dX1_whose_3 : decode cX1_whose 3 = .ok (.iload_n 3, 1) := dc_29 (by decide +kernel)
theorem dX1_whose_4 : decode cX1_whose 4 = .ok (.istore 7, 2) := dc_54 7 (by decide +kernel)
theorem dX1_whose_6 : decode cX1_whose 6 = .ok (.iconst 0, 1) := dc_3 (by decide +kernel)
theorem dX1_whose_7 : decode cX1_whose 7 = .ok (.istore 8, 2) := dc_54 8 (by decide +kernel)
theorem dX1_whose_9 : decode cX1_whose 9 = .ok (.iload 8, 2) := dc_21 8 (by decide +kernel)
theorem dX1_whose_11 : decode cX1_whose 11 = .ok (.bipush 16, 2) := dc_16 16 16 (by decide +kernel)
theorem dX1_whose_13 : decode cX1_whose 13 = .ok (.if_icmp .gt 147, 3) := dc_163 0 147 147 (by decide +kernel)
theorem dX1_whose_16 : decode cX1_whose 16 = .ok (.aload_n 1, 1) := dc_43 (by decide +kernel)
theorem dX1_whose_17 : decode cX1_whose 17 = .ok (.getfield 77, 3) := dc_180 0 77 (by decide +kernel)
theorem kw_2_107 : (Jvm.Cond.fieldLink "ParishUnion$Bench" (77 : Nat) "ParishUnion$Union" "persons" "[LParishUnion$Person;") ∈ gT := gT_of (tb_2 _ (List.mem_of_getElem? (i := 107) rfl)) rfl
theorem dX1_whose_20 : decode cX1_whose 20 = .ok (.iload 6, 2) := dc_21 6 (by decide +kernel)
theorem dX1_whose_22 : decode cX1_whose 22 = .ok (.aaload, 1) := dc_50 (by decide +kernel)
theorem dX1_whose_23 : decode cX1_whose 23 = .ok (.astore 9, 2) := dc_58 9 (by decide +kernel)
theorem dX1_whose_25 : decode cX1_whose 25 = .ok (.iload 7, 2) := dc_21 7 (by decide +kernel)
theorem dX1_whose_27 : decode cX1_whose 27 = .ok (.aload 9, 2) := dc_25 9 (by decide +kernel)
theorem dX1_whose_29 : decode cX1_whose 29 = .ok (.getfield 81, 3) := dc_180 0 81 (by decide +kernel)
theorem kw_1_179 : (Jvm.Cond.fieldLink "ParishUnion$Bench" (81 : Nat) "ParishUnion$Person" "born" "I") ∈ gT := gT_of (tb_1 _ (List.mem_of_getElem? (i := 179) rfl)) rfl
theorem dX1_whose_32 : decode cX1_whose 32 = .ok (.if_icmp .ge 6, 3) := dc_162 0 6 6 (by decide +kernel)
theorem dX1_whose_38 : decode cX1_whose 38 = .ok (.aload_n 0, 1) := dc_42 (by decide +kernel)
theorem dX1_whose_39 : decode cX1_whose 39 = .ok (.aload_n 1, 1) := dc_43 (by decide +kernel)
theorem dX1_whose_40 : decode cX1_whose 40 = .ok (.iload 6, 2) := dc_21 6 (by decide +kernel)
theorem dX1_whose_42 : decode cX1_whose 42 = .ok (.iload 7, 2) := dc_21 7 (by decide +kernel)
theorem dX1_whose_44 : decode cX1_whose 44 = .ok (.lload 4, 2) := dc_22 4 (by decide +kernel)
theorem dX1_whose_46 : decode cX1_whose 46 = .ok (.invokevirtual 86, 3) := dc_182 0 86 (by decide +kernel)
theorem kw_3_164 : (Jvm.Cond.methodLink "ParishUnion$Bench" (86 : Nat) ({ cls := "ParishUnion$Bench", name := "lastRight", desc := "(LParishUnion$Union;IIJ)I" } : Jvm.MethodName)) ∈ gT := gT_of (tb_3 _ (List.mem_of_getElem? (i := 164) rfl)) rfl
theorem kw_3_167 : (Jvm.Cond.code ({ cls := "ParishUnion$Bench", name := "lastRight", desc := "(LParishUnion$Union;IIJ)I" } : Jvm.MethodName) prog_3_method_5_code (10 : Nat) (Option.some Jvm.ClassFile.FieldType.int)) ∈ gT := gT_of (tb_3 _ (List.mem_of_getElem? (i := 167) rfl)) rfl
theorem okX1_lastRight : gQok yX1_lastRight cX1_lastRight 10 (Option.some Jvm.ClassFile.FieldType.int) 4 := ⟨kw_3_167, kw_1_11, by decide +kernel, by decide +kernel, by decide +kernel⟩
theorem kw_3_166 : (Jvm.Cond.instanceMethod ({ cls := "ParishUnion$Bench", name := "lastRight", desc := "(LParishUnion$Union;IIJ)I" } : Jvm.MethodName)) ∈ gT := gT_of (tb_3 _ (List.mem_of_getElem? (i := 166) rfl)) rfl
theorem kw_0_4 : (Jvm.Cond.selects "ParishUnion$Bench" ({ cls := "ParishUnion$Bench", name := "lastRight", desc := "(LParishUnion$Union;IIJ)I" } : Jvm.MethodName) ({ cls := "ParishUnion$Bench", name := "lastRight", desc := "(LParishUnion$Union;IIJ)I" } : Jvm.MethodName)) ∈ gT := gT_of (tb_0 _ (List.mem_of_getElem? (i := 4) rfl)) rfl
theorem dX1_whose_49 : decode cX1_whose 49 = .ok (.istore 10, 2) := dc_54 10 (by decide +kernel)
theorem dX1_whose_51 : decode cX1_whose 51 = .ok (.iload 10, 2) := dc_21 10 (by decide +kernel)
theorem dX1_whose_53 : decode cX1_whose 53 = .ok (.iconst (-1), 1) := dc_2 (by decide +kernel)
theorem dX1_whose_54 : decode cX1_whose 54 = .ok (.if_icmp .eq 28, 3) := dc_159 0 28 28 (by decide +kernel)
theorem dX1_whose_82 : decode cX1_whose 82 = .ok (.iload 10, 2) := dc_21 10 (by decide +kernel)
theorem dX1_whose_84 : decode cX1_whose 84 = .ok (.iconst (-1), 1) := dc_2 (by decide +kernel)
theorem dX1_whose_85 : decode cX1_whose 85 = .ok (.if_icmp .eq 30, 3) := dc_159 0 30 30 (by decide +kernel)
theorem dX1_whose_115 : decode cX1_whose 115 = .ok (.aload_n 0, 1) := dc_42 (by decide +kernel)
theorem dX1_whose_116 : decode cX1_whose 116 = .ok (.getfield 38, 3) := dc_180 0 38 (by decide +kernel)
theorem dX1_whose_119 : decode cX1_whose 119 = .ok (.ifCond .eq 29, 3) := dc_153 0 29 29 (by decide +kernel)
theorem dX1_whose_148 : decode cX1_whose 148 = .ok (.aload 9, 2) := dc_25 9 (by decide +kernel)
theorem dX1_whose_150 : decode cX1_whose 150 = .ok (.getfield 96, 3) := dc_180 0 96 (by decide +kernel)
theorem kw_1_182 : (Jvm.Cond.fieldLink "ParishUnion$Bench" (96 : Nat) "ParishUnion$Person" "birthplace" "I") ∈ gT := gT_of (tb_1 _ (List.mem_of_getElem? (i := 182) rfl)) rfl
theorem dX1_whose_153 : decode cX1_whose 153 = .ok (.ireturn, 1) := dc_172 (by decide +kernel)
theorem dX1_whose_122 : decode cX1_whose 122 = .ok (.aload 9, 2) := dc_25 9 (by decide +kernel)
theorem dX1_whose_124 : decode cX1_whose 124 = .ok (.getfield 93, 3) := dc_180 0 93 (by decide +kernel)
theorem kw_1_185 : (Jvm.Cond.fieldLink "ParishUnion$Bench" (93 : Nat) "ParishUnion$Person" "father" "I") ∈ gT := gT_of (tb_1 _ (List.mem_of_getElem? (i := 185) rfl)) rfl
theorem dX1_whose_127 : decode cX1_whose 127 = .ok (.iconst (-1), 1) := dc_2 (by decide +kernel)
theorem dX1_whose_128 : decode cX1_whose 128 = .ok (.if_icmp .eq 20, 3) := dc_159 0 20 20 (by decide +kernel)
theorem dX1_whose_131 : decode cX1_whose 131 = .ok (.aload 9, 2) := dc_25 9 (by decide +kernel)
theorem dX1_whose_133 : decode cX1_whose 133 = .ok (.getfield 93, 3) := dc_180 0 93 (by decide +kernel)
theorem dX1_whose_136 : decode cX1_whose 136 = .ok (.istore 6, 2) := dc_54 6 (by decide +kernel)
theorem dX1_whose_138 : decode cX1_whose 138 = .ok (.aload 9, 2) := dc_25 9 (by decide +kernel)
theorem dX1_whose_140 : decode cX1_whose 140 = .ok (.getfield 81, 3) := dc_180 0 81 (by decide +kernel)
theorem dX1_whose_143 : decode cX1_whose 143 = .ok (.istore 7, 2) := dc_54 7 (by decide +kernel)
theorem dX1_whose_145 : decode cX1_whose 145 = .ok (.goto 9, 3) := dc_167 0 9 9 (by decide +kernel)
theorem dX1_whose_154 : decode cX1_whose 154 = .ok (.iinc 8 1, 3) := dc_132 8 1 1 (by decide +kernel)
theorem dX1_whose_157 : decode cX1_whose 157 = .ok (.goto (-148), 3) := dc_167 255 108 (-148) (by decide +kernel)
theorem dX1_whose_57 : decode cX1_whose 57 = .ok (.aload_n 1, 1) := dc_43 (by decide +kernel)
theorem dX1_whose_58 : decode cX1_whose 58 = .ok (.getfield 48, 3) := dc_180 0 48 (by decide +kernel)
theorem dX1_whose_61 : decode cX1_whose 61 = .ok (.iload 10, 2) := dc_21 10 (by decide +kernel)
theorem dX1_whose_63 : decode cX1_whose 63 = .ok (.aaload, 1) := dc_50 (by decide +kernel)
theorem dX1_whose_64 : decode cX1_whose 64 = .ok (.getfield 70, 3) := dc_180 0 70 (by decide +kernel)
theorem dX1_whose_67 : decode cX1_whose 67 = .ok (.iconst 3, 1) := dc_6 (by decide +kernel)
theorem dX1_whose_68 : decode cX1_whose 68 = .ok (.if_icmp .eq 14, 3) := dc_159 0 14 14 (by decide +kernel)
theorem dX1_whose_88 : decode cX1_whose 88 = .ok (.aload_n 1, 1) := dc_43 (by decide +kernel)
theorem dX1_whose_89 : decode cX1_whose 89 = .ok (.getfield 48, 3) := dc_180 0 48 (by decide +kernel)
theorem dX1_whose_92 : decode cX1_whose 92 = .ok (.iload 10, 2) := dc_21 10 (by decide +kernel)
theorem dX1_whose_94 : decode cX1_whose 94 = .ok (.aaload, 1) := dc_50 (by decide +kernel)
theorem dX1_whose_95 : decode cX1_whose 95 = .ok (.getfield 90, 3) := dc_180 0 90 (by decide +kernel)
theorem kw_2_31 : (Jvm.Cond.fieldLink "ParishUnion$Bench" (90 : Nat) "ParishUnion$Right" "place" "I") ∈ gT := gT_of (tb_2 _ (List.mem_of_getElem? (i := 31) rfl)) rfl
theorem dX1_whose_98 : decode cX1_whose 98 = .ok (.istore 6, 2) := dc_54 6 (by decide +kernel)
theorem dX1_whose_100 : decode cX1_whose 100 = .ok (.aload_n 1, 1) := dc_43 (by decide +kernel)
theorem dX1_whose_101 : decode cX1_whose 101 = .ok (.getfield 48, 3) := dc_180 0 48 (by decide +kernel)
theorem dX1_whose_104 : decode cX1_whose 104 = .ok (.iload 10, 2) := dc_21 10 (by decide +kernel)
theorem dX1_whose_106 : decode cX1_whose 106 = .ok (.aaload, 1) := dc_50 (by decide +kernel)
theorem dX1_whose_107 : decode cX1_whose 107 = .ok (.getfield 62, 3) := dc_180 0 62 (by decide +kernel)
theorem dX1_whose_110 : decode cX1_whose 110 = .ok (.istore 7, 2) := dc_54 7 (by decide +kernel)
theorem dX1_whose_112 : decode cX1_whose 112 = .ok (.goto 42, 3) := dc_167 0 42 42 (by decide +kernel)
theorem dX1_whose_71 : decode cX1_whose 71 = .ok (.aload_n 1, 1) := dc_43 (by decide +kernel)
theorem dX1_whose_72 : decode cX1_whose 72 = .ok (.getfield 48, 3) := dc_180 0 48 (by decide +kernel)
theorem dX1_whose_75 : decode cX1_whose 75 = .ok (.iload 10, 2) := dc_21 10 (by decide +kernel)
theorem dX1_whose_77 : decode cX1_whose 77 = .ok (.aaload, 1) := dc_50 (by decide +kernel)
theorem dX1_whose_78 : decode cX1_whose 78 = .ok (.getfield 90, 3) := dc_180 0 90 (by decide +kernel)
theorem dX1_whose_81 : decode cX1_whose 81 = .ok (.ireturn, 1) := dc_172 (by decide +kernel)
theorem dX1_whose_35 : decode cX1_whose 35 = .ok (.bipush (-5), 2) := dc_16 251 (-5) (by decide +kernel)
theorem dX1_whose_37 : decode cX1_whose 37 = .ok (.ireturn, 1) := dc_172 (by decide +kernel)
theorem dX1_whose_160 : decode cX1_whose 160 = .ok (.bipush (-5), 2) := dc_16 251 (-5) (by decide +kernel)
theorem dX1_whose_162 : decode cX1_whose 162 = .ok (.ireturn, 1) := dc_172 (by decide +kernel)
abbrev R_X1_whose : Room := { frames := 1, cells := 0, slots := 0, locals := 29 }
set_option maxRecDepth 100000 in
set_option maxHeartbeats 4000000 in
theorem s_X1_whose {l : Launch} {n0 : Nat} {D : va_G} {cA : Nat → ClassId} {M : gM} (b : Int) (r_b : 0 ≤ b ∧ b ≤ 15) (c : Int) (r_c : -3000 ≤ c ∧ c ≤ 300) (d : Int) (r_d : -9223372036854775808 ≤ d ∧ d ≤ 9223372036854775807) {sz : Nat} (hsz : 206 ≤ sz) (I : gI sz M) (C : gC sz M)   : Met l yX1_whose (gWsOf yX1_whose cX1_whose 11 (Option.some Jvm.ClassFile.FieldType.int)) R_X1_whose (gPc n0 D cA [gA n0 153, gA n0 1, gJ b, gJ c, gV d] M sz) (gQi n0 D cA sz (fun z M1 => M = M1 ∧ (-5 ≤ z ∧ z ≤ 5))) 0 0 (fun q => n0 ≤ q) := by
  refine gMetI [gA n0 153, gA n0 1, gJ b, gJ c, gV d] (by decide) (Nat.le_of_ble_eq_true rfl) ⟨rfl, rfl⟩ ?_
  intro p e s m args below meth cd Q X hq
  have X : gCx p s m args meth cd n0 D cA "ParishUnion$Bench" cX1_whose 11 := X
  show G p l e R_X1_whose s m args below meth cd n0 D cA 11 Q 0 0 M sz 0 [(0, gA n0 153), (1, gA n0 1), (2, gJ b), (3, gJ c), (4, gV d)] []
  refine g_iload_n (n := 1) X 2 dX1_whose_0 rfl rfl rfl ?_
  refine g_istore (n := 3) (L' := [(6, gJ b), (0, gA n0 153), (1, gA n0 1), (2, gJ b), (3, gJ c), (4, gV d)]) X dX1_whose_1 (by decide) rfl rfl ?_
  refine g_iload_n (n := 4) X 4 dX1_whose_3 rfl rfl rfl ?_
  refine g_istore (n := 6) (L' := [(7, gJ c), (6, gJ b), (0, gA n0 153), (1, gA n0 1), (2, gJ b), (3, gJ c), (4, gV d)]) X dX1_whose_4 (by decide) rfl rfl ?_
  refine g_iconst (n := 7) X dX1_whose_6 rfl ?_
  refine g_istore (n := 9) (L' := [(8, gJ 0), (7, gJ c), (6, gJ b), (0, gA n0 153), (1, gA n0 1), (2, gJ b), (3, gJ c), (4, gV d)]) X dX1_whose_7 (by decide) rfl rfl ?_
  have j5 : ∀ (N182 : Nat) (v1 v2 v3 : Int) , (0 ≤ v1 ∧ v1 ≤ 15) → (-3000 ≤ v2 ∧ v2 ≤ 300) → (0 ≤ v3 ∧ v3 ≤ 17) → (17 - v3).toNat < N182 → G p l e R_X1_whose s m args below meth cd n0 D cA 11 Q 0 0 M sz 9 [(0, gA n0 153), (1, gA n0 1), (4, gV d), (6, gJ v1), (7, gJ v2), (8, gJ v3)] [] := by
    intro N182; induction N182 with
    | zero => intro v1 v2 v3 rv1 rv2 rv3 hm184; exfalso; omega
    | succ N182 ih183 =>
      intro v1 v2 v3 rv1 rv2 rv3 hm184
      refine g_iload (n := 11) X 5 dX1_whose_9 rfl rfl ?_
      refine g_bipush (n := 13) X dX1_whose_11 (by decide +kernel) rfl ?_
      refine g_icmp_gt (n := 16) (tgt := 160) X dX1_whose_13 (by decide) (by omega) (by omega) rfl (fun c185 => ?_) (fun c185 => ?_)
      · refine g_bipush (n := 162) X dX1_whose_160 (by decide +kernel) rfl ?_
        exact hq _ _ _ _ dX1_whose_162 ⟨rfl, by omega⟩
      · refine g_aload_n (n := 17) X 1 dX1_whose_16 rfl rfl rfl ?_
        refine gg_9_1 (n := 20) (z := 5) X (by decide) (gsz hsz (by decide)) lay_1 kw_2_107 dX1_whose_17 rfl (rf_1_1 I (gsz hsz (by decide))) (by decide) ?_
        refine g_iload (n := 22) X 3 dX1_whose_20 rfl rfl ?_
        obtain ⟨o186, ho186, ro186⟩ : ∃ o : Int, o = 31 + v1 ∧ (31 ≤ o ∧ o < 47) := ⟨_, rfl, by omega⟩
        refine g_aald6 (n := 23) (t := o186) X (by decide) (gsz hsz (by decide)) lay_5 (by omega) (by omega) (by decide) (gA5 I hsz (by omega) (by omega) (by omega)) (by omega) dX1_whose_22 rfl ?_
        refine g_astore (n := 25) (L' := [(9, gA n0 o186), (0, gA n0 153), (1, gA n0 1), (4, gV d), (6, gJ v1), (7, gJ v2), (8, gJ v3)]) X dX1_whose_23 (by decide) rfl rfl ?_
        refine g_iload (n := 27) X 5 dX1_whose_25 rfl rfl ?_
        refine g_aload (n := 29) X 0 dX1_whose_27 rfl rfl ?_
        obtain ⟨v187, hv187, rv187⟩ := gRd I (Po0 ro186) (Posz hsz ro186) (rP_1 ro186).1
        refine gg_6_1 (n := 32) (z := v187) X (Po0 ro186) (Posz hsz ro186) (lay2_P ro186) kw_1_179 dX1_whose_29 rfl hv187 ?_
        refine g_icmp_ge (n := 35) (tgt := 38) X dX1_whose_32 (by decide) (by omega) (by omega) rfl (fun c188 => ?_) (fun c188 => ?_)
        · refine g_aload_n (n := 39) X 1 dX1_whose_38 rfl rfl rfl ?_
          refine g_aload_n (n := 40) X 2 dX1_whose_39 rfl rfl rfl ?_
          refine g_iload (n := 42) X 4 dX1_whose_40 rfl rfl ?_
          refine g_iload (n := 44) X 5 dX1_whose_42 rfl rfl ?_
          refine g_lload (n := 46) X 3 dX1_whose_44 rfl rfl ?_
          refine g_callVi (n := 49) (As := [gA n0 1, gJ v1, gJ v2, gV d]) (rest := []) (cs1 := 0) (ss1 := 0) X (s_X1_lastRight v1 (by omega) v2 (by omega) d (by omega) hsz I C ) okX1_lastRight kw_3_164 ⟨kw_3_166, kw_0_4⟩ ⟨rfl, rfl⟩ ⟨Nat.le_of_ble_eq_true rfl, Nat.le_of_ble_eq_true rfl⟩ rfl (by decide) (gsz hsz (by decide)) lay_153 rfl rfl (Nat.le_of_ble_eq_true rfl) ⟨Nat.le_of_ble_eq_true rfl, Nat.le_of_ble_eq_true rfl⟩ rfl rfl dX1_whose_46 rfl (fun v189 M190 P191 => ?_)
          obtain ⟨rfl, rv189⟩ := P191
          refine g_istore (n := 51) (L' := [(10, gJ v189), (9, gA n0 o186), (0, gA n0 153), (1, gA n0 1), (4, gV d), (6, gJ v1), (7, gJ v2), (8, gJ v3)]) X dX1_whose_49 (by decide) rfl rfl ?_
          refine g_iload (n := 53) X 0 dX1_whose_51 rfl rfl ?_
          refine g_iconst (n := 54) X dX1_whose_53 rfl ?_
          refine g_icmp_eq (n := 57) (tgt := 82) X dX1_whose_54 (by decide) (by omega) (by omega) rfl (fun c192 => ?_) (fun c192 => ?_)
          · refine g_iload (n := 84) X 0 dX1_whose_82 rfl rfl ?_
            refine g_iconst (n := 85) X dX1_whose_84 rfl ?_
            refine g_icmp_eq (n := 88) (tgt := 115) X dX1_whose_85 (by decide) (by omega) (by omega) rfl (fun c193 => ?_) (fun c193 => by exfalso; omega)
            refine g_aload_n (n := 116) X 2 dX1_whose_115 rfl rfl rfl ?_
            obtain ⟨v194, hv194, rv194⟩ := gRd I (by decide) (gsz hsz (by decide)) rc_153_6.1
            refine gg_1_6 (n := 119) (z := v194) X (by decide) (gsz hsz (by decide)) lay_153 kw_2_185 dX1_whose_116 rfl hv194 ?_
            refine g_if_eq (n := 122) (tgt := 148) X dX1_whose_119 (by decide) (by omega) rfl (fun c195 => ?_) (fun c195 => ?_)
            · refine g_aload (n := 150) X 1 dX1_whose_148 rfl rfl ?_
              obtain ⟨v196, hv196, rv196⟩ := gRd I (Po0 ro186) (Posz hsz ro186) (rP_2 ro186).1
              refine gg_6_2 (n := 153) (z := v196) X (Po0 ro186) (Posz hsz ro186) (lay2_P ro186) kw_1_182 dX1_whose_150 rfl hv196 ?_
              exact hq _ _ _ _ dX1_whose_153 ⟨rfl, by omega⟩
            · refine g_aload (n := 124) X 1 dX1_whose_122 rfl rfl ?_
              obtain ⟨v197, hv197, rv197⟩ := gRd I (Po0 ro186) (Posz hsz ro186) (rP_3 ro186).1
              refine gg_6_3 (n := 127) (z := v197) X (Po0 ro186) (Posz hsz ro186) (lay2_P ro186) kw_1_185 dX1_whose_124 rfl hv197 ?_
              refine g_iconst (n := 128) X dX1_whose_127 rfl ?_
              refine g_icmp_eq (n := 131) (tgt := 148) X dX1_whose_128 (by decide) (by omega) (by omega) rfl (fun c198 => ?_) (fun c198 => ?_)
              · refine g_aload (n := 150) X 1 dX1_whose_148 rfl rfl ?_
                obtain ⟨v199, hv199, rv199⟩ := gRd I (Po0 ro186) (Posz hsz ro186) (rP_2 ro186).1
                refine gg_6_2 (n := 153) (z := v199) X (Po0 ro186) (Posz hsz ro186) (lay2_P ro186) kw_1_182 dX1_whose_150 rfl hv199 ?_
                exact hq _ _ _ _ dX1_whose_153 ⟨rfl, by omega⟩
              · refine g_aload (n := 133) X 1 dX1_whose_131 rfl rfl ?_
                refine gg_6_3 (n := 136) (z := v197) X (Po0 ro186) (Posz hsz ro186) (lay2_P ro186) kw_1_185 dX1_whose_133 rfl hv197 ?_
                refine g_istore (n := 138) (L' := [(6, gJ v197), (10, gJ v189), (9, gA n0 o186), (0, gA n0 153), (1, gA n0 1), (4, gV d), (7, gJ v2), (8, gJ v3)]) X dX1_whose_136 (by decide) rfl rfl ?_
                refine g_aload (n := 140) X 2 dX1_whose_138 rfl rfl ?_
                refine gg_6_1 (n := 143) (z := v187) X (Po0 ro186) (Posz hsz ro186) (lay2_P ro186) kw_1_179 dX1_whose_140 rfl hv187 ?_
                refine g_istore (n := 145) (L' := [(7, gJ v187), (6, gJ v197), (10, gJ v189), (9, gA n0 o186), (0, gA n0 153), (1, gA n0 1), (4, gV d), (8, gJ v3)]) X dX1_whose_143 (by decide) rfl rfl ?_
                refine g_goto (tgt := 154) X dX1_whose_145 (by decide) ?_
                refine g_iinc (n := 157) (w := v3 + 1) (L' := [(8, gJ (v3 + 1)), (7, gJ v187), (6, gJ v197), (10, gJ v189), (9, gA n0 o186), (0, gA n0 153), (1, gA n0 1), (4, gV d)]) X 7 dX1_whose_154 rfl rfl (by decide) rfl rfl ?_
                refine g_goto (tgt := 9) X dX1_whose_157 (by decide) ?_
                refine G.sub (L' := [(0, gA n0 153), (1, gA n0 1), (4, gV d), (6, gJ v197), (7, gJ v187), (8, gJ (v3 + 1))]) [5, 6, 7, 2, 1, 0] rfl ?_
                exact ih183 v197 v187 (v3 + 1) (by omega) (by omega) (by omega) (by omega)
          · refine g_aload_n (n := 58) X 3 dX1_whose_57 rfl rfl rfl ?_
            refine gg_9_2 (n := 61) (z := 6) X (by decide) (gsz hsz (by decide)) lay_1 kw_2_110 dX1_whose_58 rfl (rf_1_2 I (gsz hsz (by decide))) (by decide) ?_
            refine g_iload (n := 63) X 0 dX1_whose_61 rfl rfl ?_
            obtain ⟨o200, ho200, ro200⟩ : ∃ o : Int, o = 47 + v189 ∧ (47 ≤ o ∧ o < 87) := ⟨_, rfl, by omega⟩
            refine g_aald7 (n := 64) (t := o200) X (by decide) (gsz hsz (by decide)) lay_6 (by omega) (by omega) (by decide) (gA6 I hsz (by omega) (by omega) (by omega)) (by omega) dX1_whose_63 rfl ?_
            obtain ⟨v201, hv201, rv201⟩ := gRd I (Rto0 ro200) (Rtosz hsz ro200) (rR_0 ro200).1
            refine gg_8_0 (n := 67) (z := v201) X (Rto0 ro200) (Rtosz hsz ro200) (lay2_R ro200) kw_2_25 dX1_whose_64 rfl hv201 ?_
            refine g_iconst (n := 68) X dX1_whose_67 rfl ?_
            refine g_icmp_eq (n := 71) (tgt := 82) X dX1_whose_68 (by decide) (by omega) (by omega) rfl (fun c202 => ?_) (fun c202 => ?_)
            · refine g_iload (n := 84) X 0 dX1_whose_82 rfl rfl ?_
              refine g_iconst (n := 85) X dX1_whose_84 rfl ?_
              refine g_icmp_eq (n := 88) (tgt := 115) X dX1_whose_85 (by decide) (by omega) (by omega) rfl (fun c203 => by exfalso; omega) (fun c203 => ?_)
              refine g_aload_n (n := 89) X 3 dX1_whose_88 rfl rfl rfl ?_
              refine gg_9_2 (n := 92) (z := 6) X (by decide) (gsz hsz (by decide)) lay_1 kw_2_110 dX1_whose_89 rfl (rf_1_2 I (gsz hsz (by decide))) (by decide) ?_
              refine g_iload (n := 94) X 0 dX1_whose_92 rfl rfl ?_
              refine g_aald7 (n := 95) (t := o200) X (by decide) (gsz hsz (by decide)) lay_6 (by omega) (by omega) (by decide) (gA6 I hsz (by omega) (by omega) (by omega)) (by omega) dX1_whose_94 rfl ?_
              obtain ⟨v204, hv204, rv204⟩ := gRd I (Rto0 ro200) (Rtosz hsz ro200) (rR_2 ro200).1
              refine gg_8_2 (n := 98) (z := v204) X (Rto0 ro200) (Rtosz hsz ro200) (lay2_R ro200) kw_2_31 dX1_whose_95 rfl hv204 ?_
              refine g_istore (n := 100) (L' := [(6, gJ v204), (10, gJ v189), (9, gA n0 o186), (0, gA n0 153), (1, gA n0 1), (4, gV d), (7, gJ v2), (8, gJ v3)]) X dX1_whose_98 (by decide) rfl rfl ?_
              refine g_aload_n (n := 101) X 4 dX1_whose_100 rfl rfl rfl ?_
              refine gg_9_2 (n := 104) (z := 6) X (by decide) (gsz hsz (by decide)) lay_1 kw_2_110 dX1_whose_101 rfl (rf_1_2 I (gsz hsz (by decide))) (by decide) ?_
              refine g_iload (n := 106) X 1 dX1_whose_104 rfl rfl ?_
              refine g_aald7 (n := 107) (t := o200) X (by decide) (gsz hsz (by decide)) lay_6 (by omega) (by omega) (by decide) (gA6 I hsz (by omega) (by omega) (by omega)) (by omega) dX1_whose_106 rfl ?_
              obtain ⟨v205, hv205, rv205⟩ := gRd I (Rto0 ro200) (Rtosz hsz ro200) (rR_4 ro200).1
              refine gg_8_4 (n := 110) (z := v205) X (Rto0 ro200) (Rtosz hsz ro200) (lay2_R ro200) kw_2_36 dX1_whose_107 rfl hv205 ?_
              refine g_istore (n := 112) (L' := [(7, gJ v205), (6, gJ v204), (10, gJ v189), (9, gA n0 o186), (0, gA n0 153), (1, gA n0 1), (4, gV d), (8, gJ v3)]) X dX1_whose_110 (by decide) rfl rfl ?_
              refine g_goto (tgt := 154) X dX1_whose_112 (by decide) ?_
              refine g_iinc (n := 157) (w := v3 + 1) (L' := [(8, gJ (v3 + 1)), (7, gJ v205), (6, gJ v204), (10, gJ v189), (9, gA n0 o186), (0, gA n0 153), (1, gA n0 1), (4, gV d)]) X 7 dX1_whose_154 rfl rfl (by decide) rfl rfl ?_
              refine g_goto (tgt := 9) X dX1_whose_157 (by decide) ?_
              refine G.sub (L' := [(0, gA n0 153), (1, gA n0 1), (4, gV d), (6, gJ v204), (7, gJ v205), (8, gJ (v3 + 1))]) [5, 6, 7, 2, 1, 0] rfl ?_
              exact ih183 v204 v205 (v3 + 1) (by omega) (by omega) (by omega) (by omega)
            · refine g_aload_n (n := 72) X 3 dX1_whose_71 rfl rfl rfl ?_
              refine gg_9_2 (n := 75) (z := 6) X (by decide) (gsz hsz (by decide)) lay_1 kw_2_110 dX1_whose_72 rfl (rf_1_2 I (gsz hsz (by decide))) (by decide) ?_
              refine g_iload (n := 77) X 0 dX1_whose_75 rfl rfl ?_
              refine g_aald7 (n := 78) (t := o200) X (by decide) (gsz hsz (by decide)) lay_6 (by omega) (by omega) (by decide) (gA6 I hsz (by omega) (by omega) (by omega)) (by omega) dX1_whose_77 rfl ?_
              obtain ⟨v206, hv206, rv206⟩ := gRd I (Rto0 ro200) (Rtosz hsz ro200) (rR_2 ro200).1
              have wv206 := C.1 o200 (Or.inl ro200)
              have uv206 := hv201
              refine gg_8_2 (n := 81) (z := v206) X (Rto0 ro200) (Rtosz hsz ro200) (lay2_R ro200) kw_2_31 dX1_whose_78 rfl hv206 ?_
              exact hq _ _ _ _ dX1_whose_81 ⟨rfl, by omega⟩
        · refine g_bipush (n := 37) X dX1_whose_35 (by decide +kernel) rfl ?_
          exact hq _ _ _ _ dX1_whose_37 ⟨rfl, by omega⟩
  refine G.sub (L' := [(0, gA n0 153), (1, gA n0 1), (4, gV d), (6, gJ b), (7, gJ c), (8, gJ 0)]) [3, 4, 7, 2, 1, 0] rfl ?_
  exact j5 _ b c 0 (by omega) (by omega) (by omega) (Nat.lt_succ_self _)
theorem dX1_note_0 : decode cX1_note 0 = .ok (.aload_n 0, 1) := dc_42 (by decide +kernel)
theorem dX1_note_1 : decode cX1_note 1 = .ok (.dup, 1) := dc_89 (by decide +kernel)
theorem dX1_note_2 : decode cX1_note 2 = .ok (.getfield 102, 3) := dc_180 0 102 (by decide +kernel)
theorem kw_2_186 : (Jvm.Cond.fieldLink "ParishUnion$Bench" (102 : Nat) "ParishUnion$Bench" "maybe" "I") ∈ gT := gT_of (tb_2 _ (List.mem_of_getElem? (i := 186) rfl)) rfl
theorem rc_153_7 : gRg 153 7 = (-2147483648, 2147483647) ∧ gCr 153 7 = false ∧ gG 153 7 = 25 := by decide +kernel
theorem dX1_note_5 : decode cX1_note 5 = .ok (.iload_n 2, 1) := dc_28 (by decide +kernel)
theorem dX1_note_6 : decode cX1_note 6 = .ok (.ior, 1) := dc_128 (by decide +kernel)
theorem dX1_note_7 : decode cX1_note 7 = .ok (.putfield 102, 3) := dc_181 0 102 (by decide +kernel)
theorem dX1_note_10 : decode cX1_note 10 = .ok (.iconst 0, 1) := dc_3 (by decide +kernel)
theorem dX1_note_11 : decode cX1_note 11 = .ok (.istore_n 3, 1) := dc_62 (by decide +kernel)
theorem dX1_note_12 : decode cX1_note 12 = .ok (.iload_n 3, 1) := dc_29 (by decide +kernel)
theorem dX1_note_13 : decode cX1_note 13 = .ok (.aload_n 0, 1) := dc_42 (by decide +kernel)
theorem dX1_note_14 : decode cX1_note 14 = .ok (.getfield 42, 3) := dc_180 0 42 (by decide +kernel)
theorem dX1_note_17 : decode cX1_note 17 = .ok (.if_icmp .ge 41, 3) := dc_162 0 41 41 (by decide +kernel)
theorem dX1_note_58 : decode cX1_note 58 = .ok (.return_, 1) := dc_177 (by decide +kernel)
theorem dX1_note_20 : decode cX1_note 20 = .ok (.iload_n 1, 1) := dc_27 (by decide +kernel)
theorem dX1_note_21 : decode cX1_note 21 = .ok (.iload_n 3, 1) := dc_29 (by decide +kernel)
theorem dX1_note_22 : decode cX1_note 22 = .ok (.ishr, 1) := dc_122 (by decide +kernel)
theorem dX1_note_23 : decode cX1_note 23 = .ok (.iconst 1, 1) := dc_4 (by decide +kernel)
theorem dX1_note_24 : decode cX1_note 24 = .ok (.iand, 1) := dc_126 (by decide +kernel)
theorem dX1_note_25 : decode cX1_note 25 = .ok (.iconst 1, 1) := dc_4 (by decide +kernel)
theorem dX1_note_26 : decode cX1_note 26 = .ok (.if_icmp .ne 16, 3) := dc_160 0 16 16 (by decide +kernel)
theorem dX1_note_42 : decode cX1_note 42 = .ok (.aload_n 0, 1) := dc_42 (by decide +kernel)
theorem dX1_note_43 : decode cX1_note 43 = .ok (.getfield 25, 3) := dc_180 0 25 (by decide +kernel)
theorem kw_2_183 : (Jvm.Cond.fieldLink "ParishUnion$Bench" (25 : Nat) "ParishUnion$Bench" "maybeIfNot" "[I") ∈ gT := gT_of (tb_2 _ (List.mem_of_getElem? (i := 183) rfl)) rfl
theorem rf_153_4 {sz : Nat} {M : gM} (I : gI sz M) (h : (153 : Int) < (sz : Int)) : M 153 4 = 158 + 1 := gI.rf I (by decide) h (by decide +kernel)
theorem dX1_note_46 : decode cX1_note 46 = .ok (.iload_n 3, 1) := dc_29 (by decide +kernel)
theorem dX1_note_47 : decode cX1_note 47 = .ok (.dup2, 1) := dc_92 (by decide +kernel)
theorem dX1_note_48 : decode cX1_note 48 = .ok (.iaload, 1) := dc_46 (by decide +kernel)
theorem ra_158 (k : Int) : gRg 158 k = (-2147483648, 2147483647) ∧ gCr 158 k = false ∧ gG 158 k = 25 := ⟨rfl, rfl, rfl⟩
theorem dX1_note_49 : decode cX1_note 49 = .ok (.iload_n 2, 1) := dc_28 (by decide +kernel)
theorem dX1_note_50 : decode cX1_note 50 = .ok (.ior, 1) := dc_128 (by decide +kernel)
theorem dX1_note_51 : decode cX1_note 51 = .ok (.iastore, 1) := dc_79 (by decide +kernel)
theorem dX1_note_52 : decode cX1_note 52 = .ok (.iinc 3 1, 3) := dc_132 3 1 1 (by decide +kernel)
theorem dX1_note_55 : decode cX1_note 55 = .ok (.goto (-43), 3) := dc_167 255 213 (-43) (by decide +kernel)
theorem dX1_note_29 : decode cX1_note 29 = .ok (.aload_n 0, 1) := dc_42 (by decide +kernel)
theorem dX1_note_30 : decode cX1_note 30 = .ok (.getfield 22, 3) := dc_180 0 22 (by decide +kernel)
theorem kw_2_182 : (Jvm.Cond.fieldLink "ParishUnion$Bench" (22 : Nat) "ParishUnion$Bench" "maybeIfSo" "[I") ∈ gT := gT_of (tb_2 _ (List.mem_of_getElem? (i := 182) rfl)) rfl
theorem rf_153_3 {sz : Nat} {M : gM} (I : gI sz M) (h : (153 : Int) < (sz : Int)) : M 153 3 = 157 + 1 := gI.rf I (by decide) h (by decide +kernel)
theorem dX1_note_33 : decode cX1_note 33 = .ok (.iload_n 3, 1) := dc_29 (by decide +kernel)
theorem dX1_note_34 : decode cX1_note 34 = .ok (.dup2, 1) := dc_92 (by decide +kernel)
theorem dX1_note_35 : decode cX1_note 35 = .ok (.iaload, 1) := dc_46 (by decide +kernel)
theorem ra_157 (k : Int) : gRg 157 k = (-2147483648, 2147483647) ∧ gCr 157 k = false ∧ gG 157 k = 25 := ⟨rfl, rfl, rfl⟩
theorem dX1_note_36 : decode cX1_note 36 = .ok (.iload_n 2, 1) := dc_28 (by decide +kernel)
theorem dX1_note_37 : decode cX1_note 37 = .ok (.ior, 1) := dc_128 (by decide +kernel)
theorem dX1_note_38 : decode cX1_note 38 = .ok (.iastore, 1) := dc_79 (by decide +kernel)
theorem dX1_note_39 : decode cX1_note 39 = .ok (.goto 13, 3) := dc_167 0 13 13 (by decide +kernel)
abbrev R_X1_note : Room := { frames := 0, cells := 0, slots := 0, locals := 0 }
set_option maxRecDepth 100000 in
set_option maxHeartbeats 4000000 in
theorem s_X1_note {l : Launch} {n0 : Nat} {D : va_G} {cA : Nat → ClassId} {M : gM} (a : Int) (r_a : -2147483648 ≤ a ∧ a ≤ 2147483647) (b : Int) (r_b : -2147483648 ≤ b ∧ b ≤ 2147483647) {sz : Nat} (hsz : 206 ≤ sz) (I : gI sz M) (C : gC sz M)   : Met l yX1_note (gWsOf yX1_note cX1_note 4 (Option.none : Option Jvm.ClassFile.FieldType)) R_X1_note (gPc n0 D cA [gA n0 153, gJ a, gJ b] M sz) (gQv n0 D cA sz (fun M1 => gI sz M1 ∧ gC sz M1 ∧ gFr 33554432 M M1)) 0 0 (fun q => n0 ≤ q) := by
  refine gMetV [gA n0 153, gJ a, gJ b] (by decide) (Nat.le_of_ble_eq_true rfl) ⟨rfl, rfl⟩ ?_
  intro p e s m args below meth cd Q X hq
  have X : gCx p s m args meth cd n0 D cA "ParishUnion$Bench" cX1_note 4 := X
  show G p l e R_X1_note s m args below meth cd n0 D cA 4 Q 0 0 M sz 0 [(0, gA n0 153), (1, gJ a), (2, gJ b)] []
  refine g_aload_n (n := 1) X 0 dX1_note_0 rfl rfl rfl ?_
  refine g_dup (n := 2) X dX1_note_1 rfl rfl ?_
  obtain ⟨v1, hv1, rv1⟩ := gRd I (by decide) (gsz hsz (by decide)) rc_153_7.1
  refine gg_1_7 (n := 5) (z := v1) X (by decide) (gsz hsz (by decide)) lay_153 kw_2_186 dX1_note_2 rfl hv1 ?_
  refine g_iload_n (n := 6) X 2 dX1_note_5 rfl rfl rfl ?_
  refine g_iorA (n := 7) X dX1_note_6 rfl (fun v2 rv2 xv2 => ?_)
  clear xv2
  refine gp_1_7 (n := 10) X (by decide) (gsz hsz (by decide)) lay_153 kw_2_186 dX1_note_7 rfl ?_
  refine G.nm (fun M3 e4 => ?_)
  have IM3 : gI sz M3 := gI.set I rc_153_7.1 (by omega) e4
  have CM3 : gC sz M3 := gC.set C rc_153_7.2.1 e4
  refine g_iconst (n := 11) X dX1_note_10 rfl ?_
  refine g_istore_n (n := 12) (L' := [(3, gJ 0), (0, gA n0 153), (1, gJ a), (2, gJ b)]) X dX1_note_11 rfl (by decide) rfl rfl ?_
  have j7 : ∀ (N73 : Nat) (v5 : Int) (M6 : gM) , (0 ≤ v5 ∧ v5 ≤ 10) → gI sz M6 → gC sz M6 → gFr 33554432 M3 M6 → (10 - v5).toNat < N73 → G p l e R_X1_note s m args below meth cd n0 D cA 4 Q 0 0 M6 sz 12 [(0, gA n0 153), (1, gJ a), (2, gJ b), (3, gJ v5)] [] := by
    intro N73; induction N73 with
    | zero => intro v5 M6 rv5 IM6 CM6 FM6 hm75; exfalso; omega
    | succ N73 ih74 =>
      intro v5 M6 rv5 IM6 CM6 FM6 hm75
      refine g_iload_n (n := 13) X 3 dX1_note_12 rfl rfl rfl ?_
      refine g_aload_n (n := 14) X 0 dX1_note_13 rfl rfl rfl ?_
      obtain ⟨v76, hv76, rv76⟩ := gRd IM6 (by decide) (gsz hsz (by decide)) rc_153_5.1
      refine gg_1_5 (n := 17) (z := v76) X (by decide) (gsz hsz (by decide)) lay_153 kw_2_184 dX1_note_14 rfl hv76 ?_
      refine g_icmp_ge (n := 20) (tgt := 58) X dX1_note_17 (by decide) (by omega) (by omega) rfl (fun c77 => ?_) (fun c77 => ?_)
      · exact hq _ _ _ dX1_note_58 ⟨IM6, CM6, (gFr.c (gFr.s gFr.rf e4 rc_153_7.2.2 rfl) FM6 rfl)⟩
      · refine g_iload_n (n := 21) X 1 dX1_note_20 rfl rfl rfl ?_
        refine g_iload_n (n := 22) X 3 dX1_note_21 rfl rfl rfl ?_
        refine g_ishrA (n := 23) X dX1_note_22 rfl (fun v78 rv78 xv78 => ?_)
        clear xv78
        refine g_iconst (n := 24) X dX1_note_23 rfl ?_
        refine g_iandC (n := 25) X dX1_note_24 (by decide) rfl (fun v79 rv79 xv79 => ?_)
        clear xv79
        refine g_iconst (n := 26) X dX1_note_25 rfl ?_
        refine g_icmp_ne (n := 29) (tgt := 42) X dX1_note_26 (by decide) (by omega) (by omega) rfl (fun c80 => ?_) (fun c80 => ?_)
        · refine g_aload_n (n := 43) X 0 dX1_note_42 rfl rfl rfl ?_
          refine gg_1_4 (n := 46) (z := 158) X (by decide) (gsz hsz (by decide)) lay_153 kw_2_183 dX1_note_43 rfl (rf_153_4 IM6 (gsz hsz (by decide))) (by decide) ?_
          refine g_iload_n (n := 47) X 3 dX1_note_46 rfl rfl rfl ?_
          refine g_dup2 (n := 48) X dX1_note_47 rfl rfl rfl ?_
          obtain ⟨v81, hv81, rv81⟩ := gRd IM6 (by decide) (gsz hsz (by decide)) (ra_158 v5).1
          refine g_iald2 (n := 49) (v := v81) X (by decide) (gsz hsz (by decide)) lay_158 (by omega) (by omega) (by decide) dX1_note_48 rfl hv81 ?_
          refine g_iload_n (n := 50) X 2 dX1_note_49 rfl rfl rfl ?_
          refine g_iorA (n := 51) X dX1_note_50 rfl (fun v82 rv82 xv82 => ?_)
          clear xv82
          refine g_iast (n := 52) X (by decide) (gsz hsz (by decide)) lay_158 (by omega) (by omega) (by decide) dX1_note_51 rfl ?_
          refine G.nm (fun M83 e84 => ?_)
          have IM83 : gI sz M83 := gI.set IM6 (ra_158 v5).1 (by omega) e84
          have CM83 : gC sz M83 := gC.set CM6 (ra_158 v5).2.1 e84
          refine g_iinc (n := 55) (w := v5 + 1) (L' := [(3, gJ (v5 + 1)), (0, gA n0 153), (1, gJ a), (2, gJ b)]) X 3 dX1_note_52 rfl rfl (by decide) rfl rfl ?_
          refine g_goto (tgt := 12) X dX1_note_55 (by decide) ?_
          refine G.sub (L' := [(0, gA n0 153), (1, gJ a), (2, gJ b), (3, gJ (v5 + 1))]) [1, 2, 3, 0] rfl ?_
          exact ih74 (v5 + 1) M83 (by omega) IM83 CM83 (gFr.s (gFr.c gFr.rf FM6 rfl) e84 (ra_158 v5).2.2 rfl) (by omega)
        · refine g_aload_n (n := 30) X 0 dX1_note_29 rfl rfl rfl ?_
          refine gg_1_3 (n := 33) (z := 157) X (by decide) (gsz hsz (by decide)) lay_153 kw_2_182 dX1_note_30 rfl (rf_153_3 IM6 (gsz hsz (by decide))) (by decide) ?_
          refine g_iload_n (n := 34) X 3 dX1_note_33 rfl rfl rfl ?_
          refine g_dup2 (n := 35) X dX1_note_34 rfl rfl rfl ?_
          obtain ⟨v85, hv85, rv85⟩ := gRd IM6 (by decide) (gsz hsz (by decide)) (ra_157 v5).1
          refine g_iald2 (n := 36) (v := v85) X (by decide) (gsz hsz (by decide)) lay_157 (by omega) (by omega) (by decide) dX1_note_35 rfl hv85 ?_
          refine g_iload_n (n := 37) X 2 dX1_note_36 rfl rfl rfl ?_
          refine g_iorA (n := 38) X dX1_note_37 rfl (fun v86 rv86 xv86 => ?_)
          clear xv86
          refine g_iast (n := 39) X (by decide) (gsz hsz (by decide)) lay_157 (by omega) (by omega) (by decide) dX1_note_38 rfl ?_
          refine G.nm (fun M87 e88 => ?_)
          have IM87 : gI sz M87 := gI.set IM6 (ra_157 v5).1 (by omega) e88
          have CM87 : gC sz M87 := gC.set CM6 (ra_157 v5).2.1 e88
          refine g_goto (tgt := 52) X dX1_note_39 (by decide) ?_
          refine g_iinc (n := 55) (w := v5 + 1) (L' := [(3, gJ (v5 + 1)), (0, gA n0 153), (1, gJ a), (2, gJ b)]) X 3 dX1_note_52 rfl rfl (by decide) rfl rfl ?_
          refine g_goto (tgt := 12) X dX1_note_55 (by decide) ?_
          refine G.sub (L' := [(0, gA n0 153), (1, gJ a), (2, gJ b), (3, gJ (v5 + 1))]) [1, 2, 3, 0] rfl ?_
          exact ih74 (v5 + 1) M87 (by omega) IM87 CM87 (gFr.s (gFr.c gFr.rf FM6 rfl) e88 (ra_157 v5).2.2 rfl) (by omega)
  refine G.sub (L' := [(0, gA n0 153), (1, gJ a), (2, gJ b), (3, gJ 0)]) [1, 2, 3, 0] rfl ?_
  exact j7 _ 0 M3 (by omega) IM3 CM3 gFr.rf (Nat.lt_succ_self _)
theorem dX1_tryBothWays_0 : decode cX1_tryBothWays 0 = .ok (.aload_n 0, 1) := dc_42 (by decide +kernel)
theorem dX1_tryBothWays_1 : decode cX1_tryBothWays 1 = .ok (.iconst 0, 1) := dc_3 (by decide +kernel)
theorem dX1_tryBothWays_2 : decode cX1_tryBothWays 2 = .ok (.putfield 102, 3) := dc_181 0 102 (by decide +kernel)
theorem dX1_tryBothWays_5 : decode cX1_tryBothWays 5 = .ok (.iconst 0, 1) := dc_3 (by decide +kernel)
theorem dX1_tryBothWays_6 : decode cX1_tryBothWays 6 = .ok (.istore 4, 2) := dc_54 4 (by decide +kernel)
theorem dX1_tryBothWays_8 : decode cX1_tryBothWays 8 = .ok (.iload 4, 2) := dc_21 4 (by decide +kernel)
theorem dX1_tryBothWays_10 : decode cX1_tryBothWays 10 = .ok (.aload_n 0, 1) := dc_42 (by decide +kernel)
theorem dX1_tryBothWays_11 : decode cX1_tryBothWays 11 = .ok (.getfield 42, 3) := dc_180 0 42 (by decide +kernel)
theorem dX1_tryBothWays_14 : decode cX1_tryBothWays 14 = .ok (.if_icmp .ge 25, 3) := dc_162 0 25 25 (by decide +kernel)
theorem dX1_tryBothWays_17 : decode cX1_tryBothWays 17 = .ok (.aload_n 0, 1) := dc_42 (by decide +kernel)
theorem dX1_tryBothWays_18 : decode cX1_tryBothWays 18 = .ok (.getfield 22, 3) := dc_180 0 22 (by decide +kernel)
theorem dX1_tryBothWays_21 : decode cX1_tryBothWays 21 = .ok (.iload 4, 2) := dc_21 4 (by decide +kernel)
theorem dX1_tryBothWays_23 : decode cX1_tryBothWays 23 = .ok (.iconst 0, 1) := dc_3 (by decide +kernel)
theorem dX1_tryBothWays_24 : decode cX1_tryBothWays 24 = .ok (.iastore, 1) := dc_79 (by decide +kernel)
theorem dX1_tryBothWays_25 : decode cX1_tryBothWays 25 = .ok (.aload_n 0, 1) := dc_42 (by decide +kernel)
theorem dX1_tryBothWays_26 : decode cX1_tryBothWays 26 = .ok (.getfield 25, 3) := dc_180 0 25 (by decide +kernel)
theorem dX1_tryBothWays_29 : decode cX1_tryBothWays 29 = .ok (.iload 4, 2) := dc_21 4 (by decide +kernel)
theorem dX1_tryBothWays_31 : decode cX1_tryBothWays 31 = .ok (.iconst 0, 1) := dc_3 (by decide +kernel)
theorem dX1_tryBothWays_32 : decode cX1_tryBothWays 32 = .ok (.iastore, 1) := dc_79 (by decide +kernel)
theorem dX1_tryBothWays_33 : decode cX1_tryBothWays 33 = .ok (.iinc 4 1, 3) := dc_132 4 1 1 (by decide +kernel)
theorem dX1_tryBothWays_36 : decode cX1_tryBothWays 36 = .ok (.goto (-28), 3) := dc_167 255 228 (-28) (by decide +kernel)
theorem dX1_tryBothWays_39 : decode cX1_tryBothWays 39 = .ok (.iconst 0, 1) := dc_3 (by decide +kernel)
theorem dX1_tryBothWays_40 : decode cX1_tryBothWays 40 = .ok (.istore 4, 2) := dc_54 4 (by decide +kernel)
theorem dX1_tryBothWays_42 : decode cX1_tryBothWays 42 = .ok (.iload 4, 2) := dc_21 4 (by decide +kernel)
theorem dX1_tryBothWays_44 : decode cX1_tryBothWays 44 = .ok (.iconst 1, 1) := dc_4 (by decide +kernel)
theorem dX1_tryBothWays_45 : decode cX1_tryBothWays 45 = .ok (.aload_n 0, 1) := dc_42 (by decide +kernel)
theorem dX1_tryBothWays_46 : decode cX1_tryBothWays 46 = .ok (.getfield 42, 3) := dc_180 0 42 (by decide +kernel)
theorem dX1_tryBothWays_49 : decode cX1_tryBothWays 49 = .ok (.ishl, 1) := dc_120 (by decide +kernel)
theorem dX1_tryBothWays_50 : decode cX1_tryBothWays 50 = .ok (.if_icmp .ge 79, 3) := dc_162 0 79 79 (by decide +kernel)
theorem dX1_tryBothWays_129 : decode cX1_tryBothWays 129 = .ok (.return_, 1) := dc_177 (by decide +kernel)
theorem dX1_tryBothWays_53 : decode cX1_tryBothWays 53 = .ok (.lconst 0, 1) := dc_9 (by decide +kernel)
theorem dX1_tryBothWays_54 : decode cX1_tryBothWays 54 = .ok (.lstore 5, 2) := dc_55 5 (by decide +kernel)
theorem dX1_tryBothWays_56 : decode cX1_tryBothWays 56 = .ok (.iconst 0, 1) := dc_3 (by decide +kernel)
theorem dX1_tryBothWays_57 : decode cX1_tryBothWays 57 = .ok (.istore 7, 2) := dc_54 7 (by decide +kernel)
theorem dX1_tryBothWays_59 : decode cX1_tryBothWays 59 = .ok (.iload 7, 2) := dc_21 7 (by decide +kernel)
theorem dX1_tryBothWays_61 : decode cX1_tryBothWays 61 = .ok (.aload_n 0, 1) := dc_42 (by decide +kernel)
theorem dX1_tryBothWays_62 : decode cX1_tryBothWays 62 = .ok (.getfield 42, 3) := dc_180 0 42 (by decide +kernel)
theorem dX1_tryBothWays_65 : decode cX1_tryBothWays 65 = .ok (.if_icmp .ge 30, 3) := dc_162 0 30 30 (by decide +kernel)
theorem dX1_tryBothWays_95 : decode cX1_tryBothWays 95 = .ok (.aload_n 0, 1) := dc_42 (by decide +kernel)
theorem dX1_tryBothWays_96 : decode cX1_tryBothWays 96 = .ok (.aload_n 1, 1) := dc_43 (by decide +kernel)
theorem dX1_tryBothWays_97 : decode cX1_tryBothWays 97 = .ok (.iload_n 2, 1) := dc_28 (by decide +kernel)
theorem dX1_tryBothWays_98 : decode cX1_tryBothWays 98 = .ok (.iload_n 3, 1) := dc_29 (by decide +kernel)
theorem dX1_tryBothWays_99 : decode cX1_tryBothWays 99 = .ok (.lload 5, 2) := dc_22 5 (by decide +kernel)
theorem dX1_tryBothWays_101 : decode cX1_tryBothWays 101 = .ok (.invokevirtual 105, 3) := dc_182 0 105 (by decide +kernel)
theorem kw_3_176 : (Jvm.Cond.methodLink "ParishUnion$Bench" (105 : Nat) ({ cls := "ParishUnion$Bench", name := "whose", desc := "(LParishUnion$Union;IIJ)I" } : Jvm.MethodName)) ∈ gT := gT_of (tb_3 _ (List.mem_of_getElem? (i := 176) rfl)) rfl
theorem kw_3_163 : (Jvm.Cond.code ({ cls := "ParishUnion$Bench", name := "whose", desc := "(LParishUnion$Union;IIJ)I" } : Jvm.MethodName) prog_3_method_4_code (11 : Nat) (Option.some Jvm.ClassFile.FieldType.int)) ∈ gT := gT_of (tb_3 _ (List.mem_of_getElem? (i := 163) rfl)) rfl
theorem okX1_whose : gQok yX1_whose cX1_whose 11 (Option.some Jvm.ClassFile.FieldType.int) 4 := ⟨kw_3_163, kw_1_11, by decide +kernel, by decide +kernel, by decide +kernel⟩
theorem kw_3_161 : (Jvm.Cond.instanceMethod ({ cls := "ParishUnion$Bench", name := "whose", desc := "(LParishUnion$Union;IIJ)I" } : Jvm.MethodName)) ∈ gT := gT_of (tb_3 _ (List.mem_of_getElem? (i := 161) rfl)) rfl
theorem kw_3_162 : (Jvm.Cond.selects "ParishUnion$Bench" ({ cls := "ParishUnion$Bench", name := "whose", desc := "(LParishUnion$Union;IIJ)I" } : Jvm.MethodName) ({ cls := "ParishUnion$Bench", name := "whose", desc := "(LParishUnion$Union;IIJ)I" } : Jvm.MethodName)) ∈ gT := gT_of (tb_3 _ (List.mem_of_getElem? (i := 162) rfl)) rfl
theorem dX1_tryBothWays_104 : decode cX1_tryBothWays 104 = .ok (.istore 7, 2) := dc_54 7 (by decide +kernel)
theorem dX1_tryBothWays_106 : decode cX1_tryBothWays 106 = .ok (.iload 7, 2) := dc_21 7 (by decide +kernel)
theorem dX1_tryBothWays_108 : decode cX1_tryBothWays 108 = .ok (.bipush (-5), 2) := dc_16 251 (-5) (by decide +kernel)
theorem dX1_tryBothWays_110 : decode cX1_tryBothWays 110 = .ok (.if_icmp .eq 13, 3) := dc_159 0 13 13 (by decide +kernel)
theorem dX1_tryBothWays_123 : decode cX1_tryBothWays 123 = .ok (.iinc 4 1, 3) := dc_132 4 1 1 (by decide +kernel)
theorem dX1_tryBothWays_126 : decode cX1_tryBothWays 126 = .ok (.goto (-84), 3) := dc_167 255 172 (-84) (by decide +kernel)
theorem dX1_tryBothWays_113 : decode cX1_tryBothWays 113 = .ok (.aload_n 0, 1) := dc_42 (by decide +kernel)
theorem dX1_tryBothWays_114 : decode cX1_tryBothWays 114 = .ok (.iload 4, 2) := dc_21 4 (by decide +kernel)
theorem dX1_tryBothWays_116 : decode cX1_tryBothWays 116 = .ok (.iconst 1, 1) := dc_4 (by decide +kernel)
theorem dX1_tryBothWays_117 : decode cX1_tryBothWays 117 = .ok (.iload 7, 2) := dc_21 7 (by decide +kernel)
theorem dX1_tryBothWays_119 : decode cX1_tryBothWays 119 = .ok (.ishl, 1) := dc_120 (by decide +kernel)
theorem dX1_tryBothWays_120 : decode cX1_tryBothWays 120 = .ok (.invokevirtual 108, 3) := dc_182 0 108 (by decide +kernel)
theorem kw_3_177 : (Jvm.Cond.methodLink "ParishUnion$Bench" (108 : Nat) ({ cls := "ParishUnion$Bench", name := "note", desc := "(II)V" } : Jvm.MethodName)) ∈ gT := gT_of (tb_3 _ (List.mem_of_getElem? (i := 177) rfl)) rfl
theorem kw_3_180 : (Jvm.Cond.code ({ cls := "ParishUnion$Bench", name := "note", desc := "(II)V" } : Jvm.MethodName) prog_3_method_7_code (4 : Nat) (Option.none : Option Jvm.ClassFile.FieldType)) ∈ gT := gT_of (tb_3 _ (List.mem_of_getElem? (i := 180) rfl)) rfl
theorem okX1_note : gQok yX1_note cX1_note 4 (Option.none : Option Jvm.ClassFile.FieldType) 2 := ⟨kw_3_180, kw_1_11, by decide +kernel, by decide +kernel, by decide +kernel⟩
theorem kw_3_179 : (Jvm.Cond.instanceMethod ({ cls := "ParishUnion$Bench", name := "note", desc := "(II)V" } : Jvm.MethodName)) ∈ gT := gT_of (tb_3 _ (List.mem_of_getElem? (i := 179) rfl)) rfl
theorem kw_0_5 : (Jvm.Cond.selects "ParishUnion$Bench" ({ cls := "ParishUnion$Bench", name := "note", desc := "(II)V" } : Jvm.MethodName) ({ cls := "ParishUnion$Bench", name := "note", desc := "(II)V" } : Jvm.MethodName)) ∈ gT := gT_of (tb_0 _ (List.mem_of_getElem? (i := 5) rfl)) rfl
theorem dX1_tryBothWays_68 : decode cX1_tryBothWays 68 = .ok (.lload 5, 2) := dc_22 5 (by decide +kernel)
theorem dX1_tryBothWays_70 : decode cX1_tryBothWays 70 = .ok (.iload 4, 2) := dc_21 4 (by decide +kernel)
theorem dX1_tryBothWays_72 : decode cX1_tryBothWays 72 = .ok (.iload 7, 2) := dc_21 7 (by decide +kernel)
theorem dX1_tryBothWays_74 : decode cX1_tryBothWays 74 = .ok (.ishr, 1) := dc_122 (by decide +kernel)
theorem dX1_tryBothWays_75 : decode cX1_tryBothWays 75 = .ok (.iconst 1, 1) := dc_4 (by decide +kernel)
theorem dX1_tryBothWays_76 : decode cX1_tryBothWays 76 = .ok (.iand, 1) := dc_126 (by decide +kernel)
theorem dX1_tryBothWays_77 : decode cX1_tryBothWays 77 = .ok (.i2l, 1) := dc_133 (by decide +kernel)
theorem dX1_tryBothWays_78 : decode cX1_tryBothWays 78 = .ok (.aload_n 0, 1) := dc_42 (by decide +kernel)
theorem dX1_tryBothWays_79 : decode cX1_tryBothWays 79 = .ok (.getfield 19, 3) := dc_180 0 19 (by decide +kernel)
theorem dX1_tryBothWays_82 : decode cX1_tryBothWays 82 = .ok (.iload 7, 2) := dc_21 7 (by decide +kernel)
theorem dX1_tryBothWays_84 : decode cX1_tryBothWays 84 = .ok (.iaload, 1) := dc_46 (by decide +kernel)
theorem dX1_tryBothWays_85 : decode cX1_tryBothWays 85 = .ok (.lshl, 1) := dc_121 (by decide +kernel)
theorem dX1_tryBothWays_86 : decode cX1_tryBothWays 86 = .ok (.lor, 1) := dc_129 (by decide +kernel)
theorem dX1_tryBothWays_87 : decode cX1_tryBothWays 87 = .ok (.lstore 5, 2) := dc_55 5 (by decide +kernel)
theorem dX1_tryBothWays_89 : decode cX1_tryBothWays 89 = .ok (.iinc 7 1, 3) := dc_132 7 1 1 (by decide +kernel)
theorem dX1_tryBothWays_92 : decode cX1_tryBothWays 92 = .ok (.goto (-33), 3) := dc_167 255 223 (-33) (by decide +kernel)
abbrev R_X1_tryBothWays : Room := { frames := 2, cells := 0, slots := 0, locals := 59 }
set_option maxRecDepth 100000 in
set_option maxHeartbeats 4000000 in
theorem s_X1_tryBothWays {l : Launch} {n0 : Nat} {D : va_G} {cA : Nat → ClassId} {M : gM} (b : Int) (r_b : 0 ≤ b ∧ b ≤ 15) (c : Int) (r_c : -3000 ≤ c ∧ c ≤ 300) {sz : Nat} (hsz : 206 ≤ sz) (I : gI sz M) (C : gC sz M)   : Met l yX1_tryBothWays (gWsOf yX1_tryBothWays cX1_tryBothWays 8 (Option.none : Option Jvm.ClassFile.FieldType)) R_X1_tryBothWays (gPc n0 D cA [gA n0 153, gA n0 1, gJ b, gJ c] M sz) (gQv n0 D cA sz (fun M1 => gI sz M1 ∧ gC sz M1 ∧ gFr 33554432 M M1)) 0 0 (fun q => n0 ≤ q) := by
  refine gMetV [gA n0 153, gA n0 1, gJ b, gJ c] (by decide) (Nat.le_of_ble_eq_true rfl) ⟨rfl, rfl⟩ ?_
  intro p e s m args below meth cd Q X hq
  have X : gCx p s m args meth cd n0 D cA "ParishUnion$Bench" cX1_tryBothWays 8 := X
  show G p l e R_X1_tryBothWays s m args below meth cd n0 D cA 8 Q 0 0 M sz 0 [(0, gA n0 153), (1, gA n0 1), (2, gJ b), (3, gJ c)] []
  refine g_aload_n (n := 1) X 0 dX1_tryBothWays_0 rfl rfl rfl ?_
  refine g_iconst (n := 2) X dX1_tryBothWays_1 rfl ?_
  refine gp_1_7 (n := 5) X (by decide) (gsz hsz (by decide)) lay_153 kw_2_186 dX1_tryBothWays_2 rfl ?_
  refine G.nm (fun M1 e2 => ?_)
  have IM1 : gI sz M1 := gI.set I rc_153_7.1 (by omega) e2
  have CM1 : gC sz M1 := gC.set C rc_153_7.2.1 e2
  refine g_iconst (n := 6) X dX1_tryBothWays_5 rfl ?_
  refine g_istore (n := 8) (L' := [(4, gJ 0), (0, gA n0 153), (1, gA n0 1), (2, gJ b), (3, gJ c)]) X dX1_tryBothWays_6 (by decide) rfl rfl ?_
  have j5 : ∀ (N5585 : Nat) (v3 : Int) (M4 : gM) , (0 ≤ v3 ∧ v3 ≤ 10) → gI sz M4 → gC sz M4 → gFr 33554432 M1 M4 → (10 - v3).toNat < N5585 → G p l e R_X1_tryBothWays s m args below meth cd n0 D cA 8 Q 0 0 M4 sz 8 [(0, gA n0 153), (1, gA n0 1), (2, gJ b), (3, gJ c), (4, gJ v3)] [] := by
    intro N5585; induction N5585 with
    | zero => intro v3 M4 rv3 IM4 CM4 FM4 hm5587; exfalso; omega
    | succ N5585 ih5586 =>
      intro v3 M4 rv3 IM4 CM4 FM4 hm5587
      refine g_iload (n := 10) X 4 dX1_tryBothWays_8 rfl rfl ?_
      refine g_aload_n (n := 11) X 0 dX1_tryBothWays_10 rfl rfl rfl ?_
      obtain ⟨v5588, hv5588, rv5588⟩ := gRd IM4 (by decide) (gsz hsz (by decide)) rc_153_5.1
      refine gg_1_5 (n := 14) (z := v5588) X (by decide) (gsz hsz (by decide)) lay_153 kw_2_184 dX1_tryBothWays_11 rfl hv5588 ?_
      refine g_icmp_ge (n := 17) (tgt := 39) X dX1_tryBothWays_14 (by decide) (by omega) (by omega) rfl (fun c5589 => ?_) (fun c5589 => ?_)
      · refine g_iconst (n := 40) X dX1_tryBothWays_39 rfl ?_
        refine g_istore (n := 42) (L' := [(4, gJ 0), (0, gA n0 153), (1, gA n0 1), (2, gJ b), (3, gJ c)]) X dX1_tryBothWays_40 (by decide) rfl rfl ?_
        have j5596 : ∀ (N6630 : Nat) (v5594 : Int) (M5595 : gM) , (0 ≤ v5594 ∧ v5594 ≤ 2147483647) → gI sz M5595 → gC sz M5595 → gFr 33554432 M4 M5595 → (2147483647 - v5594).toNat < N6630 → G p l e R_X1_tryBothWays s m args below meth cd n0 D cA 8 Q 0 0 M5595 sz 42 [(0, gA n0 153), (1, gA n0 1), (2, gJ b), (3, gJ c), (4, gJ v5594)] [] := by
          intro N6630; induction N6630 with
          | zero => intro v5594 M5595 rv5594 IM5595 CM5595 FM5595 hm6632; exfalso; omega
          | succ N6630 ih6631 =>
            intro v5594 M5595 rv5594 IM5595 CM5595 FM5595 hm6632
            refine g_iload (n := 44) X 4 dX1_tryBothWays_42 rfl rfl ?_
            refine g_iconst (n := 45) X dX1_tryBothWays_44 rfl ?_
            refine g_aload_n (n := 46) X 0 dX1_tryBothWays_45 rfl rfl rfl ?_
            obtain ⟨v6633, hv6633, rv6633⟩ := gRd IM5595 (by decide) (gsz hsz (by decide)) rc_153_5.1
            refine gg_1_5 (n := 49) (z := v6633) X (by decide) (gsz hsz (by decide)) lay_153 kw_2_184 dX1_tryBothWays_46 rfl hv6633 ?_
            refine g_ishlA (n := 50) X dX1_tryBothWays_49 rfl (fun v6634 rv6634 xv6634 => ?_)
            clear xv6634
            refine g_icmp_ge (n := 53) (tgt := 129) X dX1_tryBothWays_50 (by decide) (by omega) (by omega) rfl (fun c6635 => ?_) (fun c6635 => ?_)
            · exact hq _ _ _ dX1_tryBothWays_129 ⟨IM5595, CM5595, (gFr.c (gFr.c (gFr.s gFr.rf e2 rc_153_7.2.2 rfl) FM4 rfl) FM5595 rfl)⟩
            · refine g_lconst (n := 54) (z := 0) X dX1_tryBothWays_53 (by decide +kernel) rfl ?_
              refine g_lstore (n := 56) (L' := [(5, gV 0), (0, gA n0 153), (1, gA n0 1), (2, gJ b), (3, gJ c), (4, gJ v5594)]) X dX1_tryBothWays_54 (by decide) rfl rfl ?_
              refine g_iconst (n := 57) X dX1_tryBothWays_56 rfl ?_
              refine g_istore (n := 59) (L' := [(7, gJ 0), (5, gV 0), (0, gA n0 153), (1, gA n0 1), (2, gJ b), (3, gJ c), (4, gJ v5594)]) X dX1_tryBothWays_57 (by decide) rfl rfl ?_
              have j6639 : ∀ (N6710 : Nat) (v6636 v6637 : Int) , (-9223372036854775808 ≤ v6636 ∧ v6636 ≤ 9223372036854775807) → (0 ≤ v6637 ∧ v6637 ≤ 10) → (10 - v6637).toNat < N6710 → G p l e R_X1_tryBothWays s m args below meth cd n0 D cA 8 Q 0 0 M5595 sz 59 [(0, gA n0 153), (1, gA n0 1), (2, gJ b), (3, gJ c), (4, gJ v5594), (5, gV v6636), (7, gJ v6637)] [] := by
                intro N6710; induction N6710 with
                | zero => intro v6636 v6637 rv6636 rv6637 hm6712; exfalso; omega
                | succ N6710 ih6711 =>
                  intro v6636 v6637 rv6636 rv6637 hm6712
                  refine g_iload (n := 61) X 6 dX1_tryBothWays_59 rfl rfl ?_
                  refine g_aload_n (n := 62) X 0 dX1_tryBothWays_61 rfl rfl rfl ?_
                  refine gg_1_5 (n := 65) (z := v6633) X (by decide) (gsz hsz (by decide)) lay_153 kw_2_184 dX1_tryBothWays_62 rfl hv6633 ?_
                  refine g_icmp_ge (n := 68) (tgt := 95) X dX1_tryBothWays_65 (by decide) (by omega) (by omega) rfl (fun c6713 => ?_) (fun c6713 => ?_)
                  · refine g_aload_n (n := 96) X 0 dX1_tryBothWays_95 rfl rfl rfl ?_
                    refine g_aload_n (n := 97) X 1 dX1_tryBothWays_96 rfl rfl rfl ?_
                    refine g_iload_n (n := 98) X 2 dX1_tryBothWays_97 rfl rfl rfl ?_
                    refine g_iload_n (n := 99) X 3 dX1_tryBothWays_98 rfl rfl rfl ?_
                    refine g_lload (n := 101) X 5 dX1_tryBothWays_99 rfl rfl ?_
                    refine g_callVi (n := 104) (As := [gA n0 1, gJ b, gJ c, gV v6636]) (rest := []) (cs1 := 0) (ss1 := 0) X (s_X1_whose b (by omega) c (by omega) v6636 (by omega) hsz IM5595 CM5595 ) okX1_whose kw_3_176 ⟨kw_3_161, kw_3_162⟩ ⟨rfl, rfl⟩ ⟨Nat.le_of_ble_eq_true rfl, Nat.le_of_ble_eq_true rfl⟩ rfl (by decide) (gsz hsz (by decide)) lay_153 rfl rfl (Nat.le_of_ble_eq_true rfl) ⟨Nat.le_of_ble_eq_true rfl, Nat.le_of_ble_eq_true rfl⟩ rfl rfl dX1_tryBothWays_101 rfl (fun v6714 M6715 P6716 => ?_)
                    obtain ⟨rfl, rv6714⟩ := P6716
                    refine g_istore (n := 106) (L' := [(7, gJ v6714), (0, gA n0 153), (1, gA n0 1), (2, gJ b), (3, gJ c), (4, gJ v5594), (5, gV v6636)]) X dX1_tryBothWays_104 (by decide) rfl rfl ?_
                    refine g_iload (n := 108) X 0 dX1_tryBothWays_106 rfl rfl ?_
                    refine g_bipush (n := 110) X dX1_tryBothWays_108 (by decide +kernel) rfl ?_
                    refine g_icmp_eq (n := 113) (tgt := 123) X dX1_tryBothWays_110 (by decide) (by omega) (by omega) rfl (fun c6717 => ?_) (fun c6717 => ?_)
                    · refine g_iinc (n := 126) (w := v5594 + 1) (L' := [(4, gJ (v5594 + 1)), (7, gJ v6714), (0, gA n0 153), (1, gA n0 1), (2, gJ b), (3, gJ c), (5, gV v6636)]) X 5 dX1_tryBothWays_123 rfl rfl (by decide) rfl rfl ?_
                      refine g_goto (tgt := 42) X dX1_tryBothWays_126 (by decide) ?_
                      refine G.sub (L' := [(0, gA n0 153), (1, gA n0 1), (2, gJ b), (3, gJ c), (4, gJ (v5594 + 1))]) [2, 3, 4, 5, 0] rfl ?_
                      exact ih6631 (v5594 + 1) M5595 (by omega) IM5595 CM5595 (gFr.c gFr.rf FM5595 rfl) (by omega)
                    · refine g_aload_n (n := 114) X 1 dX1_tryBothWays_113 rfl rfl rfl ?_
                      refine g_iload (n := 116) X 5 dX1_tryBothWays_114 rfl rfl ?_
                      refine g_iconst (n := 117) X dX1_tryBothWays_116 rfl ?_
                      refine g_iload (n := 119) X 0 dX1_tryBothWays_117 rfl rfl ?_
                      refine g_ishlA (n := 120) X dX1_tryBothWays_119 rfl (fun v6718 rv6718 xv6718 => ?_)
                      clear xv6718
                      refine g_callVv (n := 123) (As := [gJ v5594, gJ v6718]) (rest := []) (cs1 := 0) (ss1 := 0) X (s_X1_note v5594 (by omega) v6718 (by omega) hsz IM5595 CM5595 ) okX1_note kw_3_177 ⟨kw_3_179, kw_0_5⟩ ⟨rfl, rfl⟩ ⟨Nat.le_of_ble_eq_true rfl, Nat.le_of_ble_eq_true rfl⟩ rfl (by decide) (gsz hsz (by decide)) lay_153 rfl rfl (Nat.le_of_ble_eq_true rfl) ⟨Nat.le_of_ble_eq_true rfl, Nat.le_of_ble_eq_true rfl⟩ rfl rfl dX1_tryBothWays_120 rfl (fun M6720 P6721 => ?_)
                      obtain ⟨IM6720, CM6720, FM6720⟩ := P6721
                      refine g_iinc (n := 126) (w := v5594 + 1) (L' := [(4, gJ (v5594 + 1)), (7, gJ v6714), (0, gA n0 153), (1, gA n0 1), (2, gJ b), (3, gJ c), (5, gV v6636)]) X 5 dX1_tryBothWays_123 rfl rfl (by decide) rfl rfl ?_
                      refine g_goto (tgt := 42) X dX1_tryBothWays_126 (by decide) ?_
                      refine G.sub (L' := [(0, gA n0 153), (1, gA n0 1), (2, gJ b), (3, gJ c), (4, gJ (v5594 + 1))]) [2, 3, 4, 5, 0] rfl ?_
                      exact ih6631 (v5594 + 1) M6720 (by omega) IM6720 CM6720 (gFr.c (gFr.c gFr.rf FM5595 rfl) FM6720 rfl) (by omega)
                  · refine g_lload (n := 70) X 5 dX1_tryBothWays_68 rfl rfl ?_
                    refine g_iload (n := 72) X 4 dX1_tryBothWays_70 rfl rfl ?_
                    refine g_iload (n := 74) X 6 dX1_tryBothWays_72 rfl rfl ?_
                    refine g_ishrA (n := 75) X dX1_tryBothWays_74 rfl (fun v6722 rv6722 xv6722 => ?_)
                    clear xv6722
                    refine g_iconst (n := 76) X dX1_tryBothWays_75 rfl ?_
                    refine g_iandC (n := 77) X dX1_tryBothWays_76 (by decide) rfl (fun v6723 rv6723 xv6723 => ?_)
                    clear xv6723
                    refine g_i2lE (n := 78) (z := v6723) X dX1_tryBothWays_77 (g_i2l (by omega)) rfl ?_
                    refine g_aload_n (n := 79) X 0 dX1_tryBothWays_78 rfl rfl rfl ?_
                    refine gg_1_2 (n := 82) (z := 156) X (by decide) (gsz hsz (by decide)) lay_153 kw_2_181 dX1_tryBothWays_79 rfl (rf_153_2 IM5595 (gsz hsz (by decide))) (by decide) ?_
                    refine g_iload (n := 84) X 6 dX1_tryBothWays_82 rfl rfl ?_
                    obtain ⟨v6724, hv6724, rv6724⟩ := gRd IM5595 (by decide) (gsz hsz (by decide)) (ra_156 v6637).1
                    refine g_iald2 (n := 85) (v := v6724) X (by decide) (gsz hsz (by decide)) lay_156 (by omega) (by omega) (by decide) dX1_tryBothWays_84 rfl hv6724 ?_
                    refine g_lshlA (n := 86) X dX1_tryBothWays_85 rfl (fun v6725 rv6725 xv6725 => ?_)
                    clear xv6725
                    refine g_lorA (n := 87) X dX1_tryBothWays_86 rfl (fun v6726 rv6726 xv6726 => ?_)
                    clear xv6726
                    refine g_lstore (n := 89) (L' := [(5, gV v6726), (0, gA n0 153), (1, gA n0 1), (2, gJ b), (3, gJ c), (4, gJ v5594), (7, gJ v6637)]) X dX1_tryBothWays_87 (by decide) rfl rfl ?_
                    refine g_iinc (n := 92) (w := v6637 + 1) (L' := [(7, gJ (v6637 + 1)), (5, gV v6726), (0, gA n0 153), (1, gA n0 1), (2, gJ b), (3, gJ c), (4, gJ v5594)]) X 6 dX1_tryBothWays_89 rfl rfl (by decide) rfl rfl ?_
                    refine g_goto (tgt := 59) X dX1_tryBothWays_92 (by decide) ?_
                    refine G.sub (L' := [(0, gA n0 153), (1, gA n0 1), (2, gJ b), (3, gJ c), (4, gJ v5594), (5, gV v6726), (7, gJ (v6637 + 1))]) [2, 3, 4, 5, 6, 1, 0] rfl ?_
                    exact ih6711 v6726 (v6637 + 1) (by omega) (by omega) (by omega)
              refine G.sub (L' := [(0, gA n0 153), (1, gA n0 1), (2, gJ b), (3, gJ c), (4, gJ v5594), (5, gV 0), (7, gJ 0)]) [2, 3, 4, 5, 6, 1, 0] rfl ?_
              exact j6639 _ 0 0 (by omega) (by omega) (Nat.lt_succ_self _)
        refine G.sub (L' := [(0, gA n0 153), (1, gA n0 1), (2, gJ b), (3, gJ c), (4, gJ 0)]) [1, 2, 3, 4, 0] rfl ?_
        exact j5596 _ 0 M4 (by omega) IM4 CM4 gFr.rf (Nat.lt_succ_self _)
      · refine g_aload_n (n := 18) X 0 dX1_tryBothWays_17 rfl rfl rfl ?_
        refine gg_1_3 (n := 21) (z := 157) X (by decide) (gsz hsz (by decide)) lay_153 kw_2_182 dX1_tryBothWays_18 rfl (rf_153_3 IM4 (gsz hsz (by decide))) (by decide) ?_
        refine g_iload (n := 23) X 4 dX1_tryBothWays_21 rfl rfl ?_
        refine g_iconst (n := 24) X dX1_tryBothWays_23 rfl ?_
        refine g_iast (n := 25) X (by decide) (gsz hsz (by decide)) lay_157 (by omega) (by omega) (by decide) dX1_tryBothWays_24 rfl ?_
        refine G.nm (fun M6727 e6728 => ?_)
        have IM6727 : gI sz M6727 := gI.set IM4 (ra_157 v3).1 (by omega) e6728
        have CM6727 : gC sz M6727 := gC.set CM4 (ra_157 v3).2.1 e6728
        refine g_aload_n (n := 26) X 0 dX1_tryBothWays_25 rfl rfl rfl ?_
        refine gg_1_4 (n := 29) (z := 158) X (by decide) (gsz hsz (by decide)) lay_153 kw_2_183 dX1_tryBothWays_26 rfl (rf_153_4 IM6727 (gsz hsz (by decide))) (by decide) ?_
        refine g_iload (n := 31) X 4 dX1_tryBothWays_29 rfl rfl ?_
        refine g_iconst (n := 32) X dX1_tryBothWays_31 rfl ?_
        refine g_iast (n := 33) X (by decide) (gsz hsz (by decide)) lay_158 (by omega) (by omega) (by decide) dX1_tryBothWays_32 rfl ?_
        refine G.nm (fun M6729 e6730 => ?_)
        have IM6729 : gI sz M6729 := gI.set IM6727 (ra_158 v3).1 (by omega) e6730
        have CM6729 : gC sz M6729 := gC.set CM6727 (ra_158 v3).2.1 e6730
        refine g_iinc (n := 36) (w := v3 + 1) (L' := [(4, gJ (v3 + 1)), (0, gA n0 153), (1, gA n0 1), (2, gJ b), (3, gJ c)]) X 4 dX1_tryBothWays_33 rfl rfl (by decide) rfl rfl ?_
        refine g_goto (tgt := 8) X dX1_tryBothWays_36 (by decide) ?_
        refine G.sub (L' := [(0, gA n0 153), (1, gA n0 1), (2, gJ b), (3, gJ c), (4, gJ (v3 + 1))]) [1, 2, 3, 4, 0] rfl ?_
        exact ih5586 (v3 + 1) M6729 (by omega) IM6729 CM6729 (gFr.s (gFr.s (gFr.c gFr.rf FM4 rfl) e6728 (ra_157 v3).2.2 rfl) e6730 (ra_158 v3).2.2 rfl) (by omega)
  refine G.sub (L' := [(0, gA n0 153), (1, gA n0 1), (2, gJ b), (3, gJ c), (4, gJ 0)]) [1, 2, 3, 4, 0] rfl ?_
  exact j5 _ 0 M1 (by omega) IM1 CM1 gFr.rf (Nat.lt_succ_self _)
