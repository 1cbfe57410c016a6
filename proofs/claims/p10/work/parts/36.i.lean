theorem dX12_settle_0 : decode cX12_settle 0 = .ok (.aload_n 0, 1) := dc_42 (by decide +kernel)
theorem dX12_settle_1 : decode cX12_settle 1 = .ok (.iload_n 1, 1) := dc_27 (by decide +kernel)
theorem dX12_settle_2 : decode cX12_settle 2 = .ok (.invokevirtual 76, 3) := dc_182 0 76 (by decide +kernel)
theorem dX12_settle_5 : decode cX12_settle 5 = .ok (.ifCond .eq 21, 3) := dc_153 0 21 21 (by decide +kernel)
theorem dX12_settle_26 : decode cX12_settle 26 = .ok (.iconst (-1), 1) := dc_2 (by decide +kernel)
theorem dX12_settle_27 : decode cX12_settle 27 = .ok (.ireturn, 1) := dc_172 (by decide +kernel)
theorem dX12_settle_8 : decode cX12_settle 8 = .ok (.iload_n 2, 1) := dc_28 (by decide +kernel)
theorem dX12_settle_9 : decode cX12_settle 9 = .ok (.iconst 0, 1) := dc_3 (by decide +kernel)
theorem dX12_settle_10 : decode cX12_settle 10 = .ok (.iconst 1, 1) := dc_4 (by decide +kernel)
theorem dX12_settle_11 : decode cX12_settle 11 = .ok (.invokestatic 64, 3) := dc_184 0 64 (by decide +kernel)
theorem dX12_settle_14 : decode cX12_settle 14 = .ok (.ifCond .eq 12, 3) := dc_153 0 12 12 (by decide +kernel)
theorem dX12_settle_17 : decode cX12_settle 17 = .ok (.aload_n 0, 1) := dc_42 (by decide +kernel)
theorem dX12_settle_18 : decode cX12_settle 18 = .ok (.iload 4, 2) := dc_21 4 (by decide +kernel)
theorem dX12_settle_20 : decode cX12_settle 20 = .ok (.invokevirtual 113, 3) := dc_182 0 113 (by decide +kernel)
theorem kw_6_181 : (Jvm.Cond.methodLink "ParishUnionModel" (113 : Nat) ({ cls := "ParishUnionModel", name := "isBy", desc := "(I)Z" } : Jvm.MethodName)) ∈ gT := gT_of (tb_6 _ (List.mem_of_getElem? (i := 181) rfl)) rfl
theorem kw_6_184 : (Jvm.Cond.code ({ cls := "ParishUnionModel", name := "isBy", desc := "(I)Z" } : Jvm.MethodName) prog_14_method_6_code (2 : Nat) (Option.some Jvm.ClassFile.FieldType.boolean)) ∈ gT := gT_of (tb_6 _ (List.mem_of_getElem? (i := 184) rfl)) rfl
theorem okX12_isBy : gQok yX12_isBy cX12_isBy 2 (Option.some Jvm.ClassFile.FieldType.boolean) 1 := ⟨kw_6_184, kw_1_13, by decide +kernel, by decide +kernel, by decide +kernel⟩
theorem kw_6_183 : (Jvm.Cond.instanceMethod ({ cls := "ParishUnionModel", name := "isBy", desc := "(I)Z" } : Jvm.MethodName)) ∈ gT := gT_of (tb_6 _ (List.mem_of_getElem? (i := 183) rfl)) rfl
theorem kw_0_46 : (Jvm.Cond.selects "ParishUnionModel" ({ cls := "ParishUnionModel", name := "isBy", desc := "(I)Z" } : Jvm.MethodName) ({ cls := "ParishUnionModel", name := "isBy", desc := "(I)Z" } : Jvm.MethodName)) ∈ gT := gT_of (tb_0 _ (List.mem_of_getElem? (i := 46) rfl)) rfl
theorem dX12_settle_23 : decode cX12_settle 23 = .ok (.ifCond .ne 5, 3) := dc_154 0 5 5 (by decide +kernel)
theorem dX12_settle_28 : decode cX12_settle 28 = .ok (.iload_n 3, 1) := dc_29 (by decide +kernel)
theorem dX12_settle_29 : decode cX12_settle 29 = .ok (.sipush (-3000), 3) := dc_17 244 72 (-3000) (by decide +kernel)
theorem dX12_settle_32 : decode cX12_settle 32 = .ok (.sipush 300, 3) := dc_17 1 44 300 (by decide +kernel)
theorem dX12_settle_35 : decode cX12_settle 35 = .ok (.invokestatic 64, 3) := dc_184 0 64 (by decide +kernel)
theorem dX12_settle_38 : decode cX12_settle 38 = .ok (.ifCond .eq 15, 3) := dc_153 0 15 15 (by decide +kernel)
theorem dX12_settle_53 : decode cX12_settle 53 = .ok (.bipush (-2), 2) := dc_16 254 (-2) (by decide +kernel)
theorem dX12_settle_55 : decode cX12_settle 55 = .ok (.ireturn, 1) := dc_172 (by decide +kernel)
theorem dX12_settle_41 : decode cX12_settle 41 = .ok (.aload_n 0, 1) := dc_42 (by decide +kernel)
theorem dX12_settle_42 : decode cX12_settle 42 = .ok (.iload_n 1, 1) := dc_27 (by decide +kernel)
theorem dX12_settle_43 : decode cX12_settle 43 = .ok (.iload_n 2, 1) := dc_28 (by decide +kernel)
theorem dX12_settle_44 : decode cX12_settle 44 = .ok (.iload_n 3, 1) := dc_29 (by decide +kernel)
theorem dX12_settle_45 : decode cX12_settle 45 = .ok (.iload 4, 2) := dc_21 4 (by decide +kernel)
theorem dX12_settle_47 : decode cX12_settle 47 = .ok (.invokevirtual 116, 3) := dc_182 0 116 (by decide +kernel)
theorem dX12_settle_50 : decode cX12_settle 50 = .ok (.goto 5, 3) := dc_167 0 5 5 (by decide +kernel)
abbrev R_X12_settle : Room := { frames := 74, cells := 0, slots := 0, locals := 2990 }
set_option maxRecDepth 100000 in
set_option maxHeartbeats 4000000 in
theorem s_X12_settle {l : Launch} {n0 : Nat} {D : va_G} {cA : Nat → ClassId} {M : gM} (a : Int) (r_a : -2147483648 ≤ a ∧ a ≤ 2147483647) (b : Int) (r_b : -2147483648 ≤ b ∧ b ≤ 2147483647) (c : Int) (r_c : -2147483648 ≤ c ∧ c ≤ 2147483647) (d : Int) (r_d : -2147483648 ≤ d ∧ d ≤ 2147483647) {sz : Nat} (hsz : 206 ≤ sz) (I : gI sz M) (C : gC sz M) (W : gW 191 M)  : Met l yX12_settle (gWsOf yX12_settle cX12_settle 5 (Option.some Jvm.ClassFile.FieldType.int)) R_X12_settle (gPc n0 D cA [gA n0 190, gJ a, gJ b, gJ c, gJ d] M sz) (gQi n0 D cA sz (fun z M1 => (-5 ≤ z ∧ z ≤ 5) ∧ gI sz M1 ∧ gC sz M1 ∧ gFr 2475880189251224992055558144 M M1)) 0 0 (fun q => n0 ≤ q) := by
  refine gMetI [gA n0 190, gJ a, gJ b, gJ c, gJ d] (by decide) (Nat.le_of_ble_eq_true rfl) ⟨rfl, rfl⟩ ?_
  intro p e s m args below meth cd Q X hq
  have X : gCx p s m args meth cd n0 D cA "ParishUnionModel" cX12_settle 5 := X
  show G p l e R_X12_settle s m args below meth cd n0 D cA 5 Q 0 0 M sz 0 [(0, gA n0 190), (1, gJ a), (2, gJ b), (3, gJ c), (4, gJ d)] []
  obtain ⟨v1, hv1, rv1⟩ := gRd I (by decide) (gsz hsz (by decide)) (rs_PERS (k := 1) (by omega)).1
  refine g_aload_n (n := 1) X 0 dX12_settle_0 rfl rfl rfl ?_
  refine g_iload_n (n := 2) X 1 dX12_settle_1 rfl rfl rfl ?_
  refine g_callVi (n := 5) (As := [gJ a]) (rest := []) (cs1 := 0) (ss1 := 0) X (s_X12_isPerson a (by omega) hsz I C ) okX12_isPerson kw_6_125 ⟨kw_6_127, kw_0_40⟩ ⟨rfl, rfl⟩ ⟨Nat.le_of_ble_eq_true rfl, Nat.le_of_ble_eq_true rfl⟩ rfl (by decide) (gsz hsz (by decide)) lay_190 rfl rfl (Nat.le_of_ble_eq_true rfl) ⟨Nat.le_of_ble_eq_true rfl, Nat.le_of_ble_eq_true rfl⟩ rfl rfl dX12_settle_2 rfl (fun v2 M3 P4 => ?_)
  obtain ⟨rfl, rv2, xv2⟩ := P4
  refine g_if_eq (n := 8) (tgt := 26) X dX12_settle_5 (by decide) (by omega) rfl (fun c5 => ?_) (fun c5 => ?_)
  · refine g_iconst (n := 27) X dX12_settle_26 rfl ?_
    exact hq _ _ _ _ dX12_settle_27 ⟨by omega, I, C, gFr.rf⟩
  · refine g_iload_n (n := 9) X 2 dX12_settle_8 rfl rfl rfl ?_
    refine g_iconst (n := 10) X dX12_settle_9 rfl ?_
    refine g_iconst (n := 11) X dX12_settle_10 rfl ?_
    refine g_callSi (n := 14) (As := [gJ b, gJ 0, gJ 1]) (rest := []) (cs1 := 0) (ss1 := 0) X (s_X12_in b (by omega) 0 (by omega) 1 (by omega) hsz I C ) okX12_in kw_6_106 kw_6_107 ⟨rfl, rfl⟩ ⟨Nat.le_of_ble_eq_true rfl, Nat.le_of_ble_eq_true rfl⟩ rfl rfl (Nat.le_of_ble_eq_true rfl) ⟨Nat.le_of_ble_eq_true rfl, Nat.le_of_ble_eq_true rfl⟩ rfl rfl dX12_settle_11 rfl (fun v6 M7 P8 => ?_)
    obtain ⟨rfl, rv6, xv6⟩ := P8
    refine g_if_eq (n := 17) (tgt := 26) X dX12_settle_14 (by decide) (by omega) rfl (fun c9 => ?_) (fun c9 => ?_)
    · refine g_iconst (n := 27) X dX12_settle_26 rfl ?_
      exact hq _ _ _ _ dX12_settle_27 ⟨by omega, I, C, gFr.rf⟩
    · refine g_aload_n (n := 18) X 0 dX12_settle_17 rfl rfl rfl ?_
      refine g_iload (n := 20) X 4 dX12_settle_18 rfl rfl ?_
      refine g_callVi (n := 23) (As := [gJ d]) (rest := []) (cs1 := 0) (ss1 := 0) X (s_X12_isBy d (by omega) hsz I C ) okX12_isBy kw_6_181 ⟨kw_6_183, kw_0_46⟩ ⟨rfl, rfl⟩ ⟨Nat.le_of_ble_eq_true rfl, Nat.le_of_ble_eq_true rfl⟩ rfl (by decide) (gsz hsz (by decide)) lay_190 rfl rfl (Nat.le_of_ble_eq_true rfl) ⟨Nat.le_of_ble_eq_true rfl, Nat.le_of_ble_eq_true rfl⟩ rfl rfl dX12_settle_20 rfl (fun v10 M11 P12 => ?_)
      obtain ⟨rfl, rv10, xv10⟩ := P12
      refine g_if_ne (n := 26) (tgt := 28) X dX12_settle_23 (by decide) (by omega) rfl (fun c13 => ?_) (fun c13 => ?_)
      · refine g_iload_n (n := 29) X 3 dX12_settle_28 rfl rfl rfl ?_
        refine g_sipush (n := 32) X dX12_settle_29 (by decide +kernel) rfl ?_
        refine g_sipush (n := 35) X dX12_settle_32 (by decide +kernel) rfl ?_
        refine g_callSi (n := 38) (As := [gJ c, gJ (-3000), gJ 300]) (rest := []) (cs1 := 0) (ss1 := 0) X (s_X12_in c (by omega) (-3000) (by omega) 300 (by omega) hsz I C ) okX12_in kw_6_106 kw_6_107 ⟨rfl, rfl⟩ ⟨Nat.le_of_ble_eq_true rfl, Nat.le_of_ble_eq_true rfl⟩ rfl rfl (Nat.le_of_ble_eq_true rfl) ⟨Nat.le_of_ble_eq_true rfl, Nat.le_of_ble_eq_true rfl⟩ rfl rfl dX12_settle_35 rfl (fun v14 M15 P16 => ?_)
        obtain ⟨rfl, rv14, xv14⟩ := P16
        refine g_if_eq (n := 41) (tgt := 53) X dX12_settle_38 (by decide) (by omega) rfl (fun c17 => ?_) (fun c17 => ?_)
        · refine g_bipush (n := 55) X dX12_settle_53 (by decide +kernel) rfl ?_
          exact hq _ _ _ _ dX12_settle_55 ⟨by omega, I, C, gFr.rf⟩
        · refine g_aload_n (n := 42) X 0 dX12_settle_41 rfl rfl rfl ?_
          refine g_iload_n (n := 43) X 1 dX12_settle_42 rfl rfl rfl ?_
          refine g_iload_n (n := 44) X 2 dX12_settle_43 rfl rfl rfl ?_
          refine g_iload_n (n := 45) X 3 dX12_settle_44 rfl rfl rfl ?_
          refine g_iload (n := 47) X 4 dX12_settle_45 rfl rfl ?_
          refine g_callVi (n := 50) (As := [gJ a, gJ b, gJ c, gJ d]) (rest := []) (cs1 := 0) (ss1 := 0) X (s_X12_byBench a (by omega) b (by omega) c (by omega) d (by omega) hsz I C W (by have q2 := hv1; omega)) okX12_byBench kw_6_185 ⟨kw_6_187, kw_0_47⟩ ⟨rfl, rfl⟩ ⟨Nat.le_of_ble_eq_true rfl, Nat.le_of_ble_eq_true rfl⟩ rfl (by decide) (gsz hsz (by decide)) lay_190 rfl rfl (Nat.le_of_ble_eq_true rfl) ⟨Nat.le_of_ble_eq_true rfl, Nat.le_of_ble_eq_true rfl⟩ rfl rfl dX12_settle_47 rfl (fun v18 M19 P20 => ?_)
          obtain ⟨rv18, IM19, CM19, FM19, xM19⟩ := P20
          refine g_goto (tgt := 55) X dX12_settle_50 (by decide) ?_
          exact hq _ _ _ _ dX12_settle_55 ⟨by omega, IM19, CM19, (gFr.c gFr.rf FM19 rfl)⟩
      · refine g_iconst (n := 27) X dX12_settle_26 rfl ?_
        exact hq _ _ _ _ dX12_settle_27 ⟨by omega, I, C, gFr.rf⟩
theorem dX12_maybeOf_0 : decode cX12_maybeOf 0 = .ok (.iconst 0, 1) := dc_3 (by decide +kernel)
theorem dX12_maybeOf_1 : decode cX12_maybeOf 1 = .ok (.istore 6, 2) := dc_54 6 (by decide +kernel)
theorem dX12_maybeOf_3 : decode cX12_maybeOf 3 = .ok (.iconst 0, 1) := dc_3 (by decide +kernel)
theorem dX12_maybeOf_4 : decode cX12_maybeOf 4 = .ok (.istore 7, 2) := dc_54 7 (by decide +kernel)
theorem dX12_maybeOf_6 : decode cX12_maybeOf 6 = .ok (.iload 7, 2) := dc_21 7 (by decide +kernel)
theorem dX12_maybeOf_8 : decode cX12_maybeOf 8 = .ok (.iconst 1, 1) := dc_4 (by decide +kernel)
theorem dX12_maybeOf_9 : decode cX12_maybeOf 9 = .ok (.iload_n 3, 1) := dc_29 (by decide +kernel)
theorem dX12_maybeOf_10 : decode cX12_maybeOf 10 = .ok (.ishl, 1) := dc_120 (by decide +kernel)
theorem dX12_maybeOf_11 : decode cX12_maybeOf 11 = .ok (.if_icmp .ge 129, 3) := dc_162 0 129 129 (by decide +kernel)
theorem dX12_maybeOf_140 : decode cX12_maybeOf 140 = .ok (.iload 6, 2) := dc_21 6 (by decide +kernel)
theorem dX12_maybeOf_142 : decode cX12_maybeOf 142 = .ok (.ireturn, 1) := dc_172 (by decide +kernel)
theorem dX12_maybeOf_14 : decode cX12_maybeOf 14 = .ok (.iconst 1, 1) := dc_4 (by decide +kernel)
theorem dX12_maybeOf_15 : decode cX12_maybeOf 15 = .ok (.istore 8, 2) := dc_54 8 (by decide +kernel)
theorem dX12_maybeOf_17 : decode cX12_maybeOf 17 = .ok (.iconst 0, 1) := dc_3 (by decide +kernel)
theorem dX12_maybeOf_18 : decode cX12_maybeOf 18 = .ok (.istore 9, 2) := dc_54 9 (by decide +kernel)
theorem dX12_maybeOf_20 : decode cX12_maybeOf 20 = .ok (.iload 9, 2) := dc_21 9 (by decide +kernel)
theorem dX12_maybeOf_22 : decode cX12_maybeOf 22 = .ok (.iload_n 3, 1) := dc_29 (by decide +kernel)
theorem dX12_maybeOf_23 : decode cX12_maybeOf 23 = .ok (.if_icmp .ge 73, 3) := dc_162 0 73 73 (by decide +kernel)
theorem dX12_maybeOf_96 : decode cX12_maybeOf 96 = .ok (.iload 8, 2) := dc_21 8 (by decide +kernel)
theorem dX12_maybeOf_98 : decode cX12_maybeOf 98 = .ok (.ifCond .eq 12, 3) := dc_153 0 12 12 (by decide +kernel)
theorem dX12_maybeOf_101 : decode cX12_maybeOf 101 = .ok (.aload_n 0, 1) := dc_42 (by decide +kernel)
theorem dX12_maybeOf_102 : decode cX12_maybeOf 102 = .ok (.iload_n 1, 1) := dc_27 (by decide +kernel)
theorem dX12_maybeOf_103 : decode cX12_maybeOf 103 = .ok (.iload_n 2, 1) := dc_28 (by decide +kernel)
theorem dX12_maybeOf_104 : decode cX12_maybeOf 104 = .ok (.invokevirtual 104, 3) := dc_182 0 104 (by decide +kernel)
theorem dX12_maybeOf_107 : decode cX12_maybeOf 107 = .ok (.goto 5, 3) := dc_167 0 5 5 (by decide +kernel)
theorem dX12_maybeOf_112 : decode cX12_maybeOf 112 = .ok (.istore 9, 2) := dc_54 9 (by decide +kernel)
theorem dX12_maybeOf_114 : decode cX12_maybeOf 114 = .ok (.iload 6, 2) := dc_21 6 (by decide +kernel)
theorem dX12_maybeOf_116 : decode cX12_maybeOf 116 = .ok (.iload 9, 2) := dc_21 9 (by decide +kernel)
theorem dX12_maybeOf_118 : decode cX12_maybeOf 118 = .ok (.bipush (-5), 2) := dc_16 251 (-5) (by decide +kernel)
theorem dX12_maybeOf_120 : decode cX12_maybeOf 120 = .ok (.if_icmp .ne 7, 3) := dc_160 0 7 7 (by decide +kernel)
theorem dX12_maybeOf_127 : decode cX12_maybeOf 127 = .ok (.iconst 1, 1) := dc_4 (by decide +kernel)
theorem dX12_maybeOf_128 : decode cX12_maybeOf 128 = .ok (.iload 9, 2) := dc_21 9 (by decide +kernel)
theorem dX12_maybeOf_130 : decode cX12_maybeOf 130 = .ok (.ishl, 1) := dc_120 (by decide +kernel)
theorem dX12_maybeOf_131 : decode cX12_maybeOf 131 = .ok (.ior, 1) := dc_128 (by decide +kernel)
theorem dX12_maybeOf_132 : decode cX12_maybeOf 132 = .ok (.istore 6, 2) := dc_54 6 (by decide +kernel)
theorem dX12_maybeOf_134 : decode cX12_maybeOf 134 = .ok (.iinc 7 1, 3) := dc_132 7 1 1 (by decide +kernel)
theorem dX12_maybeOf_137 : decode cX12_maybeOf 137 = .ok (.goto (-131), 3) := dc_167 255 125 (-131) (by decide +kernel)
theorem dX12_maybeOf_123 : decode cX12_maybeOf 123 = .ok (.iconst 0, 1) := dc_3 (by decide +kernel)
theorem dX12_maybeOf_124 : decode cX12_maybeOf 124 = .ok (.goto 7, 3) := dc_167 0 7 7 (by decide +kernel)
theorem dX12_maybeOf_26 : decode cX12_maybeOf 26 = .ok (.aload_n 0, 1) := dc_42 (by decide +kernel)
theorem dX12_maybeOf_27 : decode cX12_maybeOf 27 = .ok (.getfield 28, 3) := dc_180 0 28 (by decide +kernel)
theorem dX12_maybeOf_30 : decode cX12_maybeOf 30 = .ok (.aload_n 0, 1) := dc_42 (by decide +kernel)
theorem dX12_maybeOf_31 : decode cX12_maybeOf 31 = .ok (.getfield 32, 3) := dc_180 0 32 (by decide +kernel)
theorem kw_6_36 : (Jvm.Cond.fieldLink "ParishUnionModel" (32 : Nat) "ParishUnionModel" "may" "[I") ∈ gT := gT_of (tb_6 _ (List.mem_of_getElem? (i := 36) rfl)) rfl
theorem rf_190_10 {sz : Nat} {M : gM} (I : gI sz M) (h : (190 : Int) < (sz : Int)) : M 190 10 = 198 + 1 := gI.rf I (by decide) h (by decide +kernel)
theorem dX12_maybeOf_34 : decode cX12_maybeOf 34 = .ok (.iload 9, 2) := dc_21 9 (by decide +kernel)
theorem dX12_maybeOf_36 : decode cX12_maybeOf 36 = .ok (.iaload, 1) := dc_46 (by decide +kernel)
theorem ra_198 (k : Int) : gRg 198 k = (0, 39) ∧ gCr 198 k = false ∧ gG 198 k = 65 := ⟨rfl, rfl, rfl⟩
theorem dX12_maybeOf_37 : decode cX12_maybeOf 37 = .ok (.iload 7, 2) := dc_21 7 (by decide +kernel)
theorem dX12_maybeOf_39 : decode cX12_maybeOf 39 = .ok (.iload 9, 2) := dc_21 9 (by decide +kernel)
theorem dX12_maybeOf_41 : decode cX12_maybeOf 41 = .ok (.ishr, 1) := dc_122 (by decide +kernel)
theorem dX12_maybeOf_42 : decode cX12_maybeOf 42 = .ok (.iconst 1, 1) := dc_4 (by decide +kernel)
theorem dX12_maybeOf_43 : decode cX12_maybeOf 43 = .ok (.iand, 1) := dc_126 (by decide +kernel)
theorem dX12_maybeOf_44 : decode cX12_maybeOf 44 = .ok (.iconst 1, 1) := dc_4 (by decide +kernel)
theorem dX12_maybeOf_45 : decode cX12_maybeOf 45 = .ok (.if_icmp .ne 7, 3) := dc_160 0 7 7 (by decide +kernel)
theorem dX12_maybeOf_52 : decode cX12_maybeOf 52 = .ok (.iconst 0, 1) := dc_3 (by decide +kernel)
theorem dX12_maybeOf_53 : decode cX12_maybeOf 53 = .ok (.bastore, 1) := dc_84 (by decide +kernel)
theorem dX12_maybeOf_54 : decode cX12_maybeOf 54 = .ok (.iload 8, 2) := dc_21 8 (by decide +kernel)
theorem dX12_maybeOf_56 : decode cX12_maybeOf 56 = .ok (.ifCond .eq 31, 3) := dc_153 0 31 31 (by decide +kernel)
theorem dX12_maybeOf_59 : decode cX12_maybeOf 59 = .ok (.aload_n 0, 1) := dc_42 (by decide +kernel)
theorem dX12_maybeOf_60 : decode cX12_maybeOf 60 = .ok (.getfield 32, 3) := dc_180 0 32 (by decide +kernel)
theorem dX12_maybeOf_63 : decode cX12_maybeOf 63 = .ok (.iload 9, 2) := dc_21 9 (by decide +kernel)
theorem dX12_maybeOf_65 : decode cX12_maybeOf 65 = .ok (.iaload, 1) := dc_46 (by decide +kernel)
theorem dX12_maybeOf_66 : decode cX12_maybeOf 66 = .ok (.iload 4, 2) := dc_21 4 (by decide +kernel)
theorem dX12_maybeOf_68 : decode cX12_maybeOf 68 = .ok (.if_icmp .ne 15, 3) := dc_160 0 15 15 (by decide +kernel)
theorem dX12_maybeOf_83 : decode cX12_maybeOf 83 = .ok (.iconst 1, 1) := dc_4 (by decide +kernel)
theorem dX12_maybeOf_84 : decode cX12_maybeOf 84 = .ok (.goto 4, 3) := dc_167 0 4 4 (by decide +kernel)
theorem dX12_maybeOf_88 : decode cX12_maybeOf 88 = .ok (.istore 8, 2) := dc_54 8 (by decide +kernel)
theorem dX12_maybeOf_90 : decode cX12_maybeOf 90 = .ok (.iinc 9 1, 3) := dc_132 9 1 1 (by decide +kernel)
theorem dX12_maybeOf_93 : decode cX12_maybeOf 93 = .ok (.goto (-73), 3) := dc_167 255 183 (-73) (by decide +kernel)
theorem dX12_maybeOf_71 : decode cX12_maybeOf 71 = .ok (.iload 7, 2) := dc_21 7 (by decide +kernel)
theorem dX12_maybeOf_73 : decode cX12_maybeOf 73 = .ok (.iload 9, 2) := dc_21 9 (by decide +kernel)
theorem dX12_maybeOf_75 : decode cX12_maybeOf 75 = .ok (.ishr, 1) := dc_122 (by decide +kernel)
theorem dX12_maybeOf_76 : decode cX12_maybeOf 76 = .ok (.iconst 1, 1) := dc_4 (by decide +kernel)
theorem dX12_maybeOf_77 : decode cX12_maybeOf 77 = .ok (.iand, 1) := dc_126 (by decide +kernel)
theorem dX12_maybeOf_78 : decode cX12_maybeOf 78 = .ok (.iload 5, 2) := dc_21 5 (by decide +kernel)
theorem dX12_maybeOf_80 : decode cX12_maybeOf 80 = .ok (.if_icmp .ne 7, 3) := dc_160 0 7 7 (by decide +kernel)
theorem dX12_maybeOf_87 : decode cX12_maybeOf 87 = .ok (.iconst 0, 1) := dc_3 (by decide +kernel)
theorem dX12_maybeOf_48 : decode cX12_maybeOf 48 = .ok (.iconst 1, 1) := dc_4 (by decide +kernel)
theorem dX12_maybeOf_49 : decode cX12_maybeOf 49 = .ok (.goto 4, 3) := dc_167 0 4 4 (by decide +kernel)
theorem dX12_maybeOf_110 : decode cX12_maybeOf 110 = .ok (.bipush (-5), 2) := dc_16 251 (-5) (by decide +kernel)
abbrev R_X12_maybeOf : Room := { frames := 73, cells := 0, slots := 0, locals := 2965 }
set_option maxRecDepth 100000 in
set_option maxHeartbeats 4000000 in
theorem s_X12_maybeOf {l : Launch} {n0 : Nat} {D : va_G} {cA : Nat → ClassId} {M : gM} (a : Int) (r_a : 0 ≤ a ∧ a ≤ 15) (b : Int) (r_b : -3000 ≤ b ∧ b ≤ 300) (c : Int) (r_c : 0 ≤ c ∧ c ≤ 10) (d : Int) (r_d : -2147483648 ≤ d ∧ d ≤ 2147483647) (f : Int) (r_f : -2147483648 ≤ f ∧ f ≤ 2147483647) {sz : Nat} (hsz : 206 ≤ sz) (I : gI sz M) (C : gC sz M) (W : gW 191 M) (hp : a < M 191 1)  : Met l yX12_maybeOf (gWsOf yX12_maybeOf cX12_maybeOf 10 (Option.some Jvm.ClassFile.FieldType.int)) R_X12_maybeOf (gPc n0 D cA [gA n0 190, gJ a, gJ b, gJ c, gJ d, gJ f] M sz) (gQi n0 D cA sz (fun z M1 => (-2147483648 ≤ z ∧ z ≤ 2147483647) ∧ gI sz M1 ∧ gC sz M1 ∧ gFr 36893488147419103232 M M1)) 0 0 (fun q => n0 ≤ q) := by
  refine gMetI [gA n0 190, gJ a, gJ b, gJ c, gJ d, gJ f] (by decide) (Nat.le_of_ble_eq_true rfl) ⟨rfl, rfl⟩ ?_
  intro p e s m args below meth cd Q X hq
  have X : gCx p s m args meth cd n0 D cA "ParishUnionModel" cX12_maybeOf 10 := X
  show G p l e R_X12_maybeOf s m args below meth cd n0 D cA 10 Q 0 0 M sz 0 [(0, gA n0 190), (1, gJ a), (2, gJ b), (3, gJ c), (4, gJ d), (5, gJ f)] []
  obtain ⟨v1, hv1, rv1⟩ := gRd I (by decide) (gsz hsz (by decide)) (rs_PERS (k := 1) (by omega)).1
  refine g_iconst (n := 1) X dX12_maybeOf_0 rfl ?_
  refine g_istore (n := 3) (L' := [(6, gJ 0), (0, gA n0 190), (1, gJ a), (2, gJ b), (3, gJ c), (4, gJ d), (5, gJ f)]) X dX12_maybeOf_1 (by decide) rfl rfl ?_
  refine g_iconst (n := 4) X dX12_maybeOf_3 rfl ?_
  refine g_istore (n := 6) (L' := [(7, gJ 0), (6, gJ 0), (0, gA n0 190), (1, gJ a), (2, gJ b), (3, gJ c), (4, gJ d), (5, gJ f)]) X dX12_maybeOf_4 (by decide) rfl rfl ?_
  have j5 : ∀ (N1887 : Nat) (v2 v3 : Int) (M4 : gM) , (-2147483648 ≤ v2 ∧ v2 ≤ 2147483647) → (0 ≤ v3 ∧ v3 ≤ 2147483647) → gI sz M4 → gC sz M4 → gFr 36893488147419103232 M M4 → (2147483647 - v3).toNat < N1887 → G p l e R_X12_maybeOf s m args below meth cd n0 D cA 10 Q 0 0 M4 sz 6 [(0, gA n0 190), (1, gJ a), (2, gJ b), (3, gJ c), (4, gJ d), (5, gJ f), (6, gJ v2), (7, gJ v3)] [] := by
    intro N1887; induction N1887 with
    | zero => intro v2 v3 M4 rv2 rv3 IM4 CM4 FM4 hm1889; exfalso; omega
    | succ N1887 ih1888 =>
      intro v2 v3 M4 rv2 rv3 IM4 CM4 FM4 hm1889
      refine g_iload (n := 8) X 7 dX12_maybeOf_6 rfl rfl ?_
      refine g_iconst (n := 9) X dX12_maybeOf_8 rfl ?_
      refine g_iload_n (n := 10) X 3 dX12_maybeOf_9 rfl rfl rfl ?_
      refine g_ishlA (n := 11) X dX12_maybeOf_10 rfl (fun v1890 rv1890 xv1890 => ?_)
      clear xv1890
      refine g_icmp_ge (n := 14) (tgt := 140) X dX12_maybeOf_11 (by decide) (by omega) (by omega) rfl (fun c1891 => ?_) (fun c1891 => ?_)
      · refine g_iload (n := 142) X 6 dX12_maybeOf_140 rfl rfl ?_
        exact hq _ _ _ _ dX12_maybeOf_142 ⟨by omega, IM4, CM4, (gFr.c gFr.rf FM4 rfl)⟩
      · refine g_iconst (n := 15) X dX12_maybeOf_14 rfl ?_
        refine g_istore (n := 17) (L' := [(8, gJ 1), (0, gA n0 190), (1, gJ a), (2, gJ b), (3, gJ c), (4, gJ d), (5, gJ f), (6, gJ v2), (7, gJ v3)]) X dX12_maybeOf_15 (by decide) rfl rfl ?_
        refine g_iconst (n := 18) X dX12_maybeOf_17 rfl ?_
        refine g_istore (n := 20) (L' := [(9, gJ 0), (8, gJ 1), (0, gA n0 190), (1, gJ a), (2, gJ b), (3, gJ c), (4, gJ d), (5, gJ f), (6, gJ v2), (7, gJ v3)]) X dX12_maybeOf_18 (by decide) rfl rfl ?_
        have j1895 : ∀ (N2030 : Nat) (v1892 v1893 : Int) (M1894 : gM) , (0 ≤ v1892 ∧ v1892 ≤ 1) → (0 ≤ v1893 ∧ v1893 ≤ 10) → gI sz M1894 → gC sz M1894 → gFr 36893488147419103232 M4 M1894 → (10 - v1893).toNat < N2030 → G p l e R_X12_maybeOf s m args below meth cd n0 D cA 10 Q 0 0 M1894 sz 20 [(0, gA n0 190), (1, gJ a), (2, gJ b), (3, gJ c), (4, gJ d), (5, gJ f), (6, gJ v2), (7, gJ v3), (8, gJ v1892), (9, gJ v1893)] [] := by
          intro N2030; induction N2030 with
          | zero => intro v1892 v1893 M1894 rv1892 rv1893 IM1894 CM1894 FM1894 hm2032; exfalso; omega
          | succ N2030 ih2031 =>
            intro v1892 v1893 M1894 rv1892 rv1893 IM1894 CM1894 FM1894 hm2032
            refine g_iload (n := 22) X 9 dX12_maybeOf_20 rfl rfl ?_
            refine g_iload_n (n := 23) X 3 dX12_maybeOf_22 rfl rfl rfl ?_
            refine g_icmp_ge (n := 26) (tgt := 96) X dX12_maybeOf_23 (by decide) (by omega) (by omega) rfl (fun c2033 => ?_) (fun c2033 => ?_)
            · refine g_iload (n := 98) X 8 dX12_maybeOf_96 rfl rfl ?_
              refine g_if_eq (n := 101) (tgt := 110) X dX12_maybeOf_98 (by decide) (by omega) rfl (fun c2034 => ?_) (fun c2034 => ?_)
              · refine g_bipush (n := 112) X dX12_maybeOf_110 (by decide +kernel) rfl ?_
                refine g_istore (n := 114) (L' := [(9, gJ (-5)), (0, gA n0 190), (1, gJ a), (2, gJ b), (3, gJ c), (4, gJ d), (5, gJ f), (6, gJ v2), (7, gJ v3), (8, gJ v1892)]) X dX12_maybeOf_112 (by decide) rfl rfl ?_
                refine g_iload (n := 116) X 7 dX12_maybeOf_114 rfl rfl ?_
                refine g_iload (n := 118) X 0 dX12_maybeOf_116 rfl rfl ?_
                refine g_bipush (n := 120) X dX12_maybeOf_118 (by decide +kernel) rfl ?_
                refine g_icmp_ne (n := 123) (tgt := 127) X dX12_maybeOf_120 (by decide) (by omega) (by omega) rfl (fun c2035 => by exfalso; omega) (fun c2035 => ?_)
                refine g_iconst (n := 124) X dX12_maybeOf_123 rfl ?_
                refine g_goto (tgt := 131) X dX12_maybeOf_124 (by decide) ?_
                refine g_iorE (n := 132) (z := v2) X dX12_maybeOf_131 (gi_or0 _) rfl ?_
                refine g_istore (n := 134) (L' := [(6, gJ v2), (9, gJ (-5)), (0, gA n0 190), (1, gJ a), (2, gJ b), (3, gJ c), (4, gJ d), (5, gJ f), (7, gJ v3), (8, gJ v1892)]) X dX12_maybeOf_132 (by decide) rfl rfl ?_
                refine g_iinc (n := 137) (w := v3 + 1) (L' := [(7, gJ (v3 + 1)), (6, gJ v2), (9, gJ (-5)), (0, gA n0 190), (1, gJ a), (2, gJ b), (3, gJ c), (4, gJ d), (5, gJ f), (8, gJ v1892)]) X 8 dX12_maybeOf_134 rfl rfl (by decide) rfl rfl ?_
                refine g_goto (tgt := 6) X dX12_maybeOf_137 (by decide) ?_
                refine G.sub (L' := [(0, gA n0 190), (1, gJ a), (2, gJ b), (3, gJ c), (4, gJ d), (5, gJ f), (6, gJ v2), (7, gJ (v3 + 1))]) [3, 4, 5, 6, 7, 8, 1, 0] rfl ?_
                exact ih1888 v2 (v3 + 1) M1894 (by omega) (by omega) IM1894 CM1894 (gFr.c (gFr.c gFr.rf FM4 rfl) FM1894 rfl) (by omega)
              · refine g_aload_n (n := 102) X 0 dX12_maybeOf_101 rfl rfl rfl ?_
                refine g_iload_n (n := 103) X 1 dX12_maybeOf_102 rfl rfl rfl ?_
                refine g_iload_n (n := 104) X 2 dX12_maybeOf_103 rfl rfl rfl ?_
                refine g_callVi (n := 107) (As := [gJ a, gJ b]) (rest := []) (cs1 := 0) (ss1 := 0) X (s_X12_whose a (by omega) b (by omega) hsz IM1894 CM1894 (gW.fr (S := 36893488147419103232) W ⟨sz, hsz, I⟩ (gFr.c (gFr.c gFr.rf FM4 rfl) FM1894 rfl) rfl) (by have q2 := ((gFr.at FM1894 (rs_PERS (k := 1) (by omega)).2.2 rfl).trans ((gFr.at FM4 (rs_PERS (k := 1) (by omega)).2.2 rfl).trans hv1)); omega)) okX12_whose kw_6_189 ⟨kw_6_191, kw_0_48⟩ ⟨rfl, rfl⟩ ⟨Nat.le_of_ble_eq_true rfl, Nat.le_of_ble_eq_true rfl⟩ rfl (by decide) (gsz hsz (by decide)) lay_190 rfl rfl (Nat.le_of_ble_eq_true rfl) ⟨Nat.le_of_ble_eq_true rfl, Nat.le_of_ble_eq_true rfl⟩ rfl rfl dX12_maybeOf_104 rfl (fun v2036 M2037 P2038 => ?_)
                obtain ⟨rfl, rv2036, xv2036⟩ := P2038
                refine g_goto (tgt := 112) X dX12_maybeOf_107 (by decide) ?_
                refine g_istore (n := 114) (L' := [(9, gJ v2036), (0, gA n0 190), (1, gJ a), (2, gJ b), (3, gJ c), (4, gJ d), (5, gJ f), (6, gJ v2), (7, gJ v3), (8, gJ v1892)]) X dX12_maybeOf_112 (by decide) rfl rfl ?_
                refine g_iload (n := 116) X 7 dX12_maybeOf_114 rfl rfl ?_
                refine g_iload (n := 118) X 0 dX12_maybeOf_116 rfl rfl ?_
                refine g_bipush (n := 120) X dX12_maybeOf_118 (by decide +kernel) rfl ?_
                refine g_icmp_ne (n := 123) (tgt := 127) X dX12_maybeOf_120 (by decide) (by omega) (by omega) rfl (fun c2039 => ?_) (fun c2039 => ?_)
                · refine g_iconst (n := 128) X dX12_maybeOf_127 rfl ?_
                  refine g_iload (n := 130) X 0 dX12_maybeOf_128 rfl rfl ?_
                  refine g_ishlA (n := 131) X dX12_maybeOf_130 rfl (fun v2040 rv2040 xv2040 => ?_)
                  clear xv2040
                  refine g_iorA (n := 132) X dX12_maybeOf_131 rfl (fun v2041 rv2041 xv2041 => ?_)
                  clear xv2041
                  refine g_istore (n := 134) (L' := [(6, gJ v2041), (9, gJ v2036), (0, gA n0 190), (1, gJ a), (2, gJ b), (3, gJ c), (4, gJ d), (5, gJ f), (7, gJ v3), (8, gJ v1892)]) X dX12_maybeOf_132 (by decide) rfl rfl ?_
                  refine g_iinc (n := 137) (w := v3 + 1) (L' := [(7, gJ (v3 + 1)), (6, gJ v2041), (9, gJ v2036), (0, gA n0 190), (1, gJ a), (2, gJ b), (3, gJ c), (4, gJ d), (5, gJ f), (8, gJ v1892)]) X 8 dX12_maybeOf_134 rfl rfl (by decide) rfl rfl ?_
                  refine g_goto (tgt := 6) X dX12_maybeOf_137 (by decide) ?_
                  refine G.sub (L' := [(0, gA n0 190), (1, gJ a), (2, gJ b), (3, gJ c), (4, gJ d), (5, gJ f), (6, gJ v2041), (7, gJ (v3 + 1))]) [3, 4, 5, 6, 7, 8, 1, 0] rfl ?_
                  exact ih1888 v2041 (v3 + 1) M1894 (by omega) (by omega) IM1894 CM1894 (gFr.c (gFr.c gFr.rf FM4 rfl) FM1894 rfl) (by omega)
                · refine g_iconst (n := 124) X dX12_maybeOf_123 rfl ?_
                  refine g_goto (tgt := 131) X dX12_maybeOf_124 (by decide) ?_
                  refine g_iorE (n := 132) (z := v2) X dX12_maybeOf_131 (gi_or0 _) rfl ?_
                  refine g_istore (n := 134) (L' := [(6, gJ v2), (9, gJ v2036), (0, gA n0 190), (1, gJ a), (2, gJ b), (3, gJ c), (4, gJ d), (5, gJ f), (7, gJ v3), (8, gJ v1892)]) X dX12_maybeOf_132 (by decide) rfl rfl ?_
                  refine g_iinc (n := 137) (w := v3 + 1) (L' := [(7, gJ (v3 + 1)), (6, gJ v2), (9, gJ v2036), (0, gA n0 190), (1, gJ a), (2, gJ b), (3, gJ c), (4, gJ d), (5, gJ f), (8, gJ v1892)]) X 8 dX12_maybeOf_134 rfl rfl (by decide) rfl rfl ?_
                  refine g_goto (tgt := 6) X dX12_maybeOf_137 (by decide) ?_
                  refine G.sub (L' := [(0, gA n0 190), (1, gJ a), (2, gJ b), (3, gJ c), (4, gJ d), (5, gJ f), (6, gJ v2), (7, gJ (v3 + 1))]) [3, 4, 5, 6, 7, 8, 1, 0] rfl ?_
                  exact ih1888 v2 (v3 + 1) M1894 (by omega) (by omega) IM1894 CM1894 (gFr.c (gFr.c gFr.rf FM4 rfl) FM1894 rfl) (by omega)
            · refine g_aload_n (n := 27) X 0 dX12_maybeOf_26 rfl rfl rfl ?_
              refine gg_12_9 (n := 30) (z := 197) X (by decide) (gsz hsz (by decide)) lay_190 kw_6_35 dX12_maybeOf_27 rfl (rf_190_9 IM1894 (gsz hsz (by decide))) (by decide) ?_
              refine g_aload_n (n := 31) X 0 dX12_maybeOf_30 rfl rfl rfl ?_
              refine gg_12_10 (n := 34) (z := 198) X (by decide) (gsz hsz (by decide)) lay_190 kw_6_36 dX12_maybeOf_31 rfl (rf_190_10 IM1894 (gsz hsz (by decide))) (by decide) ?_
              refine g_iload (n := 36) X 9 dX12_maybeOf_34 rfl rfl ?_
              obtain ⟨v2042, hv2042, rv2042⟩ := gRd IM1894 (by decide) (gsz hsz (by decide)) (ra_198 v1893).1
              refine g_iald2 (n := 37) (v := v2042) X (by decide) (gsz hsz (by decide)) lay_198 (by omega) (by omega) (by decide) dX12_maybeOf_36 rfl hv2042 ?_
              refine g_iload (n := 39) X 7 dX12_maybeOf_37 rfl rfl ?_
              refine g_iload (n := 41) X 9 dX12_maybeOf_39 rfl rfl ?_
              refine g_ishrA (n := 42) X dX12_maybeOf_41 rfl (fun v2043 rv2043 xv2043 => ?_)
              clear xv2043
              refine g_iconst (n := 43) X dX12_maybeOf_42 rfl ?_
              refine g_iandC (n := 44) X dX12_maybeOf_43 (by decide) rfl (fun v2044 rv2044 xv2044 => ?_)
              clear xv2044
              refine g_iconst (n := 45) X dX12_maybeOf_44 rfl ?_
              refine g_icmp_ne (n := 48) (tgt := 52) X dX12_maybeOf_45 (by decide) (by omega) (by omega) rfl (fun c2045 => ?_) (fun c2045 => ?_)
              · refine g_iconst (n := 53) X dX12_maybeOf_52 rfl ?_
                refine g_zast (n := 54) (z := 0) X (by decide) (gsz hsz (by decide)) lay_197 (by omega) (by omega) (by decide) (g_zn (by omega)) dX12_maybeOf_53 rfl ?_
                refine G.nm (fun M2046 e2047 => ?_)
                have IM2046 : gI sz M2046 := gI.set IM1894 (ra_197 v2042).1 (by omega) e2047
                have CM2046 : gC sz M2046 := gC.set CM1894 (ra_197 v2042).2.1 e2047
                refine g_iload (n := 56) X 8 dX12_maybeOf_54 rfl rfl ?_
                refine g_if_eq (n := 59) (tgt := 87) X dX12_maybeOf_56 (by decide) (by omega) rfl (fun c2048 => ?_) (fun c2048 => ?_)
                · refine g_iconst (n := 88) X dX12_maybeOf_87 rfl ?_
                  refine g_istore (n := 90) (L' := [(8, gJ 0), (0, gA n0 190), (1, gJ a), (2, gJ b), (3, gJ c), (4, gJ d), (5, gJ f), (6, gJ v2), (7, gJ v3), (9, gJ v1893)]) X dX12_maybeOf_88 (by decide) rfl rfl ?_
                  refine g_iinc (n := 93) (w := v1893 + 1) (L' := [(9, gJ (v1893 + 1)), (8, gJ 0), (0, gA n0 190), (1, gJ a), (2, gJ b), (3, gJ c), (4, gJ d), (5, gJ f), (6, gJ v2), (7, gJ v3)]) X 9 dX12_maybeOf_90 rfl rfl (by decide) rfl rfl ?_
                  refine g_goto (tgt := 20) X dX12_maybeOf_93 (by decide) ?_
                  refine G.sub (L' := [(0, gA n0 190), (1, gJ a), (2, gJ b), (3, gJ c), (4, gJ d), (5, gJ f), (6, gJ v2), (7, gJ v3), (8, gJ 0), (9, gJ (v1893 + 1))]) [2, 3, 4, 5, 6, 7, 8, 9, 1, 0] rfl ?_
                  exact ih2031 0 (v1893 + 1) M2046 (by omega) (by omega) IM2046 CM2046 (gFr.s (gFr.c gFr.rf FM1894 rfl) e2047 (ra_197 v2042).2.2 rfl) (by omega)
                · refine g_aload_n (n := 60) X 0 dX12_maybeOf_59 rfl rfl rfl ?_
                  refine gg_12_10 (n := 63) (z := 198) X (by decide) (gsz hsz (by decide)) lay_190 kw_6_36 dX12_maybeOf_60 rfl (rf_190_10 IM2046 (gsz hsz (by decide))) (by decide) ?_
                  refine g_iload (n := 65) X 9 dX12_maybeOf_63 rfl rfl ?_
                  refine g_iald2 (n := 66) (v := v2042) X (by decide) (gsz hsz (by decide)) lay_198 (by omega) (by omega) (by decide) dX12_maybeOf_65 rfl ((congrFun (congrFun e2047 _) _).trans ((gset_ne (by omega)).trans hv2042)) ?_
                  refine g_iload (n := 68) X 4 dX12_maybeOf_66 rfl rfl ?_
                  refine g_icmp_ne (n := 71) (tgt := 83) X dX12_maybeOf_68 (by decide) (by omega) (by omega) rfl (fun c2049 => ?_) (fun c2049 => ?_)
                  · refine g_iconst (n := 84) X dX12_maybeOf_83 rfl ?_
                    refine g_goto (tgt := 88) X dX12_maybeOf_84 (by decide) ?_
                    refine g_istore (n := 90) (L' := [(8, gJ 1), (0, gA n0 190), (1, gJ a), (2, gJ b), (3, gJ c), (4, gJ d), (5, gJ f), (6, gJ v2), (7, gJ v3), (9, gJ v1893)]) X dX12_maybeOf_88 (by decide) rfl rfl ?_
                    refine g_iinc (n := 93) (w := v1893 + 1) (L' := [(9, gJ (v1893 + 1)), (8, gJ 1), (0, gA n0 190), (1, gJ a), (2, gJ b), (3, gJ c), (4, gJ d), (5, gJ f), (6, gJ v2), (7, gJ v3)]) X 9 dX12_maybeOf_90 rfl rfl (by decide) rfl rfl ?_
                    refine g_goto (tgt := 20) X dX12_maybeOf_93 (by decide) ?_
                    refine G.sub (L' := [(0, gA n0 190), (1, gJ a), (2, gJ b), (3, gJ c), (4, gJ d), (5, gJ f), (6, gJ v2), (7, gJ v3), (8, gJ 1), (9, gJ (v1893 + 1))]) [2, 3, 4, 5, 6, 7, 8, 9, 1, 0] rfl ?_
                    exact ih2031 1 (v1893 + 1) M2046 (by omega) (by omega) IM2046 CM2046 (gFr.s (gFr.c gFr.rf FM1894 rfl) e2047 (ra_197 v2042).2.2 rfl) (by omega)
                  · refine g_iload (n := 73) X 7 dX12_maybeOf_71 rfl rfl ?_
                    refine g_iload (n := 75) X 9 dX12_maybeOf_73 rfl rfl ?_
                    refine g_ishrA (n := 76) X dX12_maybeOf_75 rfl (fun v2050 rv2050 xv2050 => ?_)
                    clear xv2050
                    refine g_iconst (n := 77) X dX12_maybeOf_76 rfl ?_
                    refine g_iandC (n := 78) X dX12_maybeOf_77 (by decide) rfl (fun v2051 rv2051 xv2051 => ?_)
                    clear xv2051
                    refine g_iload (n := 80) X 5 dX12_maybeOf_78 rfl rfl ?_
                    refine g_icmp_ne (n := 83) (tgt := 87) X dX12_maybeOf_80 (by decide) (by omega) (by omega) rfl (fun c2052 => ?_) (fun c2052 => ?_)
                    · refine g_iconst (n := 88) X dX12_maybeOf_87 rfl ?_
                      refine g_istore (n := 90) (L' := [(8, gJ 0), (0, gA n0 190), (1, gJ a), (2, gJ b), (3, gJ c), (4, gJ d), (5, gJ f), (6, gJ v2), (7, gJ v3), (9, gJ v1893)]) X dX12_maybeOf_88 (by decide) rfl rfl ?_
                      refine g_iinc (n := 93) (w := v1893 + 1) (L' := [(9, gJ (v1893 + 1)), (8, gJ 0), (0, gA n0 190), (1, gJ a), (2, gJ b), (3, gJ c), (4, gJ d), (5, gJ f), (6, gJ v2), (7, gJ v3)]) X 9 dX12_maybeOf_90 rfl rfl (by decide) rfl rfl ?_
                      refine g_goto (tgt := 20) X dX12_maybeOf_93 (by decide) ?_
                      refine G.sub (L' := [(0, gA n0 190), (1, gJ a), (2, gJ b), (3, gJ c), (4, gJ d), (5, gJ f), (6, gJ v2), (7, gJ v3), (8, gJ 0), (9, gJ (v1893 + 1))]) [2, 3, 4, 5, 6, 7, 8, 9, 1, 0] rfl ?_
                      exact ih2031 0 (v1893 + 1) M2046 (by omega) (by omega) IM2046 CM2046 (gFr.s (gFr.c gFr.rf FM1894 rfl) e2047 (ra_197 v2042).2.2 rfl) (by omega)
                    · refine g_iconst (n := 84) X dX12_maybeOf_83 rfl ?_
                      refine g_goto (tgt := 88) X dX12_maybeOf_84 (by decide) ?_
                      refine g_istore (n := 90) (L' := [(8, gJ 1), (0, gA n0 190), (1, gJ a), (2, gJ b), (3, gJ c), (4, gJ d), (5, gJ f), (6, gJ v2), (7, gJ v3), (9, gJ v1893)]) X dX12_maybeOf_88 (by decide) rfl rfl ?_
                      refine g_iinc (n := 93) (w := v1893 + 1) (L' := [(9, gJ (v1893 + 1)), (8, gJ 1), (0, gA n0 190), (1, gJ a), (2, gJ b), (3, gJ c), (4, gJ d), (5, gJ f), (6, gJ v2), (7, gJ v3)]) X 9 dX12_maybeOf_90 rfl rfl (by decide) rfl rfl ?_
                      refine g_goto (tgt := 20) X dX12_maybeOf_93 (by decide) ?_
                      refine G.sub (L' := [(0, gA n0 190), (1, gJ a), (2, gJ b), (3, gJ c), (4, gJ d), (5, gJ f), (6, gJ v2), (7, gJ v3), (8, gJ 1), (9, gJ (v1893 + 1))]) [2, 3, 4, 5, 6, 7, 8, 9, 1, 0] rfl ?_
                      exact ih2031 1 (v1893 + 1) M2046 (by omega) (by omega) IM2046 CM2046 (gFr.s (gFr.c gFr.rf FM1894 rfl) e2047 (ra_197 v2042).2.2 rfl) (by omega)
              · refine g_iconst (n := 49) X dX12_maybeOf_48 rfl ?_
                refine g_goto (tgt := 53) X dX12_maybeOf_49 (by decide) ?_
                refine g_zast (n := 54) (z := 1) X (by decide) (gsz hsz (by decide)) lay_197 (by omega) (by omega) (by decide) (g_zn (by omega)) dX12_maybeOf_53 rfl ?_
                refine G.nm (fun M2053 e2054 => ?_)
                have IM2053 : gI sz M2053 := gI.set IM1894 (ra_197 v2042).1 (by omega) e2054
                have CM2053 : gC sz M2053 := gC.set CM1894 (ra_197 v2042).2.1 e2054
                refine g_iload (n := 56) X 8 dX12_maybeOf_54 rfl rfl ?_
                refine g_if_eq (n := 59) (tgt := 87) X dX12_maybeOf_56 (by decide) (by omega) rfl (fun c2055 => ?_) (fun c2055 => ?_)
                · refine g_iconst (n := 88) X dX12_maybeOf_87 rfl ?_
                  refine g_istore (n := 90) (L' := [(8, gJ 0), (0, gA n0 190), (1, gJ a), (2, gJ b), (3, gJ c), (4, gJ d), (5, gJ f), (6, gJ v2), (7, gJ v3), (9, gJ v1893)]) X dX12_maybeOf_88 (by decide) rfl rfl ?_
                  refine g_iinc (n := 93) (w := v1893 + 1) (L' := [(9, gJ (v1893 + 1)), (8, gJ 0), (0, gA n0 190), (1, gJ a), (2, gJ b), (3, gJ c), (4, gJ d), (5, gJ f), (6, gJ v2), (7, gJ v3)]) X 9 dX12_maybeOf_90 rfl rfl (by decide) rfl rfl ?_
                  refine g_goto (tgt := 20) X dX12_maybeOf_93 (by decide) ?_
                  refine G.sub (L' := [(0, gA n0 190), (1, gJ a), (2, gJ b), (3, gJ c), (4, gJ d), (5, gJ f), (6, gJ v2), (7, gJ v3), (8, gJ 0), (9, gJ (v1893 + 1))]) [2, 3, 4, 5, 6, 7, 8, 9, 1, 0] rfl ?_
                  exact ih2031 0 (v1893 + 1) M2053 (by omega) (by omega) IM2053 CM2053 (gFr.s (gFr.c gFr.rf FM1894 rfl) e2054 (ra_197 v2042).2.2 rfl) (by omega)
                · refine g_aload_n (n := 60) X 0 dX12_maybeOf_59 rfl rfl rfl ?_
                  refine gg_12_10 (n := 63) (z := 198) X (by decide) (gsz hsz (by decide)) lay_190 kw_6_36 dX12_maybeOf_60 rfl (rf_190_10 IM2053 (gsz hsz (by decide))) (by decide) ?_
                  refine g_iload (n := 65) X 9 dX12_maybeOf_63 rfl rfl ?_
                  refine g_iald2 (n := 66) (v := v2042) X (by decide) (gsz hsz (by decide)) lay_198 (by omega) (by omega) (by decide) dX12_maybeOf_65 rfl ((congrFun (congrFun e2054 _) _).trans ((gset_ne (by omega)).trans hv2042)) ?_
                  refine g_iload (n := 68) X 4 dX12_maybeOf_66 rfl rfl ?_
                  refine g_icmp_ne (n := 71) (tgt := 83) X dX12_maybeOf_68 (by decide) (by omega) (by omega) rfl (fun c2056 => ?_) (fun c2056 => ?_)
                  · refine g_iconst (n := 84) X dX12_maybeOf_83 rfl ?_
                    refine g_goto (tgt := 88) X dX12_maybeOf_84 (by decide) ?_
                    refine g_istore (n := 90) (L' := [(8, gJ 1), (0, gA n0 190), (1, gJ a), (2, gJ b), (3, gJ c), (4, gJ d), (5, gJ f), (6, gJ v2), (7, gJ v3), (9, gJ v1893)]) X dX12_maybeOf_88 (by decide) rfl rfl ?_
                    refine g_iinc (n := 93) (w := v1893 + 1) (L' := [(9, gJ (v1893 + 1)), (8, gJ 1), (0, gA n0 190), (1, gJ a), (2, gJ b), (3, gJ c), (4, gJ d), (5, gJ f), (6, gJ v2), (7, gJ v3)]) X 9 dX12_maybeOf_90 rfl rfl (by decide) rfl rfl ?_
                    refine g_goto (tgt := 20) X dX12_maybeOf_93 (by decide) ?_
                    refine G.sub (L' := [(0, gA n0 190), (1, gJ a), (2, gJ b), (3, gJ c), (4, gJ d), (5, gJ f), (6, gJ v2), (7, gJ v3), (8, gJ 1), (9, gJ (v1893 + 1))]) [2, 3, 4, 5, 6, 7, 8, 9, 1, 0] rfl ?_
                    exact ih2031 1 (v1893 + 1) M2053 (by omega) (by omega) IM2053 CM2053 (gFr.s (gFr.c gFr.rf FM1894 rfl) e2054 (ra_197 v2042).2.2 rfl) (by omega)
                  · refine g_iload (n := 73) X 7 dX12_maybeOf_71 rfl rfl ?_
                    refine g_iload (n := 75) X 9 dX12_maybeOf_73 rfl rfl ?_
                    refine g_ishrA (n := 76) X dX12_maybeOf_75 rfl (fun v2057 rv2057 xv2057 => ?_)
                    clear xv2057
                    refine g_iconst (n := 77) X dX12_maybeOf_76 rfl ?_
                    refine g_iandC (n := 78) X dX12_maybeOf_77 (by decide) rfl (fun v2058 rv2058 xv2058 => ?_)
                    clear xv2058
                    refine g_iload (n := 80) X 5 dX12_maybeOf_78 rfl rfl ?_
                    refine g_icmp_ne (n := 83) (tgt := 87) X dX12_maybeOf_80 (by decide) (by omega) (by omega) rfl (fun c2059 => ?_) (fun c2059 => ?_)
                    · refine g_iconst (n := 88) X dX12_maybeOf_87 rfl ?_
                      refine g_istore (n := 90) (L' := [(8, gJ 0), (0, gA n0 190), (1, gJ a), (2, gJ b), (3, gJ c), (4, gJ d), (5, gJ f), (6, gJ v2), (7, gJ v3), (9, gJ v1893)]) X dX12_maybeOf_88 (by decide) rfl rfl ?_
                      refine g_iinc (n := 93) (w := v1893 + 1) (L' := [(9, gJ (v1893 + 1)), (8, gJ 0), (0, gA n0 190), (1, gJ a), (2, gJ b), (3, gJ c), (4, gJ d), (5, gJ f), (6, gJ v2), (7, gJ v3)]) X 9 dX12_maybeOf_90 rfl rfl (by decide) rfl rfl ?_
                      refine g_goto (tgt := 20) X dX12_maybeOf_93 (by decide) ?_
                      refine G.sub (L' := [(0, gA n0 190), (1, gJ a), (2, gJ b), (3, gJ c), (4, gJ d), (5, gJ f), (6, gJ v2), (7, gJ v3), (8, gJ 0), (9, gJ (v1893 + 1))]) [2, 3, 4, 5, 6, 7, 8, 9, 1, 0] rfl ?_
                      exact ih2031 0 (v1893 + 1) M2053 (by omega) (by omega) IM2053 CM2053 (gFr.s (gFr.c gFr.rf FM1894 rfl) e2054 (ra_197 v2042).2.2 rfl) (by omega)
                    · refine g_iconst (n := 84) X dX12_maybeOf_83 rfl ?_
                      refine g_goto (tgt := 88) X dX12_maybeOf_84 (by decide) ?_
                      refine g_istore (n := 90) (L' := [(8, gJ 1), (0, gA n0 190), (1, gJ a), (2, gJ b), (3, gJ c), (4, gJ d), (5, gJ f), (6, gJ v2), (7, gJ v3), (9, gJ v1893)]) X dX12_maybeOf_88 (by decide) rfl rfl ?_
                      refine g_iinc (n := 93) (w := v1893 + 1) (L' := [(9, gJ (v1893 + 1)), (8, gJ 1), (0, gA n0 190), (1, gJ a), (2, gJ b), (3, gJ c), (4, gJ d), (5, gJ f), (6, gJ v2), (7, gJ v3)]) X 9 dX12_maybeOf_90 rfl rfl (by decide) rfl rfl ?_
                      refine g_goto (tgt := 20) X dX12_maybeOf_93 (by decide) ?_
                      refine G.sub (L' := [(0, gA n0 190), (1, gJ a), (2, gJ b), (3, gJ c), (4, gJ d), (5, gJ f), (6, gJ v2), (7, gJ v3), (8, gJ 1), (9, gJ (v1893 + 1))]) [2, 3, 4, 5, 6, 7, 8, 9, 1, 0] rfl ?_
                      exact ih2031 1 (v1893 + 1) M2053 (by omega) (by omega) IM2053 CM2053 (gFr.s (gFr.c gFr.rf FM1894 rfl) e2054 (ra_197 v2042).2.2 rfl) (by omega)
        refine G.sub (L' := [(0, gA n0 190), (1, gJ a), (2, gJ b), (3, gJ c), (4, gJ d), (5, gJ f), (6, gJ v2), (7, gJ v3), (8, gJ 1), (9, gJ 0)]) [2, 3, 4, 5, 6, 7, 8, 9, 1, 0] rfl ?_
        exact j1895 _ 1 0 M4 (by omega) (by omega) IM4 CM4 gFr.rf (Nat.lt_succ_self _)
  refine G.sub (L' := [(0, gA n0 190), (1, gJ a), (2, gJ b), (3, gJ c), (4, gJ d), (5, gJ f), (6, gJ 0), (7, gJ 0)]) [2, 3, 4, 5, 6, 7, 1, 0] rfl ?_
  exact j5 _ 0 0 M (by omega) (by omega) I C gFr.rf (Nat.lt_succ_self _)
theorem dX12_maybe_0 : decode cX12_maybe 0 = .ok (.aload_n 0, 1) := dc_42 (by decide +kernel)
theorem dX12_maybe_1 : decode cX12_maybe 1 = .ok (.iload_n 1, 1) := dc_27 (by decide +kernel)
theorem dX12_maybe_2 : decode cX12_maybe 2 = .ok (.invokevirtual 76, 3) := dc_182 0 76 (by decide +kernel)
theorem dX12_maybe_5 : decode cX12_maybe 5 = .ok (.ifCond .eq 21, 3) := dc_153 0 21 21 (by decide +kernel)
theorem dX12_maybe_26 : decode cX12_maybe 26 = .ok (.iconst (-1), 1) := dc_2 (by decide +kernel)
theorem dX12_maybe_27 : decode cX12_maybe 27 = .ok (.ireturn, 1) := dc_172 (by decide +kernel)
theorem dX12_maybe_8 : decode cX12_maybe 8 = .ok (.aload_n 0, 1) := dc_42 (by decide +kernel)
theorem dX12_maybe_9 : decode cX12_maybe 9 = .ok (.iload_n 3, 1) := dc_29 (by decide +kernel)
theorem dX12_maybe_10 : decode cX12_maybe 10 = .ok (.invokevirtual 113, 3) := dc_182 0 113 (by decide +kernel)
theorem dX12_maybe_13 : decode cX12_maybe 13 = .ok (.ifCond .eq 13, 3) := dc_153 0 13 13 (by decide +kernel)
theorem dX12_maybe_16 : decode cX12_maybe 16 = .ok (.iload 4, 2) := dc_21 4 (by decide +kernel)
theorem dX12_maybe_18 : decode cX12_maybe 18 = .ok (.iconst 0, 1) := dc_3 (by decide +kernel)
theorem dX12_maybe_19 : decode cX12_maybe 19 = .ok (.iconst 1, 1) := dc_4 (by decide +kernel)
theorem dX12_maybe_20 : decode cX12_maybe 20 = .ok (.invokestatic 64, 3) := dc_184 0 64 (by decide +kernel)
theorem dX12_maybe_23 : decode cX12_maybe 23 = .ok (.ifCond .ne 5, 3) := dc_154 0 5 5 (by decide +kernel)
theorem dX12_maybe_28 : decode cX12_maybe 28 = .ok (.iload_n 2, 1) := dc_28 (by decide +kernel)
theorem dX12_maybe_29 : decode cX12_maybe 29 = .ok (.sipush (-3000), 3) := dc_17 244 72 (-3000) (by decide +kernel)
theorem dX12_maybe_32 : decode cX12_maybe 32 = .ok (.sipush 300, 3) := dc_17 1 44 300 (by decide +kernel)
theorem dX12_maybe_35 : decode cX12_maybe 35 = .ok (.invokestatic 64, 3) := dc_184 0 64 (by decide +kernel)
theorem dX12_maybe_38 : decode cX12_maybe 38 = .ok (.ifCond .ne 6, 3) := dc_154 0 6 6 (by decide +kernel)
theorem dX12_maybe_44 : decode cX12_maybe 44 = .ok (.aload_n 0, 1) := dc_42 (by decide +kernel)
theorem dX12_maybe_45 : decode cX12_maybe 45 = .ok (.iload_n 3, 1) := dc_29 (by decide +kernel)
theorem dX12_maybe_46 : decode cX12_maybe 46 = .ok (.invokevirtual 93, 3) := dc_182 0 93 (by decide +kernel)
theorem dX12_maybe_49 : decode cX12_maybe 49 = .ok (.iconst 0, 1) := dc_3 (by decide +kernel)
theorem dX12_maybe_50 : decode cX12_maybe 50 = .ok (.istore 5, 2) := dc_54 5 (by decide +kernel)
theorem dX12_maybe_52 : decode cX12_maybe 52 = .ok (.iconst 0, 1) := dc_3 (by decide +kernel)
theorem dX12_maybe_53 : decode cX12_maybe 53 = .ok (.istore 6, 2) := dc_54 6 (by decide +kernel)
theorem dX12_maybe_55 : decode cX12_maybe 55 = .ok (.iload 6, 2) := dc_21 6 (by decide +kernel)
theorem dX12_maybe_57 : decode cX12_maybe 57 = .ok (.bipush 40, 2) := dc_16 40 40 (by decide +kernel)
theorem dX12_maybe_59 : decode cX12_maybe 59 = .ok (.if_icmp .ge 46, 3) := dc_162 0 46 46 (by decide +kernel)
theorem dX12_maybe_62 : decode cX12_maybe 62 = .ok (.aload_n 0, 1) := dc_42 (by decide +kernel)
theorem dX12_maybe_63 : decode cX12_maybe 63 = .ok (.getfield 28, 3) := dc_180 0 28 (by decide +kernel)
theorem dX12_maybe_66 : decode cX12_maybe 66 = .ok (.iload 6, 2) := dc_21 6 (by decide +kernel)
theorem dX12_maybe_68 : decode cX12_maybe 68 = .ok (.iconst 0, 1) := dc_3 (by decide +kernel)
theorem dX12_maybe_69 : decode cX12_maybe 69 = .ok (.bastore, 1) := dc_84 (by decide +kernel)
theorem dX12_maybe_70 : decode cX12_maybe 70 = .ok (.aload_n 0, 1) := dc_42 (by decide +kernel)
theorem dX12_maybe_71 : decode cX12_maybe 71 = .ok (.getfield 22, 3) := dc_180 0 22 (by decide +kernel)
theorem dX12_maybe_74 : decode cX12_maybe 74 = .ok (.iload 6, 2) := dc_21 6 (by decide +kernel)
theorem dX12_maybe_76 : decode cX12_maybe 76 = .ok (.iaload, 1) := dc_46 (by decide +kernel)
theorem dX12_maybe_77 : decode cX12_maybe 77 = .ok (.ifCond .ne 22, 3) := dc_154 0 22 22 (by decide +kernel)
theorem dX12_maybe_99 : decode cX12_maybe 99 = .ok (.iinc 6 1, 3) := dc_132 6 1 1 (by decide +kernel)
theorem dX12_maybe_102 : decode cX12_maybe 102 = .ok (.goto (-47), 3) := dc_167 255 209 (-47) (by decide +kernel)
theorem dX12_maybe_80 : decode cX12_maybe 80 = .ok (.iload 5, 2) := dc_21 5 (by decide +kernel)
theorem dX12_maybe_82 : decode cX12_maybe 82 = .ok (.bipush 10, 2) := dc_16 10 10 (by decide +kernel)
theorem dX12_maybe_84 : decode cX12_maybe 84 = .ok (.if_icmp .ge 15, 3) := dc_162 0 15 15 (by decide +kernel)
theorem dX12_maybe_87 : decode cX12_maybe 87 = .ok (.aload_n 0, 1) := dc_42 (by decide +kernel)
theorem dX12_maybe_88 : decode cX12_maybe 88 = .ok (.getfield 32, 3) := dc_180 0 32 (by decide +kernel)
theorem dX12_maybe_91 : decode cX12_maybe 91 = .ok (.iload 5, 2) := dc_21 5 (by decide +kernel)
theorem dX12_maybe_93 : decode cX12_maybe 93 = .ok (.iload 6, 2) := dc_21 6 (by decide +kernel)
theorem dX12_maybe_95 : decode cX12_maybe 95 = .ok (.iastore, 1) := dc_79 (by decide +kernel)
theorem dX12_maybe_96 : decode cX12_maybe 96 = .ok (.iinc 5 1, 3) := dc_132 5 1 1 (by decide +kernel)
theorem dX12_maybe_105 : decode cX12_maybe 105 = .ok (.aload_n 0, 1) := dc_42 (by decide +kernel)
theorem dX12_maybe_106 : decode cX12_maybe 106 = .ok (.iload_n 1, 1) := dc_27 (by decide +kernel)
theorem dX12_maybe_107 : decode cX12_maybe 107 = .ok (.iload_n 2, 1) := dc_28 (by decide +kernel)
theorem dX12_maybe_108 : decode cX12_maybe 108 = .ok (.iload 5, 2) := dc_21 5 (by decide +kernel)
theorem dX12_maybe_110 : decode cX12_maybe 110 = .ok (.iconst (-1), 1) := dc_2 (by decide +kernel)
theorem dX12_maybe_111 : decode cX12_maybe 111 = .ok (.iconst 0, 1) := dc_3 (by decide +kernel)
theorem dX12_maybe_112 : decode cX12_maybe 112 = .ok (.invokevirtual 120, 3) := dc_182 0 120 (by decide +kernel)
theorem kw_6_220 : (Jvm.Cond.methodLink "ParishUnionModel" (120 : Nat) ({ cls := "ParishUnionModel", name := "maybeOf", desc := "(IIIII)I" } : Jvm.MethodName)) ∈ gT := gT_of (tb_6 _ (List.mem_of_getElem? (i := 220) rfl)) rfl
theorem kw_6_223 : (Jvm.Cond.code ({ cls := "ParishUnionModel", name := "maybeOf", desc := "(IIIII)I" } : Jvm.MethodName) prog_14_method_32_code (10 : Nat) (Option.some Jvm.ClassFile.FieldType.int)) ∈ gT := gT_of (tb_6 _ (List.mem_of_getElem? (i := 223) rfl)) rfl
theorem okX12_maybeOf : gQok yX12_maybeOf cX12_maybeOf 10 (Option.some Jvm.ClassFile.FieldType.int) 5 := ⟨kw_6_223, kw_1_13, by decide +kernel, by decide +kernel, by decide +kernel⟩
theorem kw_6_222 : (Jvm.Cond.instanceMethod ({ cls := "ParishUnionModel", name := "maybeOf", desc := "(IIIII)I" } : Jvm.MethodName)) ∈ gT := gT_of (tb_6 _ (List.mem_of_getElem? (i := 222) rfl)) rfl
theorem kw_0_54 : (Jvm.Cond.selects "ParishUnionModel" ({ cls := "ParishUnionModel", name := "maybeOf", desc := "(IIIII)I" } : Jvm.MethodName) ({ cls := "ParishUnionModel", name := "maybeOf", desc := "(IIIII)I" } : Jvm.MethodName)) ∈ gT := gT_of (tb_0 _ (List.mem_of_getElem? (i := 54) rfl)) rfl
theorem dX12_maybe_115 : decode cX12_maybe 115 = .ok (.istore 6, 2) := dc_54 6 (by decide +kernel)
theorem dX12_maybe_117 : decode cX12_maybe 117 = .ok (.iload 4, 2) := dc_21 4 (by decide +kernel)
theorem dX12_maybe_119 : decode cX12_maybe 119 = .ok (.ifCond .ne 6, 3) := dc_154 0 6 6 (by decide +kernel)
theorem dX12_maybe_125 : decode cX12_maybe 125 = .ok (.bipush (-5), 2) := dc_16 251 (-5) (by decide +kernel)
theorem dX12_maybe_127 : decode cX12_maybe 127 = .ok (.istore 7, 2) := dc_54 7 (by decide +kernel)
theorem dX12_maybe_129 : decode cX12_maybe 129 = .ok (.bipush 99, 2) := dc_16 99 99 (by decide +kernel)
theorem dX12_maybe_131 : decode cX12_maybe 131 = .ok (.istore 8, 2) := dc_54 8 (by decide +kernel)
theorem dX12_maybe_133 : decode cX12_maybe 133 = .ok (.iconst 0, 1) := dc_3 (by decide +kernel)
theorem dX12_maybe_134 : decode cX12_maybe 134 = .ok (.istore 9, 2) := dc_54 9 (by decide +kernel)
theorem dX12_maybe_136 : decode cX12_maybe 136 = .ok (.iload 9, 2) := dc_21 9 (by decide +kernel)
theorem dX12_maybe_138 : decode cX12_maybe 138 = .ok (.iload 5, 2) := dc_21 5 (by decide +kernel)
theorem dX12_maybe_140 : decode cX12_maybe 140 = .ok (.if_icmp .ge 113, 3) := dc_162 0 113 113 (by decide +kernel)
theorem dX12_maybe_253 : decode cX12_maybe 253 = .ok (.iload 7, 2) := dc_21 7 (by decide +kernel)
theorem dX12_maybe_255 : decode cX12_maybe 255 = .ok (.ireturn, 1) := dc_172 (by decide +kernel)
theorem dX12_maybe_143 : decode cX12_maybe 143 = .ok (.iload 6, 2) := dc_21 6 (by decide +kernel)
theorem dX12_maybe_145 : decode cX12_maybe 145 = .ok (.invokestatic 124, 3) := dc_184 0 124 (by decide +kernel)
theorem dX12_maybe_148 : decode cX12_maybe 148 = .ok (.iconst 1, 1) := dc_4 (by decide +kernel)
theorem dX12_maybe_149 : decode cX12_maybe 149 = .ok (.if_icmp .le 104, 3) := dc_164 0 104 104 (by decide +kernel)
theorem dX12_maybe_152 : decode cX12_maybe 152 = .ok (.aload_n 0, 1) := dc_42 (by decide +kernel)
theorem dX12_maybe_153 : decode cX12_maybe 153 = .ok (.iload_n 1, 1) := dc_27 (by decide +kernel)
theorem dX12_maybe_154 : decode cX12_maybe 154 = .ok (.iload_n 2, 1) := dc_28 (by decide +kernel)
theorem dX12_maybe_155 : decode cX12_maybe 155 = .ok (.iload 5, 2) := dc_21 5 (by decide +kernel)
theorem dX12_maybe_157 : decode cX12_maybe 157 = .ok (.aload_n 0, 1) := dc_42 (by decide +kernel)
theorem dX12_maybe_158 : decode cX12_maybe 158 = .ok (.getfield 32, 3) := dc_180 0 32 (by decide +kernel)
theorem dX12_maybe_161 : decode cX12_maybe 161 = .ok (.iload 9, 2) := dc_21 9 (by decide +kernel)
theorem dX12_maybe_163 : decode cX12_maybe 163 = .ok (.iaload, 1) := dc_46 (by decide +kernel)
theorem dX12_maybe_164 : decode cX12_maybe 164 = .ok (.iconst 1, 1) := dc_4 (by decide +kernel)
theorem dX12_maybe_165 : decode cX12_maybe 165 = .ok (.invokevirtual 120, 3) := dc_182 0 120 (by decide +kernel)
theorem dX12_maybe_168 : decode cX12_maybe 168 = .ok (.invokestatic 124, 3) := dc_184 0 124 (by decide +kernel)
theorem dX12_maybe_171 : decode cX12_maybe 171 = .ok (.istore 10, 2) := dc_54 10 (by decide +kernel)
theorem dX12_maybe_173 : decode cX12_maybe 173 = .ok (.aload_n 0, 1) := dc_42 (by decide +kernel)
theorem dX12_maybe_174 : decode cX12_maybe 174 = .ok (.iload_n 1, 1) := dc_27 (by decide +kernel)
theorem dX12_maybe_175 : decode cX12_maybe 175 = .ok (.iload_n 2, 1) := dc_28 (by decide +kernel)
theorem dX12_maybe_176 : decode cX12_maybe 176 = .ok (.iload 5, 2) := dc_21 5 (by decide +kernel)
theorem dX12_maybe_178 : decode cX12_maybe 178 = .ok (.aload_n 0, 1) := dc_42 (by decide +kernel)
theorem dX12_maybe_179 : decode cX12_maybe 179 = .ok (.getfield 32, 3) := dc_180 0 32 (by decide +kernel)
theorem dX12_maybe_182 : decode cX12_maybe 182 = .ok (.iload 9, 2) := dc_21 9 (by decide +kernel)
theorem dX12_maybe_184 : decode cX12_maybe 184 = .ok (.iaload, 1) := dc_46 (by decide +kernel)
theorem dX12_maybe_185 : decode cX12_maybe 185 = .ok (.iconst 0, 1) := dc_3 (by decide +kernel)
theorem dX12_maybe_186 : decode cX12_maybe 186 = .ok (.invokevirtual 120, 3) := dc_182 0 120 (by decide +kernel)
theorem dX12_maybe_189 : decode cX12_maybe 189 = .ok (.invokestatic 124, 3) := dc_184 0 124 (by decide +kernel)
theorem dX12_maybe_192 : decode cX12_maybe 192 = .ok (.istore 11, 2) := dc_54 11 (by decide +kernel)
theorem dX12_maybe_194 : decode cX12_maybe 194 = .ok (.iload 10, 2) := dc_21 10 (by decide +kernel)
theorem dX12_maybe_196 : decode cX12_maybe 196 = .ok (.iload 11, 2) := dc_21 11 (by decide +kernel)
theorem dX12_maybe_198 : decode cX12_maybe 198 = .ok (.if_icmp .le 8, 3) := dc_164 0 8 8 (by decide +kernel)
theorem dX12_maybe_206 : decode cX12_maybe 206 = .ok (.iload 11, 2) := dc_21 11 (by decide +kernel)
theorem dX12_maybe_208 : decode cX12_maybe 208 = .ok (.istore 12, 2) := dc_54 12 (by decide +kernel)
theorem dX12_maybe_210 : decode cX12_maybe 210 = .ok (.iload 12, 2) := dc_21 12 (by decide +kernel)
theorem dX12_maybe_212 : decode cX12_maybe 212 = .ok (.iload 8, 2) := dc_21 8 (by decide +kernel)
theorem dX12_maybe_214 : decode cX12_maybe 214 = .ok (.if_icmp .ge 13, 3) := dc_162 0 13 13 (by decide +kernel)
theorem dX12_maybe_227 : decode cX12_maybe 227 = .ok (.iload 7, 2) := dc_21 7 (by decide +kernel)
theorem dX12_maybe_229 : decode cX12_maybe 229 = .ok (.istore 7, 2) := dc_54 7 (by decide +kernel)
theorem dX12_maybe_231 : decode cX12_maybe 231 = .ok (.iload 12, 2) := dc_21 12 (by decide +kernel)
theorem dX12_maybe_233 : decode cX12_maybe 233 = .ok (.iload 8, 2) := dc_21 8 (by decide +kernel)
theorem dX12_maybe_235 : decode cX12_maybe 235 = .ok (.if_icmp .ge 8, 3) := dc_162 0 8 8 (by decide +kernel)
theorem dX12_maybe_243 : decode cX12_maybe 243 = .ok (.iload 8, 2) := dc_21 8 (by decide +kernel)
theorem dX12_maybe_245 : decode cX12_maybe 245 = .ok (.istore 8, 2) := dc_54 8 (by decide +kernel)
theorem dX12_maybe_247 : decode cX12_maybe 247 = .ok (.iinc 9 1, 3) := dc_132 9 1 1 (by decide +kernel)
theorem dX12_maybe_250 : decode cX12_maybe 250 = .ok (.goto (-114), 3) := dc_167 255 142 (-114) (by decide +kernel)
theorem dX12_maybe_217 : decode cX12_maybe 217 = .ok (.aload_n 0, 1) := dc_42 (by decide +kernel)
theorem dX12_maybe_218 : decode cX12_maybe 218 = .ok (.getfield 32, 3) := dc_180 0 32 (by decide +kernel)
theorem dX12_maybe_221 : decode cX12_maybe 221 = .ok (.iload 9, 2) := dc_21 9 (by decide +kernel)
theorem dX12_maybe_223 : decode cX12_maybe 223 = .ok (.iaload, 1) := dc_46 (by decide +kernel)
theorem dX12_maybe_224 : decode cX12_maybe 224 = .ok (.goto 5, 3) := dc_167 0 5 5 (by decide +kernel)
theorem dX12_maybe_238 : decode cX12_maybe 238 = .ok (.iload 12, 2) := dc_21 12 (by decide +kernel)
theorem dX12_maybe_240 : decode cX12_maybe 240 = .ok (.goto 5, 3) := dc_167 0 5 5 (by decide +kernel)
theorem dX12_maybe_201 : decode cX12_maybe 201 = .ok (.iload 10, 2) := dc_21 10 (by decide +kernel)
theorem dX12_maybe_203 : decode cX12_maybe 203 = .ok (.goto 5, 3) := dc_167 0 5 5 (by decide +kernel)
theorem dX12_maybe_122 : decode cX12_maybe 122 = .ok (.iload 6, 2) := dc_21 6 (by decide +kernel)
theorem dX12_maybe_124 : decode cX12_maybe 124 = .ok (.ireturn, 1) := dc_172 (by decide +kernel)
theorem dX12_maybe_41 : decode cX12_maybe 41 = .ok (.bipush (-2), 2) := dc_16 254 (-2) (by decide +kernel)
theorem dX12_maybe_43 : decode cX12_maybe 43 = .ok (.ireturn, 1) := dc_172 (by decide +kernel)
abbrev R_X12_maybe : Room := { frames := 74, cells := 0, slots := 0, locals := 2994 }
set_option maxRecDepth 100000 in
set_option maxHeartbeats 4000000 in
theorem s_X12_maybe {l : Launch} {n0 : Nat} {D : va_G} {cA : Nat → ClassId} {M : gM} (a : Int) (r_a : -2147483648 ≤ a ∧ a ≤ 2147483647) (b : Int) (r_b : -2147483648 ≤ b ∧ b ≤ 2147483647) (c : Int) (r_c : -2147483648 ≤ c ∧ c ≤ 2147483647) (d : Int) (r_d : -2147483648 ≤ d ∧ d ≤ 2147483647) {sz : Nat} (hsz : 206 ≤ sz) (I : gI sz M) (C : gC sz M) (W : gW 191 M)  : Met l yX12_maybe (gWsOf yX12_maybe cX12_maybe 13 (Option.some Jvm.ClassFile.FieldType.int)) R_X12_maybe (gPc n0 D cA [gA n0 190, gJ a, gJ b, gJ c, gJ d] M sz) (gQi n0 D cA sz (fun z M1 => (-2147483648 ≤ z ∧ z ≤ 2147483647) ∧ gI sz M1 ∧ gC sz M1 ∧ gFr 2475880189251224992055558144 M M1)) 0 0 (fun q => n0 ≤ q) := by
  refine gMetI [gA n0 190, gJ a, gJ b, gJ c, gJ d] (by decide) (Nat.le_of_ble_eq_true rfl) ⟨rfl, rfl⟩ ?_
  intro p e s m args below meth cd Q X hq
  have X : gCx p s m args meth cd n0 D cA "ParishUnionModel" cX12_maybe 13 := X
  show G p l e R_X12_maybe s m args below meth cd n0 D cA 13 Q 0 0 M sz 0 [(0, gA n0 190), (1, gJ a), (2, gJ b), (3, gJ c), (4, gJ d)] []
  obtain ⟨v1, hv1, rv1⟩ := gRd I (by decide) (gsz hsz (by decide)) (rs_PERS (k := 1) (by omega)).1
  refine g_aload_n (n := 1) X 0 dX12_maybe_0 rfl rfl rfl ?_
  refine g_iload_n (n := 2) X 1 dX12_maybe_1 rfl rfl rfl ?_
  refine g_callVi (n := 5) (As := [gJ a]) (rest := []) (cs1 := 0) (ss1 := 0) X (s_X12_isPerson a (by omega) hsz I C ) okX12_isPerson kw_6_125 ⟨kw_6_127, kw_0_40⟩ ⟨rfl, rfl⟩ ⟨Nat.le_of_ble_eq_true rfl, Nat.le_of_ble_eq_true rfl⟩ rfl (by decide) (gsz hsz (by decide)) lay_190 rfl rfl (Nat.le_of_ble_eq_true rfl) ⟨Nat.le_of_ble_eq_true rfl, Nat.le_of_ble_eq_true rfl⟩ rfl rfl dX12_maybe_2 rfl (fun v2 M3 P4 => ?_)
  obtain ⟨rfl, rv2, xv2⟩ := P4
  refine g_if_eq (n := 8) (tgt := 26) X dX12_maybe_5 (by decide) (by omega) rfl (fun c5 => ?_) (fun c5 => ?_)
  · refine g_iconst (n := 27) X dX12_maybe_26 rfl ?_
    exact hq _ _ _ _ dX12_maybe_27 ⟨by omega, I, C, gFr.rf⟩
  · refine g_aload_n (n := 9) X 0 dX12_maybe_8 rfl rfl rfl ?_
    refine g_iload_n (n := 10) X 3 dX12_maybe_9 rfl rfl rfl ?_
    refine g_callVi (n := 13) (As := [gJ c]) (rest := []) (cs1 := 0) (ss1 := 0) X (s_X12_isBy c (by omega) hsz I C ) okX12_isBy kw_6_181 ⟨kw_6_183, kw_0_46⟩ ⟨rfl, rfl⟩ ⟨Nat.le_of_ble_eq_true rfl, Nat.le_of_ble_eq_true rfl⟩ rfl (by decide) (gsz hsz (by decide)) lay_190 rfl rfl (Nat.le_of_ble_eq_true rfl) ⟨Nat.le_of_ble_eq_true rfl, Nat.le_of_ble_eq_true rfl⟩ rfl rfl dX12_maybe_10 rfl (fun v6 M7 P8 => ?_)
    obtain ⟨rfl, rv6, xv6⟩ := P8
    refine g_if_eq (n := 16) (tgt := 26) X dX12_maybe_13 (by decide) (by omega) rfl (fun c9 => ?_) (fun c9 => ?_)
    · refine g_iconst (n := 27) X dX12_maybe_26 rfl ?_
      exact hq _ _ _ _ dX12_maybe_27 ⟨by omega, I, C, gFr.rf⟩
    · refine g_iload (n := 18) X 4 dX12_maybe_16 rfl rfl ?_
      refine g_iconst (n := 19) X dX12_maybe_18 rfl ?_
      refine g_iconst (n := 20) X dX12_maybe_19 rfl ?_
      refine g_callSi (n := 23) (As := [gJ d, gJ 0, gJ 1]) (rest := []) (cs1 := 0) (ss1 := 0) X (s_X12_in d (by omega) 0 (by omega) 1 (by omega) hsz I C ) okX12_in kw_6_106 kw_6_107 ⟨rfl, rfl⟩ ⟨Nat.le_of_ble_eq_true rfl, Nat.le_of_ble_eq_true rfl⟩ rfl rfl (Nat.le_of_ble_eq_true rfl) ⟨Nat.le_of_ble_eq_true rfl, Nat.le_of_ble_eq_true rfl⟩ rfl rfl dX12_maybe_20 rfl (fun v10 M11 P12 => ?_)
      obtain ⟨rfl, rv10, xv10⟩ := P12
      refine g_if_ne (n := 26) (tgt := 28) X dX12_maybe_23 (by decide) (by omega) rfl (fun c13 => ?_) (fun c13 => ?_)
      · refine g_iload_n (n := 29) X 2 dX12_maybe_28 rfl rfl rfl ?_
        refine g_sipush (n := 32) X dX12_maybe_29 (by decide +kernel) rfl ?_
        refine g_sipush (n := 35) X dX12_maybe_32 (by decide +kernel) rfl ?_
        refine g_callSi (n := 38) (As := [gJ b, gJ (-3000), gJ 300]) (rest := []) (cs1 := 0) (ss1 := 0) X (s_X12_in b (by omega) (-3000) (by omega) 300 (by omega) hsz I C ) okX12_in kw_6_106 kw_6_107 ⟨rfl, rfl⟩ ⟨Nat.le_of_ble_eq_true rfl, Nat.le_of_ble_eq_true rfl⟩ rfl rfl (Nat.le_of_ble_eq_true rfl) ⟨Nat.le_of_ble_eq_true rfl, Nat.le_of_ble_eq_true rfl⟩ rfl rfl dX12_maybe_35 rfl (fun v14 M15 P16 => ?_)
        obtain ⟨rfl, rv14, xv14⟩ := P16
        refine g_if_ne (n := 41) (tgt := 44) X dX12_maybe_38 (by decide) (by omega) rfl (fun c17 => ?_) (fun c17 => ?_)
        · refine g_aload_n (n := 45) X 0 dX12_maybe_44 rfl rfl rfl ?_
          refine g_iload_n (n := 46) X 3 dX12_maybe_45 rfl rfl rfl ?_
          refine g_callVv (n := 49) (As := [gJ c]) (rest := []) (cs1 := 0) (ss1 := 0) X (s_X12_looks c (by omega) hsz I C ) okX12_looks kw_6_165 ⟨kw_6_167, kw_0_44⟩ ⟨rfl, rfl⟩ ⟨Nat.le_of_ble_eq_true rfl, Nat.le_of_ble_eq_true rfl⟩ rfl (by decide) (gsz hsz (by decide)) lay_190 rfl rfl (Nat.le_of_ble_eq_true rfl) ⟨Nat.le_of_ble_eq_true rfl, Nat.le_of_ble_eq_true rfl⟩ rfl rfl dX12_maybe_46 rfl (fun M19 P20 => ?_)
          obtain ⟨IM19, CM19, FM19, xM19⟩ := P20
          refine g_iconst (n := 50) X dX12_maybe_49 rfl ?_
          refine g_istore (n := 52) (L' := [(5, gJ 0), (0, gA n0 190), (1, gJ a), (2, gJ b), (3, gJ c), (4, gJ d)]) X dX12_maybe_50 (by decide) rfl rfl ?_
          refine g_iconst (n := 53) X dX12_maybe_52 rfl ?_
          refine g_istore (n := 55) (L' := [(6, gJ 0), (5, gJ 0), (0, gA n0 190), (1, gJ a), (2, gJ b), (3, gJ c), (4, gJ d)]) X dX12_maybe_53 (by decide) rfl rfl ?_
          have j24 : ∀ (N292 : Nat) (v21 v22 : Int) (M23 : gM) , (0 ≤ v21 ∧ v21 ≤ 10) → (0 ≤ v22 ∧ v22 ≤ 40) → gI sz M23 → gC sz M23 → gFr 36893488147419103232 M19 M23 → (40 - v22).toNat < N292 → G p l e R_X12_maybe s m args below meth cd n0 D cA 13 Q 0 0 M23 sz 55 [(0, gA n0 190), (1, gJ a), (2, gJ b), (4, gJ d), (5, gJ v21), (6, gJ v22)] [] := by
            intro N292; induction N292 with
            | zero => intro v21 v22 M23 rv21 rv22 IM23 CM23 FM23 hm294; exfalso; omega
            | succ N292 ih293 =>
              intro v21 v22 M23 rv21 rv22 IM23 CM23 FM23 hm294
              refine g_iload (n := 57) X 5 dX12_maybe_55 rfl rfl ?_
              refine g_bipush (n := 59) X dX12_maybe_57 (by decide +kernel) rfl ?_
              refine g_icmp_ge (n := 62) (tgt := 105) X dX12_maybe_59 (by decide) (by omega) (by omega) rfl (fun c295 => ?_) (fun c295 => ?_)
              · refine g_aload_n (n := 106) X 0 dX12_maybe_105 rfl rfl rfl ?_
                refine g_iload_n (n := 107) X 1 dX12_maybe_106 rfl rfl rfl ?_
                refine g_iload_n (n := 108) X 2 dX12_maybe_107 rfl rfl rfl ?_
                refine g_iload (n := 110) X 4 dX12_maybe_108 rfl rfl ?_
                refine g_iconst (n := 111) X dX12_maybe_110 rfl ?_
                refine g_iconst (n := 112) X dX12_maybe_111 rfl ?_
                refine g_callVi (n := 115) (As := [gJ a, gJ b, gJ v21, gJ (-1), gJ 0]) (rest := []) (cs1 := 0) (ss1 := 0) X (s_X12_maybeOf a (by omega) b (by omega) v21 (by omega) (-1) (by omega) 0 (by omega) hsz IM23 CM23 (gW.fr (S := 2475880189251224992055558144) W ⟨sz, hsz, I⟩ (gFr.c (gFr.c gFr.rf FM19 rfl) FM23 rfl) rfl) (by have q2 := ((gFr.at FM23 (rs_PERS (k := 1) (by omega)).2.2 rfl).trans ((gFr.at FM19 (rs_PERS (k := 1) (by omega)).2.2 rfl).trans hv1)); omega)) okX12_maybeOf kw_6_220 ⟨kw_6_222, kw_0_54⟩ ⟨rfl, rfl⟩ ⟨Nat.le_of_ble_eq_true rfl, Nat.le_of_ble_eq_true rfl⟩ rfl (by decide) (gsz hsz (by decide)) lay_190 rfl rfl (Nat.le_of_ble_eq_true rfl) ⟨Nat.le_of_ble_eq_true rfl, Nat.le_of_ble_eq_true rfl⟩ rfl rfl dX12_maybe_112 rfl (fun v303 M304 P305 => ?_)
                obtain ⟨rv303, IM304, CM304, FM304⟩ := P305
                refine g_istore (n := 117) (L' := [(6, gJ v303), (0, gA n0 190), (1, gJ a), (2, gJ b), (4, gJ d), (5, gJ v21)]) X dX12_maybe_115 (by decide) rfl rfl ?_
                refine g_iload (n := 119) X 4 dX12_maybe_117 rfl rfl ?_
                refine g_if_ne (n := 122) (tgt := 125) X dX12_maybe_119 (by decide) (by omega) rfl (fun c306 => ?_) (fun c306 => ?_)
                · refine g_bipush (n := 127) X dX12_maybe_125 (by decide +kernel) rfl ?_
                  refine g_istore (n := 129) (L' := [(7, gJ (-5)), (6, gJ v303), (0, gA n0 190), (1, gJ a), (2, gJ b), (4, gJ d), (5, gJ v21)]) X dX12_maybe_127 (by decide) rfl rfl ?_
                  refine g_bipush (n := 131) X dX12_maybe_129 (by decide +kernel) rfl ?_
                  refine g_istore (n := 133) (L' := [(8, gJ 99), (7, gJ (-5)), (6, gJ v303), (0, gA n0 190), (1, gJ a), (2, gJ b), (4, gJ d), (5, gJ v21)]) X dX12_maybe_131 (by decide) rfl rfl ?_
                  refine g_iconst (n := 134) X dX12_maybe_133 rfl ?_
                  refine g_istore (n := 136) (L' := [(9, gJ 0), (8, gJ 99), (7, gJ (-5)), (6, gJ v303), (0, gA n0 190), (1, gJ a), (2, gJ b), (4, gJ d), (5, gJ v21)]) X dX12_maybe_134 (by decide) rfl rfl ?_
                  have j311 : ∀ (N452 : Nat) (v307 v308 v309 : Int) (M310 : gM) , (-5 ≤ v307 ∧ v307 ≤ 39) → (-2147483648 ≤ v308 ∧ v308 ≤ 99) → (0 ≤ v309 ∧ v309 ≤ 10) → gI sz M310 → gC sz M310 → gFr 36893488147419103232 M304 M310 → (10 - v309).toNat < N452 → G p l e R_X12_maybe s m args below meth cd n0 D cA 13 Q 0 0 M310 sz 136 [(0, gA n0 190), (1, gJ a), (2, gJ b), (5, gJ v21), (6, gJ v303), (7, gJ v307), (8, gJ v308), (9, gJ v309)] [] := by
                    intro N452; induction N452 with
                    | zero => intro v307 v308 v309 M310 rv307 rv308 rv309 IM310 CM310 FM310 hm454; exfalso; omega
                    | succ N452 ih453 =>
                      intro v307 v308 v309 M310 rv307 rv308 rv309 IM310 CM310 FM310 hm454
                      refine g_iload (n := 138) X 7 dX12_maybe_136 rfl rfl ?_
                      refine g_iload (n := 140) X 3 dX12_maybe_138 rfl rfl ?_
                      refine g_icmp_ge (n := 143) (tgt := 253) X dX12_maybe_140 (by decide) (by omega) (by omega) rfl (fun c455 => ?_) (fun c455 => ?_)
                      · refine g_iload (n := 255) X 5 dX12_maybe_253 rfl rfl ?_
                        exact hq _ _ _ _ dX12_maybe_255 ⟨by omega, IM310, CM310, (gFr.c (gFr.c (gFr.c (gFr.c gFr.rf FM19 rfl) FM23 rfl) FM304 rfl) FM310 rfl)⟩
                      · refine g_iload (n := 145) X 4 dX12_maybe_143 rfl rfl ?_
                        refine g_callSi (n := 148) (As := [gJ v303]) (rest := []) (cs1 := 0) (ss1 := 0) X (s_X12_many v303 (by omega) hsz IM310 CM310 ) okX12_many kw_6_224 kw_6_225 ⟨rfl, rfl⟩ ⟨Nat.le_of_ble_eq_true rfl, Nat.le_of_ble_eq_true rfl⟩ rfl rfl (Nat.le_of_ble_eq_true rfl) ⟨Nat.le_of_ble_eq_true rfl, Nat.le_of_ble_eq_true rfl⟩ rfl rfl dX12_maybe_145 rfl (fun v456 M457 P458 => ?_)
                        obtain ⟨rfl, rv456⟩ := P458
                        refine g_iconst (n := 149) X dX12_maybe_148 rfl ?_
                        refine g_icmp_le (n := 152) (tgt := 253) X dX12_maybe_149 (by decide) (by omega) (by omega) rfl (fun c459 => ?_) (fun c459 => ?_)
                        · refine g_iload (n := 255) X 5 dX12_maybe_253 rfl rfl ?_
                          exact hq _ _ _ _ dX12_maybe_255 ⟨by omega, IM310, CM310, (gFr.c (gFr.c (gFr.c (gFr.c gFr.rf FM19 rfl) FM23 rfl) FM304 rfl) FM310 rfl)⟩
                        · refine g_aload_n (n := 153) X 0 dX12_maybe_152 rfl rfl rfl ?_
                          refine g_iload_n (n := 154) X 1 dX12_maybe_153 rfl rfl rfl ?_
                          refine g_iload_n (n := 155) X 2 dX12_maybe_154 rfl rfl rfl ?_
                          refine g_iload (n := 157) X 3 dX12_maybe_155 rfl rfl ?_
                          refine g_aload_n (n := 158) X 0 dX12_maybe_157 rfl rfl rfl ?_
                          refine gg_12_10 (n := 161) (z := 198) X (by decide) (gsz hsz (by decide)) lay_190 kw_6_36 dX12_maybe_158 rfl (rf_190_10 IM310 (gsz hsz (by decide))) (by decide) ?_
                          refine g_iload (n := 163) X 7 dX12_maybe_161 rfl rfl ?_
                          obtain ⟨v460, hv460, rv460⟩ := gRd IM310 (by decide) (gsz hsz (by decide)) (ra_198 v309).1
                          refine g_iald2 (n := 164) (v := v460) X (by decide) (gsz hsz (by decide)) lay_198 (by omega) (by omega) (by decide) dX12_maybe_163 rfl hv460 ?_
                          refine g_iconst (n := 165) X dX12_maybe_164 rfl ?_
                          refine g_callVi (n := 168) (As := [gJ a, gJ b, gJ v21, gJ v460, gJ 1]) (rest := []) (cs1 := 0) (ss1 := 0) X (s_X12_maybeOf a (by omega) b (by omega) v21 (by omega) v460 (by omega) 1 (by omega) hsz IM310 CM310 (gW.fr (S := 2475880189251224992055558144) W ⟨sz, hsz, I⟩ (gFr.c (gFr.c (gFr.c (gFr.c gFr.rf FM19 rfl) FM23 rfl) FM304 rfl) FM310 rfl) rfl) (by have q2 := ((gFr.at FM310 (rs_PERS (k := 1) (by omega)).2.2 rfl).trans ((gFr.at FM304 (rs_PERS (k := 1) (by omega)).2.2 rfl).trans ((gFr.at FM23 (rs_PERS (k := 1) (by omega)).2.2 rfl).trans ((gFr.at FM19 (rs_PERS (k := 1) (by omega)).2.2 rfl).trans hv1)))); omega)) okX12_maybeOf kw_6_220 ⟨kw_6_222, kw_0_54⟩ ⟨rfl, rfl⟩ ⟨Nat.le_of_ble_eq_true rfl, Nat.le_of_ble_eq_true rfl⟩ rfl (by decide) (gsz hsz (by decide)) lay_190 rfl rfl (Nat.le_of_ble_eq_true rfl) ⟨Nat.le_of_ble_eq_true rfl, Nat.le_of_ble_eq_true rfl⟩ rfl rfl dX12_maybe_165 rfl (fun v461 M462 P463 => ?_)
                          obtain ⟨rv461, IM462, CM462, FM462⟩ := P463
                          refine g_callSi (n := 171) (As := [gJ v461]) (rest := []) (cs1 := 0) (ss1 := 0) X (s_X12_many v461 (by omega) hsz IM462 CM462 ) okX12_many kw_6_224 kw_6_225 ⟨rfl, rfl⟩ ⟨Nat.le_of_ble_eq_true rfl, Nat.le_of_ble_eq_true rfl⟩ rfl rfl (Nat.le_of_ble_eq_true rfl) ⟨Nat.le_of_ble_eq_true rfl, Nat.le_of_ble_eq_true rfl⟩ rfl rfl dX12_maybe_168 rfl (fun v464 M465 P466 => ?_)
                          obtain ⟨rfl, rv464⟩ := P466
                          refine g_istore (n := 173) (L' := [(10, gJ v464), (0, gA n0 190), (1, gJ a), (2, gJ b), (5, gJ v21), (6, gJ v303), (7, gJ v307), (8, gJ v308), (9, gJ v309)]) X dX12_maybe_171 (by decide) rfl rfl ?_
                          refine g_aload_n (n := 174) X 1 dX12_maybe_173 rfl rfl rfl ?_
                          refine g_iload_n (n := 175) X 2 dX12_maybe_174 rfl rfl rfl ?_
                          refine g_iload_n (n := 176) X 3 dX12_maybe_175 rfl rfl rfl ?_
                          refine g_iload (n := 178) X 4 dX12_maybe_176 rfl rfl ?_
                          refine g_aload_n (n := 179) X 1 dX12_maybe_178 rfl rfl rfl ?_
                          refine gg_12_10 (n := 182) (z := 198) X (by decide) (gsz hsz (by decide)) lay_190 kw_6_36 dX12_maybe_179 rfl (rf_190_10 IM462 (gsz hsz (by decide))) (by decide) ?_
                          refine g_iload (n := 184) X 8 dX12_maybe_182 rfl rfl ?_
                          obtain ⟨v467, hv467, rv467⟩ := gRd IM462 (by decide) (gsz hsz (by decide)) (ra_198 v309).1
                          refine g_iald2 (n := 185) (v := v467) X (by decide) (gsz hsz (by decide)) lay_198 (by omega) (by omega) (by decide) dX12_maybe_184 rfl hv467 ?_
                          refine g_iconst (n := 186) X dX12_maybe_185 rfl ?_
                          refine g_callVi (n := 189) (As := [gJ a, gJ b, gJ v21, gJ v467, gJ 0]) (rest := []) (cs1 := 0) (ss1 := 0) X (s_X12_maybeOf a (by omega) b (by omega) v21 (by omega) v467 (by omega) 0 (by omega) hsz IM462 CM462 (gW.fr (S := 2475880189251224992055558144) W ⟨sz, hsz, I⟩ (gFr.c (gFr.c (gFr.c (gFr.c (gFr.c gFr.rf FM19 rfl) FM23 rfl) FM304 rfl) FM310 rfl) FM462 rfl) rfl) (by have q2 := ((gFr.at FM462 (rs_PERS (k := 1) (by omega)).2.2 rfl).trans ((gFr.at FM310 (rs_PERS (k := 1) (by omega)).2.2 rfl).trans ((gFr.at FM304 (rs_PERS (k := 1) (by omega)).2.2 rfl).trans ((gFr.at FM23 (rs_PERS (k := 1) (by omega)).2.2 rfl).trans ((gFr.at FM19 (rs_PERS (k := 1) (by omega)).2.2 rfl).trans hv1))))); omega)) okX12_maybeOf kw_6_220 ⟨kw_6_222, kw_0_54⟩ ⟨rfl, rfl⟩ ⟨Nat.le_of_ble_eq_true rfl, Nat.le_of_ble_eq_true rfl⟩ rfl (by decide) (gsz hsz (by decide)) lay_190 rfl rfl (Nat.le_of_ble_eq_true rfl) ⟨Nat.le_of_ble_eq_true rfl, Nat.le_of_ble_eq_true rfl⟩ rfl rfl dX12_maybe_186 rfl (fun v468 M469 P470 => ?_)
                          obtain ⟨rv468, IM469, CM469, FM469⟩ := P470
                          refine g_callSi (n := 192) (As := [gJ v468]) (rest := []) (cs1 := 0) (ss1 := 0) X (s_X12_many v468 (by omega) hsz IM469 CM469 ) okX12_many kw_6_224 kw_6_225 ⟨rfl, rfl⟩ ⟨Nat.le_of_ble_eq_true rfl, Nat.le_of_ble_eq_true rfl⟩ rfl rfl (Nat.le_of_ble_eq_true rfl) ⟨Nat.le_of_ble_eq_true rfl, Nat.le_of_ble_eq_true rfl⟩ rfl rfl dX12_maybe_189 rfl (fun v471 M472 P473 => ?_)
                          obtain ⟨rfl, rv471⟩ := P473
                          refine g_istore (n := 194) (L' := [(11, gJ v471), (10, gJ v464), (0, gA n0 190), (1, gJ a), (2, gJ b), (5, gJ v21), (6, gJ v303), (7, gJ v307), (8, gJ v308), (9, gJ v309)]) X dX12_maybe_192 (by decide) rfl rfl ?_
                          refine g_iload (n := 196) X 1 dX12_maybe_194 rfl rfl ?_
                          refine g_iload (n := 198) X 0 dX12_maybe_196 rfl rfl ?_
                          refine g_icmp_le (n := 201) (tgt := 206) X dX12_maybe_198 (by decide) (by omega) (by omega) rfl (fun c474 => ?_) (fun c474 => ?_)
                          · refine g_iload (n := 208) X 0 dX12_maybe_206 rfl rfl ?_
                            refine g_istore (n := 210) (L' := [(12, gJ v471), (11, gJ v471), (10, gJ v464), (0, gA n0 190), (1, gJ a), (2, gJ b), (5, gJ v21), (6, gJ v303), (7, gJ v307), (8, gJ v308), (9, gJ v309)]) X dX12_maybe_208 (by decide) rfl rfl ?_
                            refine g_iload (n := 212) X 0 dX12_maybe_210 rfl rfl ?_
                            refine g_iload (n := 214) X 9 dX12_maybe_212 rfl rfl ?_
                            refine g_icmp_ge (n := 217) (tgt := 227) X dX12_maybe_214 (by decide) (by omega) (by omega) rfl (fun c475 => ?_) (fun c475 => ?_)
                            · refine g_iload (n := 229) X 8 dX12_maybe_227 rfl rfl ?_
                              refine g_istore (n := 231) (L' := [(7, gJ v307), (12, gJ v471), (11, gJ v471), (10, gJ v464), (0, gA n0 190), (1, gJ a), (2, gJ b), (5, gJ v21), (6, gJ v303), (8, gJ v308), (9, gJ v309)]) X dX12_maybe_229 (by decide) rfl rfl ?_
                              refine g_iload (n := 233) X 1 dX12_maybe_231 rfl rfl ?_
                              refine g_iload (n := 235) X 9 dX12_maybe_233 rfl rfl ?_
                              refine g_icmp_ge (n := 238) (tgt := 243) X dX12_maybe_235 (by decide) (by omega) (by omega) rfl (fun c476 => ?_) (fun c476 => ?_)
                              · refine g_iload (n := 245) X 9 dX12_maybe_243 rfl rfl ?_
                                refine g_istore (n := 247) (L' := [(8, gJ v308), (7, gJ v307), (12, gJ v471), (11, gJ v471), (10, gJ v464), (0, gA n0 190), (1, gJ a), (2, gJ b), (5, gJ v21), (6, gJ v303), (9, gJ v309)]) X dX12_maybe_245 (by decide) rfl rfl ?_
                                refine g_iinc (n := 250) (w := v309 + 1) (L' := [(9, gJ (v309 + 1)), (8, gJ v308), (7, gJ v307), (12, gJ v471), (11, gJ v471), (10, gJ v464), (0, gA n0 190), (1, gJ a), (2, gJ b), (5, gJ v21), (6, gJ v303)]) X 10 dX12_maybe_247 rfl rfl (by decide) rfl rfl ?_
                                refine g_goto (tgt := 136) X dX12_maybe_250 (by decide) ?_
                                refine G.sub (L' := [(0, gA n0 190), (1, gJ a), (2, gJ b), (5, gJ v21), (6, gJ v303), (7, gJ v307), (8, gJ v308), (9, gJ (v309 + 1))]) [6, 7, 8, 9, 10, 2, 1, 0] rfl ?_
                                exact ih453 v307 v308 (v309 + 1) M469 (by omega) (by omega) (by omega) IM469 CM469 (gFr.c (gFr.c (gFr.c gFr.rf FM310 rfl) FM462 rfl) FM469 rfl) (by omega)
                              · refine g_iload (n := 240) X 1 dX12_maybe_238 rfl rfl ?_
                                refine g_goto (tgt := 245) X dX12_maybe_240 (by decide) ?_
                                refine g_istore (n := 247) (L' := [(8, gJ v471), (7, gJ v307), (12, gJ v471), (11, gJ v471), (10, gJ v464), (0, gA n0 190), (1, gJ a), (2, gJ b), (5, gJ v21), (6, gJ v303), (9, gJ v309)]) X dX12_maybe_245 (by decide) rfl rfl ?_
                                refine g_iinc (n := 250) (w := v309 + 1) (L' := [(9, gJ (v309 + 1)), (8, gJ v471), (7, gJ v307), (12, gJ v471), (11, gJ v471), (10, gJ v464), (0, gA n0 190), (1, gJ a), (2, gJ b), (5, gJ v21), (6, gJ v303)]) X 10 dX12_maybe_247 rfl rfl (by decide) rfl rfl ?_
                                refine g_goto (tgt := 136) X dX12_maybe_250 (by decide) ?_
                                refine G.sub (L' := [(0, gA n0 190), (1, gJ a), (2, gJ b), (5, gJ v21), (6, gJ v303), (7, gJ v307), (8, gJ v471), (9, gJ (v309 + 1))]) [6, 7, 8, 9, 10, 2, 1, 0] rfl ?_
                                exact ih453 v307 v471 (v309 + 1) M469 (by omega) (by omega) (by omega) IM469 CM469 (gFr.c (gFr.c (gFr.c gFr.rf FM310 rfl) FM462 rfl) FM469 rfl) (by omega)
                            · refine g_aload_n (n := 218) X 3 dX12_maybe_217 rfl rfl rfl ?_
                              refine gg_12_10 (n := 221) (z := 198) X (by decide) (gsz hsz (by decide)) lay_190 kw_6_36 dX12_maybe_218 rfl (rf_190_10 IM469 (gsz hsz (by decide))) (by decide) ?_
                              refine g_iload (n := 223) X 10 dX12_maybe_221 rfl rfl ?_
                              obtain ⟨v477, hv477, rv477⟩ := gRd IM469 (by decide) (gsz hsz (by decide)) (ra_198 v309).1
                              refine g_iald2 (n := 224) (v := v477) X (by decide) (gsz hsz (by decide)) lay_198 (by omega) (by omega) (by decide) dX12_maybe_223 rfl hv477 ?_
                              refine g_goto (tgt := 229) X dX12_maybe_224 (by decide) ?_
                              refine g_istore (n := 231) (L' := [(7, gJ v477), (12, gJ v471), (11, gJ v471), (10, gJ v464), (0, gA n0 190), (1, gJ a), (2, gJ b), (5, gJ v21), (6, gJ v303), (8, gJ v308), (9, gJ v309)]) X dX12_maybe_229 (by decide) rfl rfl ?_
                              refine g_iload (n := 233) X 1 dX12_maybe_231 rfl rfl ?_
                              refine g_iload (n := 235) X 9 dX12_maybe_233 rfl rfl ?_
                              refine g_icmp_ge (n := 238) (tgt := 243) X dX12_maybe_235 (by decide) (by omega) (by omega) rfl (fun c478 => ?_) (fun c478 => ?_)
                              · refine g_iload (n := 245) X 9 dX12_maybe_243 rfl rfl ?_
                                refine g_istore (n := 247) (L' := [(8, gJ v308), (7, gJ v477), (12, gJ v471), (11, gJ v471), (10, gJ v464), (0, gA n0 190), (1, gJ a), (2, gJ b), (5, gJ v21), (6, gJ v303), (9, gJ v309)]) X dX12_maybe_245 (by decide) rfl rfl ?_
                                refine g_iinc (n := 250) (w := v309 + 1) (L' := [(9, gJ (v309 + 1)), (8, gJ v308), (7, gJ v477), (12, gJ v471), (11, gJ v471), (10, gJ v464), (0, gA n0 190), (1, gJ a), (2, gJ b), (5, gJ v21), (6, gJ v303)]) X 10 dX12_maybe_247 rfl rfl (by decide) rfl rfl ?_
                                refine g_goto (tgt := 136) X dX12_maybe_250 (by decide) ?_
                                refine G.sub (L' := [(0, gA n0 190), (1, gJ a), (2, gJ b), (5, gJ v21), (6, gJ v303), (7, gJ v477), (8, gJ v308), (9, gJ (v309 + 1))]) [6, 7, 8, 9, 10, 2, 1, 0] rfl ?_
                                exact ih453 v477 v308 (v309 + 1) M469 (by omega) (by omega) (by omega) IM469 CM469 (gFr.c (gFr.c (gFr.c gFr.rf FM310 rfl) FM462 rfl) FM469 rfl) (by omega)
                              · refine g_iload (n := 240) X 1 dX12_maybe_238 rfl rfl ?_
                                refine g_goto (tgt := 245) X dX12_maybe_240 (by decide) ?_
                                refine g_istore (n := 247) (L' := [(8, gJ v471), (7, gJ v477), (12, gJ v471), (11, gJ v471), (10, gJ v464), (0, gA n0 190), (1, gJ a), (2, gJ b), (5, gJ v21), (6, gJ v303), (9, gJ v309)]) X dX12_maybe_245 (by decide) rfl rfl ?_
                                refine g_iinc (n := 250) (w := v309 + 1) (L' := [(9, gJ (v309 + 1)), (8, gJ v471), (7, gJ v477), (12, gJ v471), (11, gJ v471), (10, gJ v464), (0, gA n0 190), (1, gJ a), (2, gJ b), (5, gJ v21), (6, gJ v303)]) X 10 dX12_maybe_247 rfl rfl (by decide) rfl rfl ?_
                                refine g_goto (tgt := 136) X dX12_maybe_250 (by decide) ?_
                                refine G.sub (L' := [(0, gA n0 190), (1, gJ a), (2, gJ b), (5, gJ v21), (6, gJ v303), (7, gJ v477), (8, gJ v471), (9, gJ (v309 + 1))]) [6, 7, 8, 9, 10, 2, 1, 0] rfl ?_
                                exact ih453 v477 v471 (v309 + 1) M469 (by omega) (by omega) (by omega) IM469 CM469 (gFr.c (gFr.c (gFr.c gFr.rf FM310 rfl) FM462 rfl) FM469 rfl) (by omega)
                          · refine g_iload (n := 203) X 1 dX12_maybe_201 rfl rfl ?_
                            refine g_goto (tgt := 208) X dX12_maybe_203 (by decide) ?_
                            refine g_istore (n := 210) (L' := [(12, gJ v464), (11, gJ v471), (10, gJ v464), (0, gA n0 190), (1, gJ a), (2, gJ b), (5, gJ v21), (6, gJ v303), (7, gJ v307), (8, gJ v308), (9, gJ v309)]) X dX12_maybe_208 (by decide) rfl rfl ?_
                            refine g_iload (n := 212) X 0 dX12_maybe_210 rfl rfl ?_
                            refine g_iload (n := 214) X 9 dX12_maybe_212 rfl rfl ?_
                            refine g_icmp_ge (n := 217) (tgt := 227) X dX12_maybe_214 (by decide) (by omega) (by omega) rfl (fun c479 => ?_) (fun c479 => ?_)
                            · refine g_iload (n := 229) X 8 dX12_maybe_227 rfl rfl ?_
                              refine g_istore (n := 231) (L' := [(7, gJ v307), (12, gJ v464), (11, gJ v471), (10, gJ v464), (0, gA n0 190), (1, gJ a), (2, gJ b), (5, gJ v21), (6, gJ v303), (8, gJ v308), (9, gJ v309)]) X dX12_maybe_229 (by decide) rfl rfl ?_
                              refine g_iload (n := 233) X 1 dX12_maybe_231 rfl rfl ?_
                              refine g_iload (n := 235) X 9 dX12_maybe_233 rfl rfl ?_
                              refine g_icmp_ge (n := 238) (tgt := 243) X dX12_maybe_235 (by decide) (by omega) (by omega) rfl (fun c480 => ?_) (fun c480 => ?_)
                              · refine g_iload (n := 245) X 9 dX12_maybe_243 rfl rfl ?_
                                refine g_istore (n := 247) (L' := [(8, gJ v308), (7, gJ v307), (12, gJ v464), (11, gJ v471), (10, gJ v464), (0, gA n0 190), (1, gJ a), (2, gJ b), (5, gJ v21), (6, gJ v303), (9, gJ v309)]) X dX12_maybe_245 (by decide) rfl rfl ?_
                                refine g_iinc (n := 250) (w := v309 + 1) (L' := [(9, gJ (v309 + 1)), (8, gJ v308), (7, gJ v307), (12, gJ v464), (11, gJ v471), (10, gJ v464), (0, gA n0 190), (1, gJ a), (2, gJ b), (5, gJ v21), (6, gJ v303)]) X 10 dX12_maybe_247 rfl rfl (by decide) rfl rfl ?_
                                refine g_goto (tgt := 136) X dX12_maybe_250 (by decide) ?_
                                refine G.sub (L' := [(0, gA n0 190), (1, gJ a), (2, gJ b), (5, gJ v21), (6, gJ v303), (7, gJ v307), (8, gJ v308), (9, gJ (v309 + 1))]) [6, 7, 8, 9, 10, 2, 1, 0] rfl ?_
                                exact ih453 v307 v308 (v309 + 1) M469 (by omega) (by omega) (by omega) IM469 CM469 (gFr.c (gFr.c (gFr.c gFr.rf FM310 rfl) FM462 rfl) FM469 rfl) (by omega)
                              · refine g_iload (n := 240) X 1 dX12_maybe_238 rfl rfl ?_
                                refine g_goto (tgt := 245) X dX12_maybe_240 (by decide) ?_
                                refine g_istore (n := 247) (L' := [(8, gJ v464), (7, gJ v307), (12, gJ v464), (11, gJ v471), (10, gJ v464), (0, gA n0 190), (1, gJ a), (2, gJ b), (5, gJ v21), (6, gJ v303), (9, gJ v309)]) X dX12_maybe_245 (by decide) rfl rfl ?_
                                refine g_iinc (n := 250) (w := v309 + 1) (L' := [(9, gJ (v309 + 1)), (8, gJ v464), (7, gJ v307), (12, gJ v464), (11, gJ v471), (10, gJ v464), (0, gA n0 190), (1, gJ a), (2, gJ b), (5, gJ v21), (6, gJ v303)]) X 10 dX12_maybe_247 rfl rfl (by decide) rfl rfl ?_
                                refine g_goto (tgt := 136) X dX12_maybe_250 (by decide) ?_
                                refine G.sub (L' := [(0, gA n0 190), (1, gJ a), (2, gJ b), (5, gJ v21), (6, gJ v303), (7, gJ v307), (8, gJ v464), (9, gJ (v309 + 1))]) [6, 7, 8, 9, 10, 2, 1, 0] rfl ?_
                                exact ih453 v307 v464 (v309 + 1) M469 (by omega) (by omega) (by omega) IM469 CM469 (gFr.c (gFr.c (gFr.c gFr.rf FM310 rfl) FM462 rfl) FM469 rfl) (by omega)
                            · refine g_aload_n (n := 218) X 3 dX12_maybe_217 rfl rfl rfl ?_
                              refine gg_12_10 (n := 221) (z := 198) X (by decide) (gsz hsz (by decide)) lay_190 kw_6_36 dX12_maybe_218 rfl (rf_190_10 IM469 (gsz hsz (by decide))) (by decide) ?_
                              refine g_iload (n := 223) X 10 dX12_maybe_221 rfl rfl ?_
                              obtain ⟨v481, hv481, rv481⟩ := gRd IM469 (by decide) (gsz hsz (by decide)) (ra_198 v309).1
                              refine g_iald2 (n := 224) (v := v481) X (by decide) (gsz hsz (by decide)) lay_198 (by omega) (by omega) (by decide) dX12_maybe_223 rfl hv481 ?_
                              refine g_goto (tgt := 229) X dX12_maybe_224 (by decide) ?_
                              refine g_istore (n := 231) (L' := [(7, gJ v481), (12, gJ v464), (11, gJ v471), (10, gJ v464), (0, gA n0 190), (1, gJ a), (2, gJ b), (5, gJ v21), (6, gJ v303), (8, gJ v308), (9, gJ v309)]) X dX12_maybe_229 (by decide) rfl rfl ?_
                              refine g_iload (n := 233) X 1 dX12_maybe_231 rfl rfl ?_
                              refine g_iload (n := 235) X 9 dX12_maybe_233 rfl rfl ?_
                              refine g_icmp_ge (n := 238) (tgt := 243) X dX12_maybe_235 (by decide) (by omega) (by omega) rfl (fun c482 => ?_) (fun c482 => ?_)
                              · refine g_iload (n := 245) X 9 dX12_maybe_243 rfl rfl ?_
                                refine g_istore (n := 247) (L' := [(8, gJ v308), (7, gJ v481), (12, gJ v464), (11, gJ v471), (10, gJ v464), (0, gA n0 190), (1, gJ a), (2, gJ b), (5, gJ v21), (6, gJ v303), (9, gJ v309)]) X dX12_maybe_245 (by decide) rfl rfl ?_
                                refine g_iinc (n := 250) (w := v309 + 1) (L' := [(9, gJ (v309 + 1)), (8, gJ v308), (7, gJ v481), (12, gJ v464), (11, gJ v471), (10, gJ v464), (0, gA n0 190), (1, gJ a), (2, gJ b), (5, gJ v21), (6, gJ v303)]) X 10 dX12_maybe_247 rfl rfl (by decide) rfl rfl ?_
                                refine g_goto (tgt := 136) X dX12_maybe_250 (by decide) ?_
                                refine G.sub (L' := [(0, gA n0 190), (1, gJ a), (2, gJ b), (5, gJ v21), (6, gJ v303), (7, gJ v481), (8, gJ v308), (9, gJ (v309 + 1))]) [6, 7, 8, 9, 10, 2, 1, 0] rfl ?_
                                exact ih453 v481 v308 (v309 + 1) M469 (by omega) (by omega) (by omega) IM469 CM469 (gFr.c (gFr.c (gFr.c gFr.rf FM310 rfl) FM462 rfl) FM469 rfl) (by omega)
                              · refine g_iload (n := 240) X 1 dX12_maybe_238 rfl rfl ?_
                                refine g_goto (tgt := 245) X dX12_maybe_240 (by decide) ?_
                                refine g_istore (n := 247) (L' := [(8, gJ v464), (7, gJ v481), (12, gJ v464), (11, gJ v471), (10, gJ v464), (0, gA n0 190), (1, gJ a), (2, gJ b), (5, gJ v21), (6, gJ v303), (9, gJ v309)]) X dX12_maybe_245 (by decide) rfl rfl ?_
                                refine g_iinc (n := 250) (w := v309 + 1) (L' := [(9, gJ (v309 + 1)), (8, gJ v464), (7, gJ v481), (12, gJ v464), (11, gJ v471), (10, gJ v464), (0, gA n0 190), (1, gJ a), (2, gJ b), (5, gJ v21), (6, gJ v303)]) X 10 dX12_maybe_247 rfl rfl (by decide) rfl rfl ?_
                                refine g_goto (tgt := 136) X dX12_maybe_250 (by decide) ?_
                                refine G.sub (L' := [(0, gA n0 190), (1, gJ a), (2, gJ b), (5, gJ v21), (6, gJ v303), (7, gJ v481), (8, gJ v464), (9, gJ (v309 + 1))]) [6, 7, 8, 9, 10, 2, 1, 0] rfl ?_
                                exact ih453 v481 v464 (v309 + 1) M469 (by omega) (by omega) (by omega) IM469 CM469 (gFr.c (gFr.c (gFr.c gFr.rf FM310 rfl) FM462 rfl) FM469 rfl) (by omega)
                  refine G.sub (L' := [(0, gA n0 190), (1, gJ a), (2, gJ b), (5, gJ v21), (6, gJ v303), (7, gJ (-5)), (8, gJ 99), (9, gJ 0)]) [4, 5, 6, 8, 3, 2, 1, 0] rfl ?_
                  exact j311 _ (-5) 99 0 M304 (by omega) (by omega) (by omega) IM304 CM304 gFr.rf (Nat.lt_succ_self _)
                · refine g_iload (n := 124) X 0 dX12_maybe_122 rfl rfl ?_
                  exact hq _ _ _ _ dX12_maybe_124 ⟨by omega, IM304, CM304, (gFr.c (gFr.c (gFr.c gFr.rf FM19 rfl) FM23 rfl) FM304 rfl)⟩
              · refine g_aload_n (n := 63) X 0 dX12_maybe_62 rfl rfl rfl ?_
                refine gg_12_9 (n := 66) (z := 197) X (by decide) (gsz hsz (by decide)) lay_190 kw_6_35 dX12_maybe_63 rfl (rf_190_9 IM23 (gsz hsz (by decide))) (by decide) ?_
                refine g_iload (n := 68) X 5 dX12_maybe_66 rfl rfl ?_
                refine g_iconst (n := 69) X dX12_maybe_68 rfl ?_
                refine g_zast (n := 70) (z := 0) X (by decide) (gsz hsz (by decide)) lay_197 (by omega) (by omega) (by decide) (g_zn (by omega)) dX12_maybe_69 rfl ?_
                refine G.nm (fun M483 e484 => ?_)
                have IM483 : gI sz M483 := gI.set IM23 (ra_197 v22).1 (by omega) e484
                have CM483 : gC sz M483 := gC.set CM23 (ra_197 v22).2.1 e484
                refine g_aload_n (n := 71) X 0 dX12_maybe_70 rfl rfl rfl ?_
                refine gg_12_6 (n := 74) (z := 195) X (by decide) (gsz hsz (by decide)) lay_190 kw_6_32 dX12_maybe_71 rfl (rf_190_6 IM483 (gsz hsz (by decide))) (by decide) ?_
                refine g_iload (n := 76) X 5 dX12_maybe_74 rfl rfl ?_
                obtain ⟨v485, hv485, rv485⟩ := gRd IM483 (by decide) (gsz hsz (by decide)) (ra_195 v22).1
                refine g_iald2 (n := 77) (v := v485) X (by decide) (gsz hsz (by decide)) lay_195 (by omega) (by omega) (by decide) dX12_maybe_76 rfl hv485 ?_
                refine g_if_ne (n := 80) (tgt := 99) X dX12_maybe_77 (by decide) (by omega) rfl (fun c486 => ?_) (fun c486 => ?_)
                · refine g_iinc (n := 102) (w := v22 + 1) (L' := [(6, gJ (v22 + 1)), (0, gA n0 190), (1, gJ a), (2, gJ b), (4, gJ d), (5, gJ v21)]) X 5 dX12_maybe_99 rfl rfl (by decide) rfl rfl ?_
                  refine g_goto (tgt := 55) X dX12_maybe_102 (by decide) ?_
                  refine G.sub (L' := [(0, gA n0 190), (1, gJ a), (2, gJ b), (4, gJ d), (5, gJ v21), (6, gJ (v22 + 1))]) [1, 2, 3, 4, 5, 0] rfl ?_
                  exact ih293 v21 (v22 + 1) M483 (by omega) (by omega) IM483 CM483 (gFr.s (gFr.c gFr.rf FM23 rfl) e484 (ra_197 v22).2.2 rfl) (by omega)
                · refine g_iload (n := 82) X 4 dX12_maybe_80 rfl rfl ?_
                  refine g_bipush (n := 84) X dX12_maybe_82 (by decide +kernel) rfl ?_
                  refine g_icmp_ge (n := 87) (tgt := 99) X dX12_maybe_84 (by decide) (by omega) (by omega) rfl (fun c487 => ?_) (fun c487 => ?_)
                  · refine g_iinc (n := 102) (w := v22 + 1) (L' := [(6, gJ (v22 + 1)), (0, gA n0 190), (1, gJ a), (2, gJ b), (4, gJ d), (5, gJ v21)]) X 5 dX12_maybe_99 rfl rfl (by decide) rfl rfl ?_
                    refine g_goto (tgt := 55) X dX12_maybe_102 (by decide) ?_
                    refine G.sub (L' := [(0, gA n0 190), (1, gJ a), (2, gJ b), (4, gJ d), (5, gJ v21), (6, gJ (v22 + 1))]) [1, 2, 3, 4, 5, 0] rfl ?_
                    exact ih293 v21 (v22 + 1) M483 (by omega) (by omega) IM483 CM483 (gFr.s (gFr.c gFr.rf FM23 rfl) e484 (ra_197 v22).2.2 rfl) (by omega)
                  · refine g_aload_n (n := 88) X 0 dX12_maybe_87 rfl rfl rfl ?_
                    refine gg_12_10 (n := 91) (z := 198) X (by decide) (gsz hsz (by decide)) lay_190 kw_6_36 dX12_maybe_88 rfl (rf_190_10 IM483 (gsz hsz (by decide))) (by decide) ?_
                    refine g_iload (n := 93) X 4 dX12_maybe_91 rfl rfl ?_
                    refine g_iload (n := 95) X 5 dX12_maybe_93 rfl rfl ?_
                    refine g_iast (n := 96) X (by decide) (gsz hsz (by decide)) lay_198 (by omega) (by omega) (by decide) dX12_maybe_95 rfl ?_
                    refine G.nm (fun M488 e489 => ?_)
                    have IM488 : gI sz M488 := gI.set IM483 (ra_198 v21).1 (by omega) e489
                    have CM488 : gC sz M488 := gC.set CM483 (ra_198 v21).2.1 e489
                    refine g_iinc (n := 99) (w := v21 + 1) (L' := [(5, gJ (v21 + 1)), (0, gA n0 190), (1, gJ a), (2, gJ b), (4, gJ d), (6, gJ v22)]) X 4 dX12_maybe_96 rfl rfl (by decide) rfl rfl ?_
                    refine g_iinc (n := 102) (w := v22 + 1) (L' := [(6, gJ (v22 + 1)), (5, gJ (v21 + 1)), (0, gA n0 190), (1, gJ a), (2, gJ b), (4, gJ d)]) X 5 dX12_maybe_99 rfl rfl (by decide) rfl rfl ?_
                    refine g_goto (tgt := 55) X dX12_maybe_102 (by decide) ?_
                    refine G.sub (L' := [(0, gA n0 190), (1, gJ a), (2, gJ b), (4, gJ d), (5, gJ (v21 + 1)), (6, gJ (v22 + 1))]) [2, 3, 4, 5, 1, 0] rfl ?_
                    exact ih293 (v21 + 1) (v22 + 1) M488 (by omega) (by omega) IM488 CM488 (gFr.s (gFr.s (gFr.c gFr.rf FM23 rfl) e484 (ra_197 v22).2.2 rfl) e489 (ra_198 v21).2.2 rfl) (by omega)
          refine G.sub (L' := [(0, gA n0 190), (1, gJ a), (2, gJ b), (4, gJ d), (5, gJ 0), (6, gJ 0)]) [2, 3, 4, 6, 1, 0] rfl ?_
          exact j24 _ 0 0 M19 (by omega) (by omega) IM19 CM19 gFr.rf (Nat.lt_succ_self _)
        · refine g_bipush (n := 43) X dX12_maybe_41 (by decide +kernel) rfl ?_
          exact hq _ _ _ _ dX12_maybe_43 ⟨by omega, I, C, gFr.rf⟩
      · refine g_iconst (n := 27) X dX12_maybe_26 rfl ?_
        exact hq _ _ _ _ dX12_maybe_27 ⟨by omega, I, C, gFr.rf⟩
theorem dX12_standsBy_0 : decode cX12_standsBy 0 = .ok (.aload_n 0, 1) := dc_42 (by decide +kernel)
theorem dX12_standsBy_1 : decode cX12_standsBy 1 = .ok (.aload_n 0, 1) := dc_42 (by decide +kernel)
theorem dX12_standsBy_2 : decode cX12_standsBy 2 = .ok (.getfield 7, 3) := dc_180 0 7 (by decide +kernel)
theorem dX12_standsBy_5 : decode cX12_standsBy 5 = .ok (.sipush 2340, 3) := dc_17 9 36 2340 (by decide +kernel)
theorem dX12_standsBy_8 : decode cX12_standsBy 8 = .ok (.iload_n 1, 1) := dc_27 (by decide +kernel)
theorem dX12_standsBy_9 : decode cX12_standsBy 9 = .ok (.iadd, 1) := dc_96 (by decide +kernel)
theorem dX12_standsBy_10 : decode cX12_standsBy 10 = .ok (.iaload, 1) := dc_46 (by decide +kernel)
theorem dX12_standsBy_11 : decode cX12_standsBy 11 = .ok (.iload_n 2, 1) := dc_28 (by decide +kernel)
theorem dX12_standsBy_12 : decode cX12_standsBy 12 = .ok (.aload_n 0, 1) := dc_42 (by decide +kernel)
theorem dX12_standsBy_13 : decode cX12_standsBy 13 = .ok (.getfield 7, 3) := dc_180 0 7 (by decide +kernel)
theorem dX12_standsBy_16 : decode cX12_standsBy 16 = .ok (.sipush 2400, 3) := dc_17 9 96 2400 (by decide +kernel)
theorem dX12_standsBy_19 : decode cX12_standsBy 19 = .ok (.iload_n 1, 1) := dc_27 (by decide +kernel)
theorem dX12_standsBy_20 : decode cX12_standsBy 20 = .ok (.iadd, 1) := dc_96 (by decide +kernel)
theorem dX12_standsBy_21 : decode cX12_standsBy 21 = .ok (.iaload, 1) := dc_46 (by decide +kernel)
theorem dX12_standsBy_22 : decode cX12_standsBy 22 = .ok (.iload_n 3, 1) := dc_29 (by decide +kernel)
theorem dX12_standsBy_23 : decode cX12_standsBy 23 = .ok (.invokevirtual 116, 3) := dc_182 0 116 (by decide +kernel)
theorem dX12_standsBy_26 : decode cX12_standsBy 26 = .ok (.aload_n 0, 1) := dc_42 (by decide +kernel)
theorem dX12_standsBy_27 : decode cX12_standsBy 27 = .ok (.getfield 7, 3) := dc_180 0 7 (by decide +kernel)
theorem dX12_standsBy_30 : decode cX12_standsBy 30 = .ok (.sipush 2380, 3) := dc_17 9 76 2380 (by decide +kernel)
theorem dX12_standsBy_33 : decode cX12_standsBy 33 = .ok (.iload_n 1, 1) := dc_27 (by decide +kernel)
theorem dX12_standsBy_34 : decode cX12_standsBy 34 = .ok (.iadd, 1) := dc_96 (by decide +kernel)
theorem dX12_standsBy_35 : decode cX12_standsBy 35 = .ok (.iaload, 1) := dc_46 (by decide +kernel)
theorem dX12_standsBy_36 : decode cX12_standsBy 36 = .ok (.if_icmp .ne 7, 3) := dc_160 0 7 7 (by decide +kernel)
theorem dX12_standsBy_43 : decode cX12_standsBy 43 = .ok (.iconst 0, 1) := dc_3 (by decide +kernel)
theorem dX12_standsBy_44 : decode cX12_standsBy 44 = .ok (.ireturn, 1) := dc_172 (by decide +kernel)
theorem dX12_standsBy_39 : decode cX12_standsBy 39 = .ok (.iconst 1, 1) := dc_4 (by decide +kernel)
theorem dX12_standsBy_40 : decode cX12_standsBy 40 = .ok (.goto 4, 3) := dc_167 0 4 4 (by decide +kernel)
abbrev R_X12_standsBy : Room := { frames := 74, cells := 0, slots := 0, locals := 2990 }
set_option maxRecDepth 100000 in
set_option maxHeartbeats 4000000 in
theorem s_X12_standsBy {l : Launch} {n0 : Nat} {D : va_G} {cA : Nat → ClassId} {M : gM} (a : Int) (r_a : 0 ≤ a ∧ a ≤ 19) (b : Int) (r_b : 0 ≤ b ∧ b ≤ 1) (c : Int) (r_c : -1 ≤ c ∧ c ≤ 80) {sz : Nat} (hsz : 206 ≤ sz) (I : gI sz M) (C : gC sz M) (W : gW 191 M) (ho : a < M 191 5)  : Met l yX12_standsBy (gWsOf yX12_standsBy cX12_standsBy 4 (Option.some Jvm.ClassFile.FieldType.int)) R_X12_standsBy (gPc n0 D cA [gA n0 190, gJ a, gJ b, gJ c] M sz) (gQi n0 D cA sz (fun z M1 => (0 ≤ z ∧ z ≤ 1) ∧ gI sz M1 ∧ gC sz M1 ∧ gFr 2475880189251224992055558144 M M1)) 0 0 (fun q => n0 ≤ q) := by
  refine gMetI [gA n0 190, gJ a, gJ b, gJ c] (by decide) (Nat.le_of_ble_eq_true rfl) ⟨rfl, rfl⟩ ?_
  intro p e s m args below meth cd Q X hq
  have X : gCx p s m args meth cd n0 D cA "ParishUnionModel" cX12_standsBy 4 := X
  show G p l e R_X12_standsBy s m args below meth cd n0 D cA 4 Q 0 0 M sz 0 [(0, gA n0 190), (1, gJ a), (2, gJ b), (3, gJ c)] []
  obtain ⟨v1, hv1, rv1⟩ := gRd I (by decide) (gsz hsz (by decide)) (rs_PERS (k := 1) (by omega)).1
  obtain ⟨v2, hv2, rv2⟩ := gRd I (by decide) (gsz hsz (by decide)) (rs_NO (k := 5) (by omega)).1
  refine g_aload_n (n := 1) X 0 dX12_standsBy_0 rfl rfl rfl ?_
  refine g_aload_n (n := 2) X 0 dX12_standsBy_1 rfl rfl rfl ?_
  refine gg_12_1 (n := 5) (z := 191) X (by decide) (gsz hsz (by decide)) lay_190 kw_6_27 dX12_standsBy_2 rfl (rf_190_1 I (gsz hsz (by decide))) (by decide) ?_
  refine g_sipush (n := 8) X dX12_standsBy_5 (by decide +kernel) rfl ?_
  refine g_iload_n (n := 9) X 1 dX12_standsBy_8 rfl rfl rfl ?_
  refine g_iadd (n := 10) (z := a + 2340) X dX12_standsBy_9 (by omega) rfl ?_
  obtain ⟨v3, hv3, rv3⟩ := gRd I (by decide) (gsz hsz (by decide)) (rs_OWHO (k := a + 2340) (by omega)).1
  refine g_iald2 (n := 11) (v := v3) X (by decide) (gsz hsz (by decide)) lay_191 (by omega) (by omega) (by decide) dX12_standsBy_10 rfl hv3 ?_
  have hO := W.2.2.1 a (by omega) (by omega)
  refine g_iload_n (n := 12) X 2 dX12_standsBy_11 rfl rfl rfl ?_
  refine g_aload_n (n := 13) X 0 dX12_standsBy_12 rfl rfl rfl ?_
  refine gg_12_1 (n := 16) (z := 191) X (by decide) (gsz hsz (by decide)) lay_190 kw_6_27 dX12_standsBy_13 rfl (rf_190_1 I (gsz hsz (by decide))) (by decide) ?_
  refine g_sipush (n := 19) X dX12_standsBy_16 (by decide +kernel) rfl ?_
  refine g_iload_n (n := 20) X 1 dX12_standsBy_19 rfl rfl rfl ?_
  refine g_iadd (n := 21) (z := a + 2400) X dX12_standsBy_20 (by omega) rfl ?_
  obtain ⟨v4, hv4, rv4⟩ := gRd I (by decide) (gsz hsz (by decide)) (rs_OWEEK (k := a + 2400) (by omega)).1
  refine g_iald2 (n := 22) (v := v4) X (by decide) (gsz hsz (by decide)) lay_191 (by omega) (by omega) (by decide) dX12_standsBy_21 rfl hv4 ?_
  refine g_iload_n (n := 23) X 3 dX12_standsBy_22 rfl rfl rfl ?_
  refine g_callVi (n := 26) (As := [gJ v3, gJ b, gJ v4, gJ c]) (rest := []) (cs1 := 0) (ss1 := 0) X (s_X12_byBench v3 (by omega) b (by omega) v4 (by omega) c (by omega) hsz I C W (by have q2 := hv1; omega)) okX12_byBench kw_6_185 ⟨kw_6_187, kw_0_47⟩ ⟨rfl, rfl⟩ ⟨Nat.le_of_ble_eq_true rfl, Nat.le_of_ble_eq_true rfl⟩ rfl (by decide) (gsz hsz (by decide)) lay_190 rfl rfl (Nat.le_of_ble_eq_true rfl) ⟨Nat.le_of_ble_eq_true rfl, Nat.le_of_ble_eq_true rfl⟩ rfl rfl dX12_standsBy_23 rfl (fun v5 M6 P7 => ?_)
  obtain ⟨rv5, IM6, CM6, FM6, xM6⟩ := P7
  refine g_aload_n (n := 27) X 0 dX12_standsBy_26 rfl rfl rfl ?_
  refine gg_12_1 (n := 30) (z := 191) X (by decide) (gsz hsz (by decide)) lay_190 kw_6_27 dX12_standsBy_27 rfl (rf_190_1 IM6 (gsz hsz (by decide))) (by decide) ?_
  refine g_sipush (n := 33) X dX12_standsBy_30 (by decide +kernel) rfl ?_
  refine g_iload_n (n := 34) X 1 dX12_standsBy_33 rfl rfl rfl ?_
  refine g_iadd (n := 35) (z := a + 2380) X dX12_standsBy_34 (by omega) rfl ?_
  obtain ⟨v8, hv8, rv8⟩ := gRd IM6 (by decide) (gsz hsz (by decide)) (rs_OTO (k := a + 2380) (by omega)).1
  refine g_iald2 (n := 36) (v := v8) X (by decide) (gsz hsz (by decide)) lay_191 (by omega) (by omega) (by decide) dX12_standsBy_35 rfl hv8 ?_
  refine g_icmp_ne (n := 39) (tgt := 43) X dX12_standsBy_36 (by decide) (by omega) (by omega) rfl (fun c9 => ?_) (fun c9 => ?_)
  · refine g_iconst (n := 44) X dX12_standsBy_43 rfl ?_
    exact hq _ _ _ _ dX12_standsBy_44 ⟨by omega, IM6, CM6, (gFr.c gFr.rf FM6 rfl)⟩
  · refine g_iconst (n := 40) X dX12_standsBy_39 rfl ?_
    refine g_goto (tgt := 44) X dX12_standsBy_40 (by decide) ?_
    exact hq _ _ _ _ dX12_standsBy_44 ⟨by omega, IM6, CM6, (gFr.c gFr.rf FM6 rfl)⟩
theorem dX12_appeal_0 : decode cX12_appeal 0 = .ok (.aload_n 0, 1) := dc_42 (by decide +kernel)
theorem dX12_appeal_1 : decode cX12_appeal 1 = .ok (.iload_n 1, 1) := dc_27 (by decide +kernel)
theorem dX12_appeal_2 : decode cX12_appeal 2 = .ok (.invokevirtual 248, 3) := dc_182 0 248 (by decide +kernel)
theorem dX12_appeal_5 : decode cX12_appeal 5 = .ok (.ifCond .eq 30, 3) := dc_153 0 30 30 (by decide +kernel)
theorem dX12_appeal_35 : decode cX12_appeal 35 = .ok (.iconst (-1), 1) := dc_2 (by decide +kernel)
theorem dX12_appeal_36 : decode cX12_appeal 36 = .ok (.ireturn, 1) := dc_172 (by decide +kernel)
theorem dX12_appeal_8 : decode cX12_appeal 8 = .ok (.iload_n 2, 1) := dc_28 (by decide +kernel)
theorem dX12_appeal_9 : decode cX12_appeal 9 = .ok (.iconst 0, 1) := dc_3 (by decide +kernel)
theorem dX12_appeal_10 : decode cX12_appeal 10 = .ok (.iconst 1, 1) := dc_4 (by decide +kernel)
theorem dX12_appeal_11 : decode cX12_appeal 11 = .ok (.invokestatic 64, 3) := dc_184 0 64 (by decide +kernel)
theorem dX12_appeal_14 : decode cX12_appeal 14 = .ok (.ifCond .eq 21, 3) := dc_153 0 21 21 (by decide +kernel)
theorem dX12_appeal_17 : decode cX12_appeal 17 = .ok (.aload_n 0, 1) := dc_42 (by decide +kernel)
theorem dX12_appeal_18 : decode cX12_appeal 18 = .ok (.iload_n 3, 1) := dc_29 (by decide +kernel)
theorem dX12_appeal_19 : decode cX12_appeal 19 = .ok (.invokevirtual 113, 3) := dc_182 0 113 (by decide +kernel)
theorem dX12_appeal_22 : decode cX12_appeal 22 = .ok (.ifCond .eq 13, 3) := dc_153 0 13 13 (by decide +kernel)
theorem dX12_appeal_25 : decode cX12_appeal 25 = .ok (.aload_n 0, 1) := dc_42 (by decide +kernel)
theorem dX12_appeal_26 : decode cX12_appeal 26 = .ok (.iload_n 1, 1) := dc_27 (by decide +kernel)
theorem dX12_appeal_27 : decode cX12_appeal 27 = .ok (.iload_n 2, 1) := dc_28 (by decide +kernel)
theorem dX12_appeal_28 : decode cX12_appeal 28 = .ok (.iload_n 3, 1) := dc_29 (by decide +kernel)
theorem dX12_appeal_29 : decode cX12_appeal 29 = .ok (.invokevirtual 251, 3) := dc_182 0 251 (by decide +kernel)
theorem kw_7_106 : (Jvm.Cond.methodLink "ParishUnionModel" (251 : Nat) ({ cls := "ParishUnionModel", name := "standsBy", desc := "(III)I" } : Jvm.MethodName)) ∈ gT := gT_of (tb_7 _ (List.mem_of_getElem? (i := 106) rfl)) rfl
theorem kw_7_109 : (Jvm.Cond.code ({ cls := "ParishUnionModel", name := "standsBy", desc := "(III)I" } : Jvm.MethodName) prog_14_method_63_code (4 : Nat) (Option.some Jvm.ClassFile.FieldType.int)) ∈ gT := gT_of (tb_7 _ (List.mem_of_getElem? (i := 109) rfl)) rfl
theorem okX12_standsBy : gQok yX12_standsBy cX12_standsBy 4 (Option.some Jvm.ClassFile.FieldType.int) 3 := ⟨kw_7_109, kw_1_13, by decide +kernel, by decide +kernel, by decide +kernel⟩
theorem kw_7_108 : (Jvm.Cond.instanceMethod ({ cls := "ParishUnionModel", name := "standsBy", desc := "(III)I" } : Jvm.MethodName)) ∈ gT := gT_of (tb_7 _ (List.mem_of_getElem? (i := 108) rfl)) rfl
theorem kw_0_74 : (Jvm.Cond.selects "ParishUnionModel" ({ cls := "ParishUnionModel", name := "standsBy", desc := "(III)I" } : Jvm.MethodName) ({ cls := "ParishUnionModel", name := "standsBy", desc := "(III)I" } : Jvm.MethodName)) ∈ gT := gT_of (tb_0 _ (List.mem_of_getElem? (i := 74) rfl)) rfl
theorem dX12_appeal_32 : decode cX12_appeal 32 = .ok (.goto 4, 3) := dc_167 0 4 4 (by decide +kernel)
abbrev R_X12_appeal : Room := { frames := 75, cells := 0, slots := 0, locals := 3013 }
set_option maxRecDepth 100000 in
set_option maxHeartbeats 4000000 in
theorem s_X12_appeal {l : Launch} {n0 : Nat} {D : va_G} {cA : Nat → ClassId} {M : gM} (a : Int) (r_a : -2147483648 ≤ a ∧ a ≤ 2147483647) (b : Int) (r_b : -2147483648 ≤ b ∧ b ≤ 2147483647) (c : Int) (r_c : -2147483648 ≤ c ∧ c ≤ 2147483647) {sz : Nat} (hsz : 206 ≤ sz) (I : gI sz M) (C : gC sz M) (W : gW 191 M)  : Met l yX12_appeal (gWsOf yX12_appeal cX12_appeal 4 (Option.some Jvm.ClassFile.FieldType.int)) R_X12_appeal (gPc n0 D cA [gA n0 190, gJ a, gJ b, gJ c] M sz) (gQi n0 D cA sz (fun z M1 => (-1 ≤ z ∧ z ≤ 1) ∧ gI sz M1 ∧ gC sz M1 ∧ gFr 2475880189251224992055558144 M M1)) 0 0 (fun q => n0 ≤ q) := by
  refine gMetI [gA n0 190, gJ a, gJ b, gJ c] (by decide) (Nat.le_of_ble_eq_true rfl) ⟨rfl, rfl⟩ ?_
  intro p e s m args below meth cd Q X hq
  have X : gCx p s m args meth cd n0 D cA "ParishUnionModel" cX12_appeal 4 := X
  show G p l e R_X12_appeal s m args below meth cd n0 D cA 4 Q 0 0 M sz 0 [(0, gA n0 190), (1, gJ a), (2, gJ b), (3, gJ c)] []
  obtain ⟨v1, hv1, rv1⟩ := gRd I (by decide) (gsz hsz (by decide)) (rs_PERS (k := 1) (by omega)).1
  obtain ⟨v2, hv2, rv2⟩ := gRd I (by decide) (gsz hsz (by decide)) (rs_NO (k := 5) (by omega)).1
  refine g_aload_n (n := 1) X 0 dX12_appeal_0 rfl rfl rfl ?_
  refine g_iload_n (n := 2) X 1 dX12_appeal_1 rfl rfl rfl ?_
  refine g_callVi (n := 5) (As := [gJ a]) (rest := []) (cs1 := 0) (ss1 := 0) X (s_X12_isOrder a (by omega) hsz I C ) okX12_isOrder kw_7_102 ⟨kw_7_104, kw_0_73⟩ ⟨rfl, rfl⟩ ⟨Nat.le_of_ble_eq_true rfl, Nat.le_of_ble_eq_true rfl⟩ rfl (by decide) (gsz hsz (by decide)) lay_190 rfl rfl (Nat.le_of_ble_eq_true rfl) ⟨Nat.le_of_ble_eq_true rfl, Nat.le_of_ble_eq_true rfl⟩ rfl rfl dX12_appeal_2 rfl (fun v3 M4 P5 => ?_)
  obtain ⟨rfl, rv3, xv3⟩ := P5
  refine g_if_eq (n := 8) (tgt := 35) X dX12_appeal_5 (by decide) (by omega) rfl (fun c6 => ?_) (fun c6 => ?_)
  · refine g_iconst (n := 36) X dX12_appeal_35 rfl ?_
    exact hq _ _ _ _ dX12_appeal_36 ⟨by omega, I, C, gFr.rf⟩
  · refine g_iload_n (n := 9) X 2 dX12_appeal_8 rfl rfl rfl ?_
    refine g_iconst (n := 10) X dX12_appeal_9 rfl ?_
    refine g_iconst (n := 11) X dX12_appeal_10 rfl ?_
    refine g_callSi (n := 14) (As := [gJ b, gJ 0, gJ 1]) (rest := []) (cs1 := 0) (ss1 := 0) X (s_X12_in b (by omega) 0 (by omega) 1 (by omega) hsz I C ) okX12_in kw_6_106 kw_6_107 ⟨rfl, rfl⟩ ⟨Nat.le_of_ble_eq_true rfl, Nat.le_of_ble_eq_true rfl⟩ rfl rfl (Nat.le_of_ble_eq_true rfl) ⟨Nat.le_of_ble_eq_true rfl, Nat.le_of_ble_eq_true rfl⟩ rfl rfl dX12_appeal_11 rfl (fun v7 M8 P9 => ?_)
    obtain ⟨rfl, rv7, xv7⟩ := P9
    refine g_if_eq (n := 17) (tgt := 35) X dX12_appeal_14 (by decide) (by omega) rfl (fun c10 => ?_) (fun c10 => ?_)
    · refine g_iconst (n := 36) X dX12_appeal_35 rfl ?_
      exact hq _ _ _ _ dX12_appeal_36 ⟨by omega, I, C, gFr.rf⟩
    · refine g_aload_n (n := 18) X 0 dX12_appeal_17 rfl rfl rfl ?_
      refine g_iload_n (n := 19) X 3 dX12_appeal_18 rfl rfl rfl ?_
      refine g_callVi (n := 22) (As := [gJ c]) (rest := []) (cs1 := 0) (ss1 := 0) X (s_X12_isBy c (by omega) hsz I C ) okX12_isBy kw_6_181 ⟨kw_6_183, kw_0_46⟩ ⟨rfl, rfl⟩ ⟨Nat.le_of_ble_eq_true rfl, Nat.le_of_ble_eq_true rfl⟩ rfl (by decide) (gsz hsz (by decide)) lay_190 rfl rfl (Nat.le_of_ble_eq_true rfl) ⟨Nat.le_of_ble_eq_true rfl, Nat.le_of_ble_eq_true rfl⟩ rfl rfl dX12_appeal_19 rfl (fun v11 M12 P13 => ?_)
      obtain ⟨rfl, rv11, xv11⟩ := P13
      refine g_if_eq (n := 25) (tgt := 35) X dX12_appeal_22 (by decide) (by omega) rfl (fun c14 => ?_) (fun c14 => ?_)
      · refine g_iconst (n := 36) X dX12_appeal_35 rfl ?_
        exact hq _ _ _ _ dX12_appeal_36 ⟨by omega, I, C, gFr.rf⟩
      · refine g_aload_n (n := 26) X 0 dX12_appeal_25 rfl rfl rfl ?_
        refine g_iload_n (n := 27) X 1 dX12_appeal_26 rfl rfl rfl ?_
        refine g_iload_n (n := 28) X 2 dX12_appeal_27 rfl rfl rfl ?_
        refine g_iload_n (n := 29) X 3 dX12_appeal_28 rfl rfl rfl ?_
        refine g_callVi (n := 32) (As := [gJ a, gJ b, gJ c]) (rest := []) (cs1 := 0) (ss1 := 0) X (s_X12_standsBy a (by omega) b (by omega) c (by omega) hsz I C W (by have q1 := hv2; omega)) okX12_standsBy kw_7_106 ⟨kw_7_108, kw_0_74⟩ ⟨rfl, rfl⟩ ⟨Nat.le_of_ble_eq_true rfl, Nat.le_of_ble_eq_true rfl⟩ rfl (by decide) (gsz hsz (by decide)) lay_190 rfl rfl (Nat.le_of_ble_eq_true rfl) ⟨Nat.le_of_ble_eq_true rfl, Nat.le_of_ble_eq_true rfl⟩ rfl rfl dX12_appeal_29 rfl (fun v15 M16 P17 => ?_)
        obtain ⟨rv15, IM16, CM16, FM16⟩ := P17
        refine g_goto (tgt := 36) X dX12_appeal_32 (by decide) ?_
        exact hq _ _ _ _ dX12_appeal_36 ⟨by omega, IM16, CM16, (gFr.c gFr.rf FM16 rfl)⟩
theorem dX12_unlike_0 : decode cX12_unlike 0 = .ok (.aload_n 0, 1) := dc_42 (by decide +kernel)
theorem dX12_unlike_1 : decode cX12_unlike 1 = .ok (.iload_n 1, 1) := dc_27 (by decide +kernel)
theorem dX12_unlike_2 : decode cX12_unlike 2 = .ok (.invokevirtual 113, 3) := dc_182 0 113 (by decide +kernel)
theorem dX12_unlike_5 : decode cX12_unlike 5 = .ok (.ifCond .ne 5, 3) := dc_154 0 5 5 (by decide +kernel)
theorem dX12_unlike_10 : decode cX12_unlike 10 = .ok (.iconst 0, 1) := dc_3 (by decide +kernel)
theorem dX12_unlike_11 : decode cX12_unlike 11 = .ok (.istore_n 2, 1) := dc_61 (by decide +kernel)
theorem dX12_unlike_12 : decode cX12_unlike 12 = .ok (.iconst 0, 1) := dc_3 (by decide +kernel)
theorem dX12_unlike_13 : decode cX12_unlike 13 = .ok (.istore_n 3, 1) := dc_62 (by decide +kernel)
theorem dX12_unlike_14 : decode cX12_unlike 14 = .ok (.iload_n 3, 1) := dc_29 (by decide +kernel)
theorem dX12_unlike_15 : decode cX12_unlike 15 = .ok (.aload_n 0, 1) := dc_42 (by decide +kernel)
theorem dX12_unlike_16 : decode cX12_unlike 16 = .ok (.getfield 7, 3) := dc_180 0 7 (by decide +kernel)
theorem dX12_unlike_19 : decode cX12_unlike 19 = .ok (.iconst 5, 1) := dc_8 (by decide +kernel)
theorem dX12_unlike_20 : decode cX12_unlike 20 = .ok (.iaload, 1) := dc_46 (by decide +kernel)
theorem dX12_unlike_21 : decode cX12_unlike 21 = .ok (.if_icmp .ge 36, 3) := dc_162 0 36 36 (by decide +kernel)
theorem dX12_unlike_57 : decode cX12_unlike 57 = .ok (.iload_n 2, 1) := dc_28 (by decide +kernel)
theorem dX12_unlike_58 : decode cX12_unlike 58 = .ok (.ireturn, 1) := dc_172 (by decide +kernel)
theorem dX12_unlike_24 : decode cX12_unlike 24 = .ok (.iload_n 2, 1) := dc_28 (by decide +kernel)
theorem dX12_unlike_25 : decode cX12_unlike 25 = .ok (.aload_n 0, 1) := dc_42 (by decide +kernel)
theorem dX12_unlike_26 : decode cX12_unlike 26 = .ok (.iload_n 3, 1) := dc_29 (by decide +kernel)
theorem dX12_unlike_27 : decode cX12_unlike 27 = .ok (.iconst 0, 1) := dc_3 (by decide +kernel)
theorem dX12_unlike_28 : decode cX12_unlike 28 = .ok (.iload_n 1, 1) := dc_27 (by decide +kernel)
theorem dX12_unlike_29 : decode cX12_unlike 29 = .ok (.invokevirtual 251, 3) := dc_182 0 251 (by decide +kernel)
theorem dX12_unlike_32 : decode cX12_unlike 32 = .ok (.aload_n 0, 1) := dc_42 (by decide +kernel)
theorem dX12_unlike_33 : decode cX12_unlike 33 = .ok (.iload_n 3, 1) := dc_29 (by decide +kernel)
theorem dX12_unlike_34 : decode cX12_unlike 34 = .ok (.iconst 1, 1) := dc_4 (by decide +kernel)
theorem dX12_unlike_35 : decode cX12_unlike 35 = .ok (.iload_n 1, 1) := dc_27 (by decide +kernel)
theorem dX12_unlike_36 : decode cX12_unlike 36 = .ok (.invokevirtual 251, 3) := dc_182 0 251 (by decide +kernel)
theorem dX12_unlike_39 : decode cX12_unlike 39 = .ok (.if_icmp .eq 9, 3) := dc_159 0 9 9 (by decide +kernel)
theorem dX12_unlike_48 : decode cX12_unlike 48 = .ok (.iconst 0, 1) := dc_3 (by decide +kernel)
theorem dX12_unlike_49 : decode cX12_unlike 49 = .ok (.ior, 1) := dc_128 (by decide +kernel)
theorem dX12_unlike_50 : decode cX12_unlike 50 = .ok (.istore_n 2, 1) := dc_61 (by decide +kernel)
theorem dX12_unlike_51 : decode cX12_unlike 51 = .ok (.iinc 3 1, 3) := dc_132 3 1 1 (by decide +kernel)
theorem dX12_unlike_54 : decode cX12_unlike 54 = .ok (.goto (-40), 3) := dc_167 255 216 (-40) (by decide +kernel)
theorem dX12_unlike_42 : decode cX12_unlike 42 = .ok (.iconst 1, 1) := dc_4 (by decide +kernel)
theorem dX12_unlike_43 : decode cX12_unlike 43 = .ok (.iload_n 3, 1) := dc_29 (by decide +kernel)
theorem dX12_unlike_44 : decode cX12_unlike 44 = .ok (.ishl, 1) := dc_120 (by decide +kernel)
theorem dX12_unlike_45 : decode cX12_unlike 45 = .ok (.goto 4, 3) := dc_167 0 4 4 (by decide +kernel)
theorem dX12_unlike_8 : decode cX12_unlike 8 = .ok (.iconst (-1), 1) := dc_2 (by decide +kernel)
theorem dX12_unlike_9 : decode cX12_unlike 9 = .ok (.ireturn, 1) := dc_172 (by decide +kernel)
abbrev R_X12_unlike : Room := { frames := 75, cells := 0, slots := 0, locals := 3013 }
set_option maxRecDepth 100000 in
set_option maxHeartbeats 4000000 in
theorem s_X12_unlike {l : Launch} {n0 : Nat} {D : va_G} {cA : Nat → ClassId} {M : gM} (a : Int) (r_a : -2147483648 ≤ a ∧ a ≤ 2147483647) {sz : Nat} (hsz : 206 ≤ sz) (I : gI sz M) (C : gC sz M) (W : gW 191 M)  : Met l yX12_unlike (gWsOf yX12_unlike cX12_unlike 4 (Option.some Jvm.ClassFile.FieldType.int)) R_X12_unlike (gPc n0 D cA [gA n0 190, gJ a] M sz) (gQi n0 D cA sz (fun z M1 => (-2147483648 ≤ z ∧ z ≤ 2147483647) ∧ gI sz M1 ∧ gC sz M1 ∧ gFr 2475880189251224992055558144 M M1)) 0 0 (fun q => n0 ≤ q) := by
  refine gMetI [gA n0 190, gJ a] (by decide) (Nat.le_of_ble_eq_true rfl) ⟨rfl, rfl⟩ ?_
  intro p e s m args below meth cd Q X hq
  have X : gCx p s m args meth cd n0 D cA "ParishUnionModel" cX12_unlike 4 := X
  show G p l e R_X12_unlike s m args below meth cd n0 D cA 4 Q 0 0 M sz 0 [(0, gA n0 190), (1, gJ a)] []
  obtain ⟨v1, hv1, rv1⟩ := gRd I (by decide) (gsz hsz (by decide)) (rs_PERS (k := 1) (by omega)).1
  obtain ⟨v2, hv2, rv2⟩ := gRd I (by decide) (gsz hsz (by decide)) (rs_NO (k := 5) (by omega)).1
  refine g_aload_n (n := 1) X 0 dX12_unlike_0 rfl rfl rfl ?_
  refine g_iload_n (n := 2) X 1 dX12_unlike_1 rfl rfl rfl ?_
  refine g_callVi (n := 5) (As := [gJ a]) (rest := []) (cs1 := 0) (ss1 := 0) X (s_X12_isBy a (by omega) hsz I C ) okX12_isBy kw_6_181 ⟨kw_6_183, kw_0_46⟩ ⟨rfl, rfl⟩ ⟨Nat.le_of_ble_eq_true rfl, Nat.le_of_ble_eq_true rfl⟩ rfl (by decide) (gsz hsz (by decide)) lay_190 rfl rfl (Nat.le_of_ble_eq_true rfl) ⟨Nat.le_of_ble_eq_true rfl, Nat.le_of_ble_eq_true rfl⟩ rfl rfl dX12_unlike_2 rfl (fun v3 M4 P5 => ?_)
  obtain ⟨rfl, rv3, xv3⟩ := P5
  refine g_if_ne (n := 8) (tgt := 10) X dX12_unlike_5 (by decide) (by omega) rfl (fun c6 => ?_) (fun c6 => ?_)
  · refine g_iconst (n := 11) X dX12_unlike_10 rfl ?_
    refine g_istore_n (n := 12) (L' := [(2, gJ 0), (0, gA n0 190), (1, gJ a)]) X dX12_unlike_11 rfl (by decide) rfl rfl ?_
    refine g_iconst (n := 13) X dX12_unlike_12 rfl ?_
    refine g_istore_n (n := 14) (L' := [(3, gJ 0), (2, gJ 0), (0, gA n0 190), (1, gJ a)]) X dX12_unlike_13 rfl (by decide) rfl rfl ?_
    have j10 : ∀ (N112 : Nat) (v7 v8 : Int) (M9 : gM) , (-2147483648 ≤ v7 ∧ v7 ≤ 2147483647) → (0 ≤ v8 ∧ v8 ≤ 20) → gI sz M9 → gC sz M9 → gFr 2475880189251224992055558144 M M9 → (20 - v8).toNat < N112 → G p l e R_X12_unlike s m args below meth cd n0 D cA 4 Q 0 0 M9 sz 14 [(0, gA n0 190), (1, gJ a), (2, gJ v7), (3, gJ v8)] [] := by
      intro N112; induction N112 with
      | zero => intro v7 v8 M9 rv7 rv8 IM9 CM9 FM9 hm114; exfalso; omega
      | succ N112 ih113 =>
        intro v7 v8 M9 rv7 rv8 IM9 CM9 FM9 hm114
        refine g_iload_n (n := 15) X 3 dX12_unlike_14 rfl rfl rfl ?_
        refine g_aload_n (n := 16) X 0 dX12_unlike_15 rfl rfl rfl ?_
        refine gg_12_1 (n := 19) (z := 191) X (by decide) (gsz hsz (by decide)) lay_190 kw_6_27 dX12_unlike_16 rfl (rf_190_1 IM9 (gsz hsz (by decide))) (by decide) ?_
        refine g_iconst (n := 20) X dX12_unlike_19 rfl ?_
        refine g_iald2 (n := 21) (v := v2) X (by decide) (gsz hsz (by decide)) lay_191 (by omega) (by omega) (by decide) dX12_unlike_20 rfl ((gFr.at FM9 (rs_NO (k := 5) (by omega)).2.2 rfl).trans hv2) ?_
        refine g_icmp_ge (n := 24) (tgt := 57) X dX12_unlike_21 (by decide) (by omega) (by omega) rfl (fun c115 => ?_) (fun c115 => ?_)
        · refine g_iload_n (n := 58) X 2 dX12_unlike_57 rfl rfl rfl ?_
          exact hq _ _ _ _ dX12_unlike_58 ⟨by omega, IM9, CM9, (gFr.c gFr.rf FM9 rfl)⟩
        · refine g_iload_n (n := 25) X 2 dX12_unlike_24 rfl rfl rfl ?_
          refine g_aload_n (n := 26) X 0 dX12_unlike_25 rfl rfl rfl ?_
          refine g_iload_n (n := 27) X 3 dX12_unlike_26 rfl rfl rfl ?_
          refine g_iconst (n := 28) X dX12_unlike_27 rfl ?_
          refine g_iload_n (n := 29) X 1 dX12_unlike_28 rfl rfl rfl ?_
          refine g_callVi (n := 32) (As := [gJ v8, gJ 0, gJ a]) (rest := [gJ v7]) (cs1 := 0) (ss1 := 0) X (s_X12_standsBy v8 (by omega) 0 (by omega) a (by omega) hsz IM9 CM9 (gW.fr (S := 2475880189251224992055558144) W ⟨sz, hsz, I⟩ (gFr.c gFr.rf FM9 rfl) rfl) (by have q1 := ((gFr.at FM9 (rs_NO (k := 5) (by omega)).2.2 rfl).trans hv2); omega)) okX12_standsBy kw_7_106 ⟨kw_7_108, kw_0_74⟩ ⟨rfl, rfl⟩ ⟨Nat.le_of_ble_eq_true rfl, Nat.le_of_ble_eq_true rfl⟩ rfl (by decide) (gsz hsz (by decide)) lay_190 rfl rfl (Nat.le_of_ble_eq_true rfl) ⟨Nat.le_of_ble_eq_true rfl, Nat.le_of_ble_eq_true rfl⟩ rfl rfl dX12_unlike_29 rfl (fun v116 M117 P118 => ?_)
          obtain ⟨rv116, IM117, CM117, FM117⟩ := P118
          refine g_aload_n (n := 33) X 0 dX12_unlike_32 rfl rfl rfl ?_
          refine g_iload_n (n := 34) X 3 dX12_unlike_33 rfl rfl rfl ?_
          refine g_iconst (n := 35) X dX12_unlike_34 rfl ?_
          refine g_iload_n (n := 36) X 1 dX12_unlike_35 rfl rfl rfl ?_
          refine g_callVi (n := 39) (As := [gJ v8, gJ 1, gJ a]) (rest := [gJ v116, gJ v7]) (cs1 := 0) (ss1 := 0) X (s_X12_standsBy v8 (by omega) 1 (by omega) a (by omega) hsz IM117 CM117 (gW.fr (S := 2475880189251224992055558144) W ⟨sz, hsz, I⟩ (gFr.c (gFr.c gFr.rf FM9 rfl) FM117 rfl) rfl) (by have q1 := ((gFr.at FM117 (rs_NO (k := 5) (by omega)).2.2 rfl).trans ((gFr.at FM9 (rs_NO (k := 5) (by omega)).2.2 rfl).trans hv2)); omega)) okX12_standsBy kw_7_106 ⟨kw_7_108, kw_0_74⟩ ⟨rfl, rfl⟩ ⟨Nat.le_of_ble_eq_true rfl, Nat.le_of_ble_eq_true rfl⟩ rfl (by decide) (gsz hsz (by decide)) lay_190 rfl rfl (Nat.le_of_ble_eq_true rfl) ⟨Nat.le_of_ble_eq_true rfl, Nat.le_of_ble_eq_true rfl⟩ rfl rfl dX12_unlike_36 rfl (fun v119 M120 P121 => ?_)
          obtain ⟨rv119, IM120, CM120, FM120⟩ := P121
          refine g_icmp_eq (n := 42) (tgt := 48) X dX12_unlike_39 (by decide) (by omega) (by omega) rfl (fun c122 => ?_) (fun c122 => ?_)
          · refine g_iconst (n := 49) X dX12_unlike_48 rfl ?_
            refine g_iorE (n := 50) (z := v7) X dX12_unlike_49 (gi_or0 _) rfl ?_
            refine g_istore_n (n := 51) (L' := [(2, gJ v7), (0, gA n0 190), (1, gJ a), (3, gJ v8)]) X dX12_unlike_50 rfl (by decide) rfl rfl ?_
            refine g_iinc (n := 54) (w := v8 + 1) (L' := [(3, gJ (v8 + 1)), (2, gJ v7), (0, gA n0 190), (1, gJ a)]) X 3 dX12_unlike_51 rfl rfl (by decide) rfl rfl ?_
            refine g_goto (tgt := 14) X dX12_unlike_54 (by decide) ?_
            refine G.sub (L' := [(0, gA n0 190), (1, gJ a), (2, gJ v7), (3, gJ (v8 + 1))]) [2, 3, 1, 0] rfl ?_
            exact ih113 v7 (v8 + 1) M120 (by omega) (by omega) IM120 CM120 (gFr.c (gFr.c (gFr.c gFr.rf FM9 rfl) FM117 rfl) FM120 rfl) (by omega)
          · refine g_iconst (n := 43) X dX12_unlike_42 rfl ?_
            refine g_iload_n (n := 44) X 3 dX12_unlike_43 rfl rfl rfl ?_
            refine g_ishlA (n := 45) X dX12_unlike_44 rfl (fun v123 rv123 xv123 => ?_)
            clear xv123
            refine g_goto (tgt := 49) X dX12_unlike_45 (by decide) ?_
            refine g_iorA (n := 50) X dX12_unlike_49 rfl (fun v124 rv124 xv124 => ?_)
            clear xv124
            refine g_istore_n (n := 51) (L' := [(2, gJ v124), (0, gA n0 190), (1, gJ a), (3, gJ v8)]) X dX12_unlike_50 rfl (by decide) rfl rfl ?_
            refine g_iinc (n := 54) (w := v8 + 1) (L' := [(3, gJ (v8 + 1)), (2, gJ v124), (0, gA n0 190), (1, gJ a)]) X 3 dX12_unlike_51 rfl rfl (by decide) rfl rfl ?_
            refine g_goto (tgt := 14) X dX12_unlike_54 (by decide) ?_
            refine G.sub (L' := [(0, gA n0 190), (1, gJ a), (2, gJ v124), (3, gJ (v8 + 1))]) [2, 3, 1, 0] rfl ?_
            exact ih113 v124 (v8 + 1) M120 (by omega) (by omega) IM120 CM120 (gFr.c (gFr.c (gFr.c gFr.rf FM9 rfl) FM117 rfl) FM120 rfl) (by omega)
    refine G.sub (L' := [(0, gA n0 190), (1, gJ a), (2, gJ 0), (3, gJ 0)]) [2, 3, 1, 0] rfl ?_
    exact j10 _ 0 0 M (by omega) (by omega) I C gFr.rf (Nat.lt_succ_self _)
  · refine g_iconst (n := 9) X dX12_unlike_8 rfl ?_
    exact hq _ _ _ _ dX12_unlike_9 ⟨by omega, I, C, gFr.rf⟩
theorem dX12_parts_0 : decode cX12_parts 0 = .ok (.aload_n 0, 1) := dc_42 (by decide +kernel)
theorem dX12_parts_1 : decode cX12_parts 1 = .ok (.bipush 7, 2) := dc_16 7 7 (by decide +kernel)
theorem dX12_parts_3 : decode cX12_parts 3 = .ok (.iload_n 1, 1) := dc_27 (by decide +kernel)
theorem dX12_parts_4 : decode cX12_parts 4 = .ok (.invokevirtual 101, 3) := dc_182 0 101 (by decide +kernel)
theorem dX12_parts_7 : decode cX12_parts 7 = .ok (.istore_n 3, 1) := dc_62 (by decide +kernel)
theorem dX12_parts_8 : decode cX12_parts 8 = .ok (.iconst 0, 1) := dc_3 (by decide +kernel)
theorem dX12_parts_9 : decode cX12_parts 9 = .ok (.istore 4, 2) := dc_54 4 (by decide +kernel)
theorem dX12_parts_11 : decode cX12_parts 11 = .ok (.iload 4, 2) := dc_21 4 (by decide +kernel)
theorem dX12_parts_13 : decode cX12_parts 13 = .ok (.bipush 6, 2) := dc_16 6 6 (by decide +kernel)
theorem dX12_parts_15 : decode cX12_parts 15 = .ok (.if_icmp .ge 44, 3) := dc_162 0 44 44 (by decide +kernel)
theorem dX12_parts_18 : decode cX12_parts 18 = .ok (.aload_n 0, 1) := dc_42 (by decide +kernel)
theorem dX12_parts_19 : decode cX12_parts 19 = .ok (.getfield 48, 3) := dc_180 0 48 (by decide +kernel)
theorem kw_6_46 : (Jvm.Cond.fieldLink "ParishUnionModel" (48 : Nat) "ParishUnionModel" "weights" "[J") ∈ gT := gT_of (tb_6 _ (List.mem_of_getElem? (i := 46) rfl)) rfl
theorem rf_190_20 {sz : Nat} {M : gM} (I : gI sz M) (h : (190 : Int) < (sz : Int)) : M 190 20 = 202 + 1 := gI.rf I (by decide) h (by decide +kernel)
theorem dX12_parts_22 : decode cX12_parts 22 = .ok (.iload 4, 2) := dc_21 4 (by decide +kernel)
theorem dX12_parts_24 : decode cX12_parts 24 = .ok (.iload_n 3, 1) := dc_29 (by decide +kernel)
theorem dX12_parts_25 : decode cX12_parts 25 = .ok (.ifCond .ne 17, 3) := dc_154 0 17 17 (by decide +kernel)
theorem dX12_parts_42 : decode cX12_parts 42 = .ok (.iload_n 3, 1) := dc_29 (by decide +kernel)
theorem dX12_parts_43 : decode cX12_parts 43 = .ok (.iconst 1, 1) := dc_4 (by decide +kernel)
theorem dX12_parts_44 : decode cX12_parts 44 = .ok (.if_icmp .ne 7, 3) := dc_160 0 7 7 (by decide +kernel)
theorem dX12_parts_51 : decode cX12_parts 51 = .ok (.lconst 1, 1) := dc_10 (by decide +kernel)
theorem dX12_parts_52 : decode cX12_parts 52 = .ok (.lastore, 1) := dc_80 (by decide +kernel)
theorem ra_202 (k : Int) : gRg 202 k = (-9223372036854775808, 9223372036854775807) ∧ gCr 202 k = false ∧ gG 202 k = 65 := ⟨rfl, rfl, rfl⟩
theorem dX12_parts_53 : decode cX12_parts 53 = .ok (.iinc 4 1, 3) := dc_132 4 1 1 (by decide +kernel)
theorem dX12_parts_56 : decode cX12_parts 56 = .ok (.goto (-45), 3) := dc_167 255 211 (-45) (by decide +kernel)
theorem dX12_parts_47 : decode cX12_parts 47 = .ok (.lconst 0, 1) := dc_9 (by decide +kernel)
theorem dX12_parts_48 : decode cX12_parts 48 = .ok (.goto 4, 3) := dc_167 0 4 4 (by decide +kernel)
theorem dX12_parts_28 : decode cX12_parts 28 = .ok (.aload_n 0, 1) := dc_42 (by decide +kernel)
theorem dX12_parts_29 : decode cX12_parts 29 = .ok (.getfield 7, 3) := dc_180 0 7 (by decide +kernel)
theorem dX12_parts_32 : decode cX12_parts 32 = .ok (.bipush 16, 2) := dc_16 16 16 (by decide +kernel)
theorem dX12_parts_34 : decode cX12_parts 34 = .ok (.iload 4, 2) := dc_21 4 (by decide +kernel)
theorem dX12_parts_36 : decode cX12_parts 36 = .ok (.iadd, 1) := dc_96 (by decide +kernel)
theorem dX12_parts_37 : decode cX12_parts 37 = .ok (.iaload, 1) := dc_46 (by decide +kernel)
theorem dX12_parts_38 : decode cX12_parts 38 = .ok (.i2l, 1) := dc_133 (by decide +kernel)
theorem dX12_parts_39 : decode cX12_parts 39 = .ok (.goto 13, 3) := dc_167 0 13 13 (by decide +kernel)
theorem dX12_parts_59 : decode cX12_parts 59 = .ok (.iconst 0, 1) := dc_3 (by decide +kernel)
theorem dX12_parts_60 : decode cX12_parts 60 = .ok (.istore 4, 2) := dc_54 4 (by decide +kernel)
theorem dX12_parts_62 : decode cX12_parts 62 = .ok (.iload 4, 2) := dc_21 4 (by decide +kernel)
theorem dX12_parts_64 : decode cX12_parts 64 = .ok (.aload_n 0, 1) := dc_42 (by decide +kernel)
theorem dX12_parts_65 : decode cX12_parts 65 = .ok (.getfield 7, 3) := dc_180 0 7 (by decide +kernel)
theorem dX12_parts_68 : decode cX12_parts 68 = .ok (.sipush 25000, 3) := dc_17 97 168 25000 (by decide +kernel)
theorem dX12_parts_71 : decode cX12_parts 71 = .ok (.iload_n 1, 1) := dc_27 (by decide +kernel)
theorem dX12_parts_72 : decode cX12_parts 72 = .ok (.iadd, 1) := dc_96 (by decide +kernel)
theorem dX12_parts_73 : decode cX12_parts 73 = .ok (.iaload, 1) := dc_46 (by decide +kernel)
theorem dX12_parts_74 : decode cX12_parts 74 = .ok (.if_icmp .ge 100, 3) := dc_162 0 100 100 (by decide +kernel)
theorem dX12_parts_77 : decode cX12_parts 77 = .ok (.iload_n 3, 1) := dc_29 (by decide +kernel)
theorem dX12_parts_78 : decode cX12_parts 78 = .ok (.iconst 1, 1) := dc_4 (by decide +kernel)
theorem dX12_parts_79 : decode cX12_parts 79 = .ok (.if_icmp .ne 95, 3) := dc_160 0 95 95 (by decide +kernel)
theorem dX12_parts_82 : decode cX12_parts 82 = .ok (.aload_n 0, 1) := dc_42 (by decide +kernel)
theorem dX12_parts_83 : decode cX12_parts 83 = .ok (.getfield 7, 3) := dc_180 0 7 (by decide +kernel)
theorem dX12_parts_86 : decode cX12_parts 86 = .ok (.sipush 10216, 3) := dc_17 39 232 10216 (by decide +kernel)
theorem dX12_parts_89 : decode cX12_parts 89 = .ok (.sipush 301, 3) := dc_17 1 45 301 (by decide +kernel)
theorem dX12_parts_92 : decode cX12_parts 92 = .ok (.iload 4, 2) := dc_21 4 (by decide +kernel)
theorem dX12_parts_94 : decode cX12_parts 94 = .ok (.imul, 1) := dc_104 (by decide +kernel)
theorem dX12_parts_95 : decode cX12_parts 95 = .ok (.iadd, 1) := dc_96 (by decide +kernel)
theorem dX12_parts_96 : decode cX12_parts 96 = .ok (.iload_n 1, 1) := dc_27 (by decide +kernel)
theorem dX12_parts_97 : decode cX12_parts 97 = .ok (.iadd, 1) := dc_96 (by decide +kernel)
theorem dX12_parts_98 : decode cX12_parts 98 = .ok (.iaload, 1) := dc_46 (by decide +kernel)
theorem dX12_parts_99 : decode cX12_parts 99 = .ok (.ifCond .gt 23, 3) := dc_157 0 23 23 (by decide +kernel)
theorem dX12_parts_122 : decode cX12_parts 122 = .ok (.iconst 1, 1) := dc_4 (by decide +kernel)
theorem dX12_parts_123 : decode cX12_parts 123 = .ok (.goto 4, 3) := dc_167 0 4 4 (by decide +kernel)
theorem dX12_parts_127 : decode cX12_parts 127 = .ok (.istore 5, 2) := dc_54 5 (by decide +kernel)
theorem dX12_parts_129 : decode cX12_parts 129 = .ok (.iload 5, 2) := dc_21 5 (by decide +kernel)
theorem dX12_parts_131 : decode cX12_parts 131 = .ok (.ifCond .eq 15, 3) := dc_153 0 15 15 (by decide +kernel)
theorem dX12_parts_134 : decode cX12_parts 134 = .ok (.aload_n 0, 1) := dc_42 (by decide +kernel)
theorem dX12_parts_135 : decode cX12_parts 135 = .ok (.iload 4, 2) := dc_21 4 (by decide +kernel)
theorem dX12_parts_137 : decode cX12_parts 137 = .ok (.iconst 1, 1) := dc_4 (by decide +kernel)
theorem dX12_parts_138 : decode cX12_parts 138 = .ok (.iload_n 1, 1) := dc_27 (by decide +kernel)
theorem dX12_parts_139 : decode cX12_parts 139 = .ok (.iload_n 2, 1) := dc_28 (by decide +kernel)
theorem dX12_parts_140 : decode cX12_parts 140 = .ok (.invokevirtual 116, 3) := dc_182 0 116 (by decide +kernel)
theorem dX12_parts_143 : decode cX12_parts 143 = .ok (.goto 5, 3) := dc_167 0 5 5 (by decide +kernel)
theorem dX12_parts_148 : decode cX12_parts 148 = .ok (.istore 6, 2) := dc_54 6 (by decide +kernel)
theorem dX12_parts_150 : decode cX12_parts 150 = .ok (.iload 6, 2) := dc_21 6 (by decide +kernel)
theorem dX12_parts_152 : decode cX12_parts 152 = .ok (.bipush (-5), 2) := dc_16 251 (-5) (by decide +kernel)
theorem dX12_parts_154 : decode cX12_parts 154 = .ok (.if_icmp .eq 14, 3) := dc_159 0 14 14 (by decide +kernel)
theorem dX12_parts_168 : decode cX12_parts 168 = .ok (.iinc 4 1, 3) := dc_132 4 1 1 (by decide +kernel)
theorem dX12_parts_171 : decode cX12_parts 171 = .ok (.goto (-109), 3) := dc_167 255 147 (-109) (by decide +kernel)
theorem dX12_parts_157 : decode cX12_parts 157 = .ok (.aload_n 0, 1) := dc_42 (by decide +kernel)
theorem dX12_parts_158 : decode cX12_parts 158 = .ok (.getfield 48, 3) := dc_180 0 48 (by decide +kernel)
theorem dX12_parts_161 : decode cX12_parts 161 = .ok (.iload 6, 2) := dc_21 6 (by decide +kernel)
theorem dX12_parts_163 : decode cX12_parts 163 = .ok (.dup2, 1) := dc_92 (by decide +kernel)
theorem dX12_parts_164 : decode cX12_parts 164 = .ok (.laload, 1) := dc_47 (by decide +kernel)
theorem dX12_parts_165 : decode cX12_parts 165 = .ok (.lconst 1, 1) := dc_10 (by decide +kernel)
theorem dX12_parts_166 : decode cX12_parts 166 = .ok (.ladd, 1) := dc_97 (by decide +kernel)
theorem dX12_parts_167 : decode cX12_parts 167 = .ok (.lastore, 1) := dc_80 (by decide +kernel)
theorem dX12_parts_102 : decode cX12_parts 102 = .ok (.aload_n 0, 1) := dc_42 (by decide +kernel)
theorem dX12_parts_103 : decode cX12_parts 103 = .ok (.getfield 7, 3) := dc_180 0 7 (by decide +kernel)
theorem dX12_parts_106 : decode cX12_parts 106 = .ok (.sipush 15032, 3) := dc_17 58 184 15032 (by decide +kernel)
theorem dX12_parts_109 : decode cX12_parts 109 = .ok (.sipush 301, 3) := dc_17 1 45 301 (by decide +kernel)
theorem dX12_parts_112 : decode cX12_parts 112 = .ok (.iload 4, 2) := dc_21 4 (by decide +kernel)
theorem dX12_parts_114 : decode cX12_parts 114 = .ok (.imul, 1) := dc_104 (by decide +kernel)
theorem dX12_parts_115 : decode cX12_parts 115 = .ok (.iadd, 1) := dc_96 (by decide +kernel)
theorem dX12_parts_116 : decode cX12_parts 116 = .ok (.iload_n 1, 1) := dc_27 (by decide +kernel)
theorem dX12_parts_117 : decode cX12_parts 117 = .ok (.iadd, 1) := dc_96 (by decide +kernel)
theorem dX12_parts_118 : decode cX12_parts 118 = .ok (.iaload, 1) := dc_46 (by decide +kernel)
theorem dX12_parts_119 : decode cX12_parts 119 = .ok (.ifCond .le 7, 3) := dc_158 0 7 7 (by decide +kernel)
theorem dX12_parts_126 : decode cX12_parts 126 = .ok (.iconst 0, 1) := dc_3 (by decide +kernel)
theorem dX12_parts_146 : decode cX12_parts 146 = .ok (.bipush (-5), 2) := dc_16 251 (-5) (by decide +kernel)
theorem dX12_parts_174 : decode cX12_parts 174 = .ok (.lconst 0, 1) := dc_9 (by decide +kernel)
theorem dX12_parts_175 : decode cX12_parts 175 = .ok (.lstore 4, 2) := dc_55 4 (by decide +kernel)
theorem dX12_parts_177 : decode cX12_parts 177 = .ok (.iconst 0, 1) := dc_3 (by decide +kernel)
theorem dX12_parts_178 : decode cX12_parts 178 = .ok (.istore 6, 2) := dc_54 6 (by decide +kernel)
theorem dX12_parts_180 : decode cX12_parts 180 = .ok (.iload 6, 2) := dc_21 6 (by decide +kernel)
theorem dX12_parts_182 : decode cX12_parts 182 = .ok (.bipush 6, 2) := dc_16 6 6 (by decide +kernel)
theorem dX12_parts_184 : decode cX12_parts 184 = .ok (.if_icmp .ge 21, 3) := dc_162 0 21 21 (by decide +kernel)
theorem dX12_parts_187 : decode cX12_parts 187 = .ok (.lload 4, 2) := dc_22 4 (by decide +kernel)
theorem dX12_parts_189 : decode cX12_parts 189 = .ok (.aload_n 0, 1) := dc_42 (by decide +kernel)
theorem dX12_parts_190 : decode cX12_parts 190 = .ok (.getfield 48, 3) := dc_180 0 48 (by decide +kernel)
theorem dX12_parts_193 : decode cX12_parts 193 = .ok (.iload 6, 2) := dc_21 6 (by decide +kernel)
theorem dX12_parts_195 : decode cX12_parts 195 = .ok (.laload, 1) := dc_47 (by decide +kernel)
theorem dX12_parts_196 : decode cX12_parts 196 = .ok (.ladd, 1) := dc_97 (by decide +kernel)
theorem dX12_parts_197 : decode cX12_parts 197 = .ok (.lstore 4, 2) := dc_55 4 (by decide +kernel)
theorem dX12_parts_199 : decode cX12_parts 199 = .ok (.iinc 6 1, 3) := dc_132 6 1 1 (by decide +kernel)
theorem dX12_parts_202 : decode cX12_parts 202 = .ok (.goto (-22), 3) := dc_167 255 234 (-22) (by decide +kernel)
theorem dX12_parts_205 : decode cX12_parts 205 = .ok (.iconst 0, 1) := dc_3 (by decide +kernel)
theorem dX12_parts_206 : decode cX12_parts 206 = .ok (.istore 6, 2) := dc_54 6 (by decide +kernel)
theorem dX12_parts_208 : decode cX12_parts 208 = .ok (.iload 6, 2) := dc_21 6 (by decide +kernel)
theorem dX12_parts_210 : decode cX12_parts 210 = .ok (.bipush 6, 2) := dc_16 6 6 (by decide +kernel)
theorem dX12_parts_212 : decode cX12_parts 212 = .ok (.if_icmp .ge 24, 3) := dc_162 0 24 24 (by decide +kernel)
theorem dX12_parts_215 : decode cX12_parts 215 = .ok (.lload 4, 2) := dc_22 4 (by decide +kernel)
theorem dX12_parts_217 : decode cX12_parts 217 = .ok (.lconst 0, 1) := dc_9 (by decide +kernel)
theorem dX12_parts_218 : decode cX12_parts 218 = .ok (.lcmp, 1) := dc_148 (by decide +kernel)
theorem dX12_parts_219 : decode cX12_parts 219 = .ok (.ifCond .ne 17, 3) := dc_154 0 17 17 (by decide +kernel)
theorem dX12_parts_222 : decode cX12_parts 222 = .ok (.aload_n 0, 1) := dc_42 (by decide +kernel)
theorem dX12_parts_223 : decode cX12_parts 223 = .ok (.getfield 48, 3) := dc_180 0 48 (by decide +kernel)
theorem dX12_parts_226 : decode cX12_parts 226 = .ok (.iload 6, 2) := dc_21 6 (by decide +kernel)
theorem dX12_parts_228 : decode cX12_parts 228 = .ok (.lconst 1, 1) := dc_10 (by decide +kernel)
theorem dX12_parts_229 : decode cX12_parts 229 = .ok (.lastore, 1) := dc_80 (by decide +kernel)
theorem dX12_parts_230 : decode cX12_parts 230 = .ok (.iinc 6 1, 3) := dc_132 6 1 1 (by decide +kernel)
theorem dX12_parts_233 : decode cX12_parts 233 = .ok (.goto (-25), 3) := dc_167 255 231 (-25) (by decide +kernel)
theorem dX12_parts_236 : decode cX12_parts 236 = .ok (.lload 4, 2) := dc_22 4 (by decide +kernel)
theorem dX12_parts_238 : decode cX12_parts 238 = .ok (.lconst 0, 1) := dc_9 (by decide +kernel)
theorem dX12_parts_239 : decode cX12_parts 239 = .ok (.lcmp, 1) := dc_148 (by decide +kernel)
theorem dX12_parts_240 : decode cX12_parts 240 = .ok (.ifCond .ne 9, 3) := dc_154 0 9 9 (by decide +kernel)
theorem dX12_parts_249 : decode cX12_parts 249 = .ok (.lload 4, 2) := dc_22 4 (by decide +kernel)
theorem dX12_parts_251 : decode cX12_parts 251 = .ok (.lstore 4, 2) := dc_55 4 (by decide +kernel)
theorem dX12_parts_253 : decode cX12_parts 253 = .ok (.aload_n 0, 1) := dc_42 (by decide +kernel)
theorem dX12_parts_254 : decode cX12_parts 254 = .ok (.iload_n 1, 1) := dc_27 (by decide +kernel)
theorem dX12_parts_255 : decode cX12_parts 255 = .ok (.invokevirtual 278, 3) := dc_182 1 22 (by decide +kernel)
theorem dX12_parts_258 : decode cX12_parts 258 = .ok (.i2l, 1) := dc_133 (by decide +kernel)
theorem dX12_parts_259 : decode cX12_parts 259 = .ok (.lstore 6, 2) := dc_55 6 (by decide +kernel)
theorem dX12_parts_261 : decode cX12_parts 261 = .ok (.lload 6, 2) := dc_22 6 (by decide +kernel)
theorem dX12_parts_263 : decode cX12_parts 263 = .ok (.lstore 8, 2) := dc_55 8 (by decide +kernel)
theorem dX12_parts_265 : decode cX12_parts 265 = .ok (.iconst 0, 1) := dc_3 (by decide +kernel)
theorem dX12_parts_266 : decode cX12_parts 266 = .ok (.istore 10, 2) := dc_54 10 (by decide +kernel)
theorem dX12_parts_268 : decode cX12_parts 268 = .ok (.iload 10, 2) := dc_21 10 (by decide +kernel)
theorem dX12_parts_270 : decode cX12_parts 270 = .ok (.bipush 6, 2) := dc_16 6 6 (by decide +kernel)
theorem dX12_parts_272 : decode cX12_parts 272 = .ok (.if_icmp .ge 63, 3) := dc_162 0 63 63 (by decide +kernel)
theorem dX12_parts_275 : decode cX12_parts 275 = .ok (.aload_n 0, 1) := dc_42 (by decide +kernel)
theorem dX12_parts_276 : decode cX12_parts 276 = .ok (.getfield 55, 3) := dc_180 0 55 (by decide +kernel)
theorem kw_6_48 : (Jvm.Cond.fieldLink "ParishUnionModel" (55 : Nat) "ParishUnionModel" "shares" "[I") ∈ gT := gT_of (tb_6 _ (List.mem_of_getElem? (i := 48) rfl)) rfl
theorem rf_190_22 {sz : Nat} {M : gM} (I : gI sz M) (h : (190 : Int) < (sz : Int)) : M 190 22 = 204 + 1 := gI.rf I (by decide) h (by decide +kernel)
theorem dX12_parts_279 : decode cX12_parts 279 = .ok (.iload 10, 2) := dc_21 10 (by decide +kernel)
theorem dX12_parts_281 : decode cX12_parts 281 = .ok (.lload 6, 2) := dc_22 6 (by decide +kernel)
theorem dX12_parts_283 : decode cX12_parts 283 = .ok (.aload_n 0, 1) := dc_42 (by decide +kernel)
theorem dX12_parts_284 : decode cX12_parts 284 = .ok (.getfield 48, 3) := dc_180 0 48 (by decide +kernel)
theorem dX12_parts_287 : decode cX12_parts 287 = .ok (.iload 10, 2) := dc_21 10 (by decide +kernel)
theorem dX12_parts_289 : decode cX12_parts 289 = .ok (.laload, 1) := dc_47 (by decide +kernel)
theorem dX12_parts_290 : decode cX12_parts 290 = .ok (.lmul, 1) := dc_105 (by decide +kernel)
theorem dX12_parts_291 : decode cX12_parts 291 = .ok (.lload 4, 2) := dc_22 4 (by decide +kernel)
theorem dX12_parts_293 : decode cX12_parts 293 = .ok (.ldiv, 1) := dc_109 (by decide +kernel)
theorem dX12_parts_294 : decode cX12_parts 294 = .ok (.l2i, 1) := dc_136 (by decide +kernel)
theorem dX12_parts_295 : decode cX12_parts 295 = .ok (.iastore, 1) := dc_79 (by decide +kernel)
theorem ra_204 (k : Int) : gRg 204 k = (-2147483648, 2147483647) ∧ gCr 204 k = false ∧ gG 204 k = 65 := ⟨rfl, rfl, rfl⟩
theorem dX12_parts_296 : decode cX12_parts 296 = .ok (.aload_n 0, 1) := dc_42 (by decide +kernel)
theorem dX12_parts_297 : decode cX12_parts 297 = .ok (.getfield 52, 3) := dc_180 0 52 (by decide +kernel)
theorem kw_6_47 : (Jvm.Cond.fieldLink "ParishUnionModel" (52 : Nat) "ParishUnionModel" "rests" "[J") ∈ gT := gT_of (tb_6 _ (List.mem_of_getElem? (i := 47) rfl)) rfl
theorem rf_190_21 {sz : Nat} {M : gM} (I : gI sz M) (h : (190 : Int) < (sz : Int)) : M 190 21 = 203 + 1 := gI.rf I (by decide) h (by decide +kernel)
theorem dX12_parts_300 : decode cX12_parts 300 = .ok (.iload 10, 2) := dc_21 10 (by decide +kernel)
theorem dX12_parts_302 : decode cX12_parts 302 = .ok (.lload 6, 2) := dc_22 6 (by decide +kernel)
theorem dX12_parts_304 : decode cX12_parts 304 = .ok (.aload_n 0, 1) := dc_42 (by decide +kernel)
theorem dX12_parts_305 : decode cX12_parts 305 = .ok (.getfield 48, 3) := dc_180 0 48 (by decide +kernel)
theorem dX12_parts_308 : decode cX12_parts 308 = .ok (.iload 10, 2) := dc_21 10 (by decide +kernel)
theorem dX12_parts_310 : decode cX12_parts 310 = .ok (.laload, 1) := dc_47 (by decide +kernel)
theorem dX12_parts_311 : decode cX12_parts 311 = .ok (.lmul, 1) := dc_105 (by decide +kernel)
theorem dX12_parts_312 : decode cX12_parts 312 = .ok (.lload 4, 2) := dc_22 4 (by decide +kernel)
theorem dX12_parts_314 : decode cX12_parts 314 = .ok (.lrem, 1) := dc_113 (by decide +kernel)
theorem dX12_parts_315 : decode cX12_parts 315 = .ok (.lastore, 1) := dc_80 (by decide +kernel)
theorem ra_203 (k : Int) : gRg 203 k = (-9223372036854775808, 9223372036854775807) ∧ gCr 203 k = false ∧ gG 203 k = 65 := ⟨rfl, rfl, rfl⟩
theorem dX12_parts_316 : decode cX12_parts 316 = .ok (.lload 8, 2) := dc_22 8 (by decide +kernel)
theorem dX12_parts_318 : decode cX12_parts 318 = .ok (.aload_n 0, 1) := dc_42 (by decide +kernel)
theorem dX12_parts_319 : decode cX12_parts 319 = .ok (.getfield 55, 3) := dc_180 0 55 (by decide +kernel)
theorem dX12_parts_322 : decode cX12_parts 322 = .ok (.iload 10, 2) := dc_21 10 (by decide +kernel)
theorem dX12_parts_324 : decode cX12_parts 324 = .ok (.iaload, 1) := dc_46 (by decide +kernel)
theorem dX12_parts_325 : decode cX12_parts 325 = .ok (.i2l, 1) := dc_133 (by decide +kernel)
theorem dX12_parts_326 : decode cX12_parts 326 = .ok (.lsub, 1) := dc_101 (by decide +kernel)
theorem dX12_parts_327 : decode cX12_parts 327 = .ok (.lstore 8, 2) := dc_55 8 (by decide +kernel)
theorem dX12_parts_329 : decode cX12_parts 329 = .ok (.iinc 10 1, 3) := dc_132 10 1 1 (by decide +kernel)
theorem dX12_parts_332 : decode cX12_parts 332 = .ok (.goto (-64), 3) := dc_167 255 192 (-64) (by decide +kernel)
theorem dX12_parts_335 : decode cX12_parts 335 = .ok (.lload 8, 2) := dc_22 8 (by decide +kernel)
theorem dX12_parts_337 : decode cX12_parts 337 = .ok (.lconst 0, 1) := dc_9 (by decide +kernel)
theorem dX12_parts_338 : decode cX12_parts 338 = .ok (.lcmp, 1) := dc_148 (by decide +kernel)
theorem dX12_parts_339 : decode cX12_parts 339 = .ok (.ifCond .le 79, 3) := dc_158 0 79 79 (by decide +kernel)
theorem dX12_parts_418 : decode cX12_parts 418 = .ok (.return_, 1) := dc_177 (by decide +kernel)
theorem dX12_parts_342 : decode cX12_parts 342 = .ok (.iconst 0, 1) := dc_3 (by decide +kernel)
theorem dX12_parts_343 : decode cX12_parts 343 = .ok (.istore 10, 2) := dc_54 10 (by decide +kernel)
theorem dX12_parts_345 : decode cX12_parts 345 = .ok (.iconst 1, 1) := dc_4 (by decide +kernel)
theorem dX12_parts_346 : decode cX12_parts 346 = .ok (.istore 11, 2) := dc_54 11 (by decide +kernel)
theorem dX12_parts_348 : decode cX12_parts 348 = .ok (.iload 11, 2) := dc_21 11 (by decide +kernel)
theorem dX12_parts_350 : decode cX12_parts 350 = .ok (.bipush 6, 2) := dc_16 6 6 (by decide +kernel)
theorem dX12_parts_352 : decode cX12_parts 352 = .ok (.if_icmp .ge 36, 3) := dc_162 0 36 36 (by decide +kernel)
theorem dX12_parts_355 : decode cX12_parts 355 = .ok (.aload_n 0, 1) := dc_42 (by decide +kernel)
theorem dX12_parts_356 : decode cX12_parts 356 = .ok (.getfield 52, 3) := dc_180 0 52 (by decide +kernel)
theorem dX12_parts_359 : decode cX12_parts 359 = .ok (.iload 11, 2) := dc_21 11 (by decide +kernel)
theorem dX12_parts_361 : decode cX12_parts 361 = .ok (.laload, 1) := dc_47 (by decide +kernel)
theorem dX12_parts_362 : decode cX12_parts 362 = .ok (.aload_n 0, 1) := dc_42 (by decide +kernel)
theorem dX12_parts_363 : decode cX12_parts 363 = .ok (.getfield 52, 3) := dc_180 0 52 (by decide +kernel)
theorem dX12_parts_366 : decode cX12_parts 366 = .ok (.iload 10, 2) := dc_21 10 (by decide +kernel)
theorem dX12_parts_368 : decode cX12_parts 368 = .ok (.laload, 1) := dc_47 (by decide +kernel)
theorem dX12_parts_369 : decode cX12_parts 369 = .ok (.lcmp, 1) := dc_148 (by decide +kernel)
theorem dX12_parts_370 : decode cX12_parts 370 = .ok (.ifCond .le 8, 3) := dc_158 0 8 8 (by decide +kernel)
theorem dX12_parts_378 : decode cX12_parts 378 = .ok (.iload 10, 2) := dc_21 10 (by decide +kernel)
theorem dX12_parts_380 : decode cX12_parts 380 = .ok (.istore 10, 2) := dc_54 10 (by decide +kernel)
theorem dX12_parts_382 : decode cX12_parts 382 = .ok (.iinc 11 1, 3) := dc_132 11 1 1 (by decide +kernel)
theorem dX12_parts_385 : decode cX12_parts 385 = .ok (.goto (-37), 3) := dc_167 255 219 (-37) (by decide +kernel)
theorem dX12_parts_373 : decode cX12_parts 373 = .ok (.iload 11, 2) := dc_21 11 (by decide +kernel)
theorem dX12_parts_375 : decode cX12_parts 375 = .ok (.goto 5, 3) := dc_167 0 5 5 (by decide +kernel)
theorem dX12_parts_388 : decode cX12_parts 388 = .ok (.aload_n 0, 1) := dc_42 (by decide +kernel)
theorem dX12_parts_389 : decode cX12_parts 389 = .ok (.getfield 55, 3) := dc_180 0 55 (by decide +kernel)
theorem dX12_parts_392 : decode cX12_parts 392 = .ok (.iload 10, 2) := dc_21 10 (by decide +kernel)
theorem dX12_parts_394 : decode cX12_parts 394 = .ok (.dup2, 1) := dc_92 (by decide +kernel)
theorem dX12_parts_395 : decode cX12_parts 395 = .ok (.iaload, 1) := dc_46 (by decide +kernel)
theorem dX12_parts_396 : decode cX12_parts 396 = .ok (.iconst 1, 1) := dc_4 (by decide +kernel)
theorem dX12_parts_397 : decode cX12_parts 397 = .ok (.iadd, 1) := dc_96 (by decide +kernel)
theorem dX12_parts_398 : decode cX12_parts 398 = .ok (.iastore, 1) := dc_79 (by decide +kernel)
theorem dX12_parts_399 : decode cX12_parts 399 = .ok (.aload_n 0, 1) := dc_42 (by decide +kernel)
theorem dX12_parts_400 : decode cX12_parts 400 = .ok (.getfield 52, 3) := dc_180 0 52 (by decide +kernel)
theorem dX12_parts_403 : decode cX12_parts 403 = .ok (.iload 10, 2) := dc_21 10 (by decide +kernel)
theorem dX12_parts_405 : decode cX12_parts 405 = .ok (.ldc2_w 283, 3) := dc_20 1 27 (by decide +kernel)
theorem kw_7_191 : (Jvm.Cond.constantLong "ParishUnionModel" (283 : Nat) (-1 : Int64)) ∈ gT := gT_of (tb_7 _ (List.mem_of_getElem? (i := 191) rfl)) rfl
theorem dX12_parts_408 : decode cX12_parts 408 = .ok (.lastore, 1) := dc_80 (by decide +kernel)
theorem dX12_parts_409 : decode cX12_parts 409 = .ok (.lload 8, 2) := dc_22 8 (by decide +kernel)
theorem dX12_parts_411 : decode cX12_parts 411 = .ok (.lconst 1, 1) := dc_10 (by decide +kernel)
theorem dX12_parts_412 : decode cX12_parts 412 = .ok (.lsub, 1) := dc_101 (by decide +kernel)
theorem dX12_parts_413 : decode cX12_parts 413 = .ok (.lstore 8, 2) := dc_55 8 (by decide +kernel)
theorem dX12_parts_415 : decode cX12_parts 415 = .ok (.goto (-80), 3) := dc_167 255 176 (-80) (by decide +kernel)
theorem dX12_parts_243 : decode cX12_parts 243 = .ok (.ldc2_w 281, 3) := dc_20 1 25 (by decide +kernel)
theorem kw_7_190 : (Jvm.Cond.constantLong "ParishUnionModel" (281 : Nat) (6 : Int64)) ∈ gT := gT_of (tb_7 _ (List.mem_of_getElem? (i := 190) rfl)) rfl
theorem dX12_parts_246 : decode cX12_parts 246 = .ok (.goto 5, 3) := dc_167 0 5 5 (by decide +kernel)
abbrev R_X12_parts : Room := { frames := 74, cells := 0, slots := 0, locals := 2990 }
set_option maxRecDepth 100000 in
set_option maxHeartbeats 4000000 in
theorem s_X12_parts {l : Launch} {n0 : Nat} {D : va_G} {cA : Nat → ClassId} {M : gM} (a : Int) (r_a : 0 ≤ a ∧ a ≤ 299) (b : Int) (r_b : -1 ≤ b ∧ b ≤ 80) {sz : Nat} (hsz : 206 ≤ sz) (I : gI sz M) (C : gC sz M) (W : gW 191 M) (hw : a < M 191 0)  : Met l yX12_parts (gWsOf yX12_parts cX12_parts 12 (Option.none : Option Jvm.ClassFile.FieldType)) R_X12_parts (gPc n0 D cA [gA n0 190, gJ a, gJ b] M sz) (gQv n0 D cA sz (fun M1 => gI sz M1 ∧ gC sz M1 ∧ gFr 2475880189251224992055558144 M M1)) 0 0 (fun q => n0 ≤ q) := by
  refine gMetV [gA n0 190, gJ a, gJ b] (by decide) (Nat.le_of_ble_eq_true rfl) ⟨rfl, rfl⟩ ?_
  intro p e s m args below meth cd Q X hq
  have X : gCx p s m args meth cd n0 D cA "ParishUnionModel" cX12_parts 12 := X
  show G p l e R_X12_parts s m args below meth cd n0 D cA 12 Q 0 0 M sz 0 [(0, gA n0 190), (1, gJ a), (2, gJ b)] []
  obtain ⟨v1, hv1, rv1⟩ := gRd I (by decide) (gsz hsz (by decide)) (rs_PERS (k := 1) (by omega)).1
  obtain ⟨v2, hv2, rv2⟩ := gRd I (by decide) (gsz hsz (by decide)) (rs_NOW (k := 0) (by omega)).1
  refine g_aload_n (n := 1) X 0 dX12_parts_0 rfl rfl rfl ?_
  refine g_bipush (n := 3) X dX12_parts_1 (by decide +kernel) rfl ?_
  refine g_iload_n (n := 4) X 1 dX12_parts_3 rfl rfl rfl ?_
  refine g_callVi (n := 7) (As := [gJ 7, gJ a]) (rest := []) (cs1 := 0) (ss1 := 0) X (s_X12_law 7 (by omega) a (by omega) hsz I C ) okX12_law kw_6_193 ⟨kw_6_195, kw_0_49⟩ ⟨rfl, rfl⟩ ⟨Nat.le_of_ble_eq_true rfl, Nat.le_of_ble_eq_true rfl⟩ rfl (by decide) (gsz hsz (by decide)) lay_190 rfl rfl (Nat.le_of_ble_eq_true rfl) ⟨Nat.le_of_ble_eq_true rfl, Nat.le_of_ble_eq_true rfl⟩ rfl rfl dX12_parts_4 rfl (fun v3 M4 P5 => ?_)
  obtain ⟨rfl, rv3⟩ := P5
  refine g_istore_n (n := 8) (L' := [(3, gJ v3), (0, gA n0 190), (1, gJ a), (2, gJ b)]) X dX12_parts_7 rfl (by decide) rfl rfl ?_
  refine g_iconst (n := 9) X dX12_parts_8 rfl ?_
  refine g_istore (n := 11) (L' := [(4, gJ 0), (3, gJ v3), (0, gA n0 190), (1, gJ a), (2, gJ b)]) X dX12_parts_9 (by decide) rfl rfl ?_
  have j8 : ∀ (N404964 : Nat) (v6 : Int) (M7 : gM) , (0 ≤ v6 ∧ v6 ≤ 6) → gI sz M7 → gC sz M7 → gFr 36893488147419103232 M M7 → (6 - v6).toNat < N404964 → G p l e R_X12_parts s m args below meth cd n0 D cA 12 Q 0 0 M7 sz 11 [(0, gA n0 190), (1, gJ a), (2, gJ b), (3, gJ v3), (4, gJ v6)] [] := by
    intro N404964; induction N404964 with
    | zero => intro v6 M7 rv6 IM7 CM7 FM7 hm404966; exfalso; omega
    | succ N404964 ih404965 =>
      intro v6 M7 rv6 IM7 CM7 FM7 hm404966
      refine g_iload (n := 13) X 4 dX12_parts_11 rfl rfl ?_
      refine g_bipush (n := 15) X dX12_parts_13 (by decide +kernel) rfl ?_
      refine g_icmp_ge (n := 18) (tgt := 59) X dX12_parts_15 (by decide) (by omega) (by omega) rfl (fun c404967 => ?_) (fun c404967 => ?_)
      · refine g_iconst (n := 60) X dX12_parts_59 rfl ?_
        refine g_istore (n := 62) (L' := [(4, gJ 0), (0, gA n0 190), (1, gJ a), (2, gJ b), (3, gJ v3)]) X dX12_parts_60 (by decide) rfl rfl ?_
        have j404979 : ∀ (N769381 : Nat) (v404977 : Int) (M404978 : gM) , (0 ≤ v404977 ∧ v404977 ≤ 16) → gI sz M404978 → gC sz M404978 → gFr 2475880189251224992055558144 M7 M404978 → (16 - v404977).toNat < N769381 → G p l e R_X12_parts s m args below meth cd n0 D cA 12 Q 0 0 M404978 sz 62 [(0, gA n0 190), (1, gJ a), (2, gJ b), (3, gJ v3), (4, gJ v404977)] [] := by
          intro N769381; induction N769381 with
          | zero => intro v404977 M404978 rv404977 IM404978 CM404978 FM404978 hm769383; exfalso; omega
          | succ N769381 ih769382 =>
            intro v404977 M404978 rv404977 IM404978 CM404978 FM404978 hm769383
            refine g_iload (n := 64) X 4 dX12_parts_62 rfl rfl ?_
            refine g_aload_n (n := 65) X 0 dX12_parts_64 rfl rfl rfl ?_
            refine gg_12_1 (n := 68) (z := 191) X (by decide) (gsz hsz (by decide)) lay_190 kw_6_27 dX12_parts_65 rfl (rf_190_1 IM404978 (gsz hsz (by decide))) (by decide) ?_
            refine g_sipush (n := 71) X dX12_parts_68 (by decide +kernel) rfl ?_
            refine g_iload_n (n := 72) X 1 dX12_parts_71 rfl rfl rfl ?_
            refine g_iadd (n := 73) (z := a + 25000) X dX12_parts_72 (by omega) rfl ?_
            obtain ⟨v769384, hv769384, rv769384⟩ := gRd IM404978 (by decide) (gsz hsz (by decide)) (rs_GPERS (k := a + 25000) (by omega)).1
            refine g_iald2 (n := 74) (v := v769384) X (by decide) (gsz hsz (by decide)) lay_191 (by omega) (by omega) (by decide) dX12_parts_73 rfl hv769384 ?_
            have j769413 : G p l e R_X12_parts s m args below meth cd n0 D cA 12 Q 0 0 M404978 sz 174 [(0, gA n0 190), (1, gJ a)] [] := by
              refine g_lconst (n := 175) (z := 0) X dX12_parts_174 (by decide +kernel) rfl ?_
              refine g_lstore (n := 177) (L' := [(4, gV 0), (0, gA n0 190), (1, gJ a)]) X dX12_parts_175 (by decide) rfl rfl ?_
              refine g_iconst (n := 178) X dX12_parts_177 rfl ?_
              refine g_istore (n := 180) (L' := [(6, gJ 0), (4, gV 0), (0, gA n0 190), (1, gJ a)]) X dX12_parts_178 (by decide) rfl rfl ?_
              have j769417 : ∀ (N789636 : Nat) (v769414 v769415 : Int) , (-9223372036854775808 ≤ v769414 ∧ v769414 ≤ 9223372036854775807) → (0 ≤ v769415 ∧ v769415 ≤ 6) → (6 - v769415).toNat < N789636 → G p l e R_X12_parts s m args below meth cd n0 D cA 12 Q 0 0 M404978 sz 180 [(0, gA n0 190), (1, gJ a), (4, gV v769414), (6, gJ v769415)] [] := by
                intro N789636; induction N789636 with
                | zero => intro v769414 v769415 rv769414 rv769415 hm789638; exfalso; omega
                | succ N789636 ih789637 =>
                  intro v769414 v769415 rv769414 rv769415 hm789638
                  refine g_iload (n := 182) X 3 dX12_parts_180 rfl rfl ?_
                  refine g_bipush (n := 184) X dX12_parts_182 (by decide +kernel) rfl ?_
                  refine g_icmp_ge (n := 187) (tgt := 205) X dX12_parts_184 (by decide) (by omega) (by omega) rfl (fun c789639 => ?_) (fun c789639 => ?_)
                  · refine g_iconst (n := 206) X dX12_parts_205 rfl ?_
                    refine g_istore (n := 208) (L' := [(6, gJ 0), (0, gA n0 190), (1, gJ a), (4, gV v769414)]) X dX12_parts_206 (by decide) rfl rfl ?_
                    have j789644 : ∀ (N806473 : Nat) (v789642 : Int) (M789643 : gM) , (0 ≤ v789642 ∧ v789642 ≤ 6) → gI sz M789643 → gC sz M789643 → gFr 36893488147419103232 M404978 M789643 → (6 - v789642).toNat < N806473 → G p l e R_X12_parts s m args below meth cd n0 D cA 12 Q 0 0 M789643 sz 208 [(0, gA n0 190), (1, gJ a), (4, gV v769414), (6, gJ v789642)] [] := by
                      intro N806473; induction N806473 with
                      | zero => intro v789642 M789643 rv789642 IM789643 CM789643 FM789643 hm806475; exfalso; omega
                      | succ N806473 ih806474 =>
                        intro v789642 M789643 rv789642 IM789643 CM789643 FM789643 hm806475
                        refine g_iload (n := 210) X 3 dX12_parts_208 rfl rfl ?_
                        refine g_bipush (n := 212) X dX12_parts_210 (by decide +kernel) rfl ?_
                        have j806481 : G p l e R_X12_parts s m args below meth cd n0 D cA 12 Q 0 0 M789643 sz 236 [(0, gA n0 190), (1, gJ a), (4, gV v769414)] [] := by
                          refine g_lload (n := 238) X 2 dX12_parts_236 rfl rfl ?_
                          refine g_lconst (n := 239) (z := 0) X dX12_parts_238 (by decide +kernel) rfl ?_
                          refine g_lcmp2 (n := 240) X dX12_parts_239 (by omega) (by omega) rfl (fun v806482 xv806482 rv806482 => ?_)
                          refine g_if_ne (n := 243) (tgt := 249) X dX12_parts_240 (by decide) (by omega) rfl (fun c806483 => ?_) (fun c806483 => ?_)
                          · refine g_lload (n := 251) X 2 dX12_parts_249 rfl rfl ?_
                            refine g_lstore (n := 253) (L' := [(4, gV v769414), (0, gA n0 190), (1, gJ a)]) X dX12_parts_251 (by decide) rfl rfl ?_
                            refine g_aload_n (n := 254) X 1 dX12_parts_253 rfl rfl rfl ?_
                            refine g_iload_n (n := 255) X 2 dX12_parts_254 rfl rfl rfl ?_
                            refine g_callVi (n := 258) (As := [gJ a]) (rest := []) (cs1 := 0) (ss1 := 0) X (s_X12_costOf a (by omega) hsz IM789643 CM789643 ) okX12_costOf kw_7_174 ⟨kw_7_176, kw_0_83⟩ ⟨rfl, rfl⟩ ⟨Nat.le_of_ble_eq_true rfl, Nat.le_of_ble_eq_true rfl⟩ rfl (by decide) (gsz hsz (by decide)) lay_190 rfl rfl (Nat.le_of_ble_eq_true rfl) ⟨Nat.le_of_ble_eq_true rfl, Nat.le_of_ble_eq_true rfl⟩ rfl rfl dX12_parts_255 rfl (fun v806484 M806485 P806486 => ?_)
                            obtain ⟨rfl, rv806484⟩ := P806486
                            refine g_i2lE (n := 259) (z := v806484) X dX12_parts_258 (g_i2l (by omega)) rfl ?_
                            refine g_lstore (n := 261) (L' := [(6, gV v806484), (4, gV v769414), (0, gA n0 190), (1, gJ a)]) X dX12_parts_259 (by decide) rfl rfl ?_
                            refine g_lload (n := 263) X 0 dX12_parts_261 rfl rfl ?_
                            refine g_lstore (n := 265) (L' := [(8, gV v806484), (6, gV v806484), (4, gV v769414), (0, gA n0 190), (1, gJ a)]) X dX12_parts_263 (by decide) rfl rfl ?_
                            refine g_iconst (n := 266) X dX12_parts_265 rfl ?_
                            refine g_istore (n := 268) (L' := [(10, gJ 0), (8, gV v806484), (6, gV v806484), (4, gV v769414), (0, gA n0 190), (1, gJ a)]) X dX12_parts_266 (by decide) rfl rfl ?_
                            have j806490 : ∀ (N807977 : Nat) (v806487 v806488 : Int) (M806489 : gM) , (-9223372036854775808 ≤ v806487 ∧ v806487 ≤ 9223372036854775807) → (0 ≤ v806488 ∧ v806488 ≤ 6) → gI sz M806489 → gC sz M806489 → gFr 36893488147419103232 M789643 M806489 → (6 - v806488).toNat < N807977 → G p l e R_X12_parts s m args below meth cd n0 D cA 12 Q 0 0 M806489 sz 268 [(0, gA n0 190), (4, gV v769414), (6, gV v806484), (8, gV v806487), (10, gJ v806488)] [] := by
                              intro N807977; induction N807977 with
                              | zero => intro v806487 v806488 M806489 rv806487 rv806488 IM806489 CM806489 FM806489 hm807979; exfalso; omega
                              | succ N807977 ih807978 =>
                                intro v806487 v806488 M806489 rv806487 rv806488 IM806489 CM806489 FM806489 hm807979
                                refine g_iload (n := 270) X 4 dX12_parts_268 rfl rfl ?_
                                refine g_bipush (n := 272) X dX12_parts_270 (by decide +kernel) rfl ?_
                                refine g_icmp_ge (n := 275) (tgt := 335) X dX12_parts_272 (by decide) (by omega) (by omega) rfl (fun c807980 => ?_) (fun c807980 => ?_)
                                · have j807994 : ∀ (N808097 : Nat) (v807992 : Int) (M807993 : gM) , (-9223372036854775808 ≤ v807992 ∧ v807992 ≤ 9223372036854775807) → gI sz M807993 → gC sz M807993 → gFr 36893488147419103232 M806489 M807993 → (v807992 + 9223372036854775808).toNat < N808097 → G p l e R_X12_parts s m args below meth cd n0 D cA 12 Q 0 0 M807993 sz 335 [(0, gA n0 190), (8, gV v807992)] [] := by
                                    intro N808097; induction N808097 with
                                    | zero => intro v807992 M807993 rv807992 IM807993 CM807993 FM807993 hm808099; exfalso; omega
                                    | succ N808097 ih808098 =>
                                      intro v807992 M807993 rv807992 IM807993 CM807993 FM807993 hm808099
                                      refine g_lload (n := 337) X 1 dX12_parts_335 rfl rfl ?_
                                      refine g_lconst (n := 338) (z := 0) X dX12_parts_337 (by decide +kernel) rfl ?_
                                      refine g_lcmp2 (n := 339) X dX12_parts_338 (by omega) (by omega) rfl (fun v808100 xv808100 rv808100 => ?_)
                                      refine g_if_le (n := 342) (tgt := 418) X dX12_parts_339 (by decide) (by omega) rfl (fun c808101 => ?_) (fun c808101 => ?_)
                                      · exact hq _ _ _ dX12_parts_418 ⟨IM807993, CM807993, (gFr.c (gFr.c (gFr.c (gFr.c (gFr.c gFr.rf FM7 rfl) FM404978 rfl) FM789643 rfl) FM806489 rfl) FM807993 rfl)⟩
                                      · refine g_iconst (n := 343) X dX12_parts_342 rfl ?_
                                        refine g_istore (n := 345) (L' := [(10, gJ 0), (0, gA n0 190), (8, gV v807992)]) X dX12_parts_343 (by decide) rfl rfl ?_
                                        refine g_iconst (n := 346) X dX12_parts_345 rfl ?_
                                        refine g_istore (n := 348) (L' := [(11, gJ 1), (10, gJ 0), (0, gA n0 190), (8, gV v807992)]) X dX12_parts_346 (by decide) rfl rfl ?_
                                        have j808105 : ∀ (N808137 : Nat) (v808102 v808103 : Int) , (0 ≤ v808102 ∧ v808102 ≤ 5) → (1 ≤ v808103 ∧ v808103 ≤ 6) → (6 - v808103).toNat < N808137 → G p l e R_X12_parts s m args below meth cd n0 D cA 12 Q 0 0 M807993 sz 348 [(0, gA n0 190), (8, gV v807992), (10, gJ v808102), (11, gJ v808103)] [] := by
                                          intro N808137; induction N808137 with
                                          | zero => intro v808102 v808103 rv808102 rv808103 hm808139; exfalso; omega
                                          | succ N808137 ih808138 =>
                                            intro v808102 v808103 rv808102 rv808103 hm808139
                                            refine g_iload (n := 350) X 3 dX12_parts_348 rfl rfl ?_
                                            refine g_bipush (n := 352) X dX12_parts_350 (by decide +kernel) rfl ?_
                                            refine g_icmp_ge (n := 355) (tgt := 388) X dX12_parts_352 (by decide) (by omega) (by omega) rfl (fun c808140 => ?_) (fun c808140 => ?_)
                                            · refine g_aload_n (n := 389) X 0 dX12_parts_388 rfl rfl rfl ?_
                                              refine gg_12_22 (n := 392) (z := 204) X (by decide) (gsz hsz (by decide)) lay_190 kw_6_48 dX12_parts_389 rfl (rf_190_22 IM807993 (gsz hsz (by decide))) (by decide) ?_
                                              refine g_iload (n := 394) X 2 dX12_parts_392 rfl rfl ?_
                                              refine g_dup2 (n := 395) X dX12_parts_394 rfl rfl rfl ?_
                                              obtain ⟨v808141, hv808141, rv808141⟩ := gRd IM807993 (by decide) (gsz hsz (by decide)) (ra_204 v808102).1
                                              refine g_iald2 (n := 396) (v := v808141) X (by decide) (gsz hsz (by decide)) lay_204 (by omega) (by omega) (by decide) dX12_parts_395 rfl hv808141 ?_
                                              refine g_iconst (n := 397) X dX12_parts_396 rfl ?_
                                              refine g_iaddA (n := 398) X dX12_parts_397 rfl (fun v808142 rv808142 xv808142 => ?_)
                                              clear xv808142
                                              refine g_iast (n := 399) X (by decide) (gsz hsz (by decide)) lay_204 (by omega) (by omega) (by decide) dX12_parts_398 rfl ?_
                                              refine G.nm (fun M808143 e808144 => ?_)
                                              have IM808143 : gI sz M808143 := gI.set IM807993 (ra_204 v808102).1 (by omega) e808144
                                              have CM808143 : gC sz M808143 := gC.set CM807993 (ra_204 v808102).2.1 e808144
                                              refine g_aload_n (n := 400) X 0 dX12_parts_399 rfl rfl rfl ?_
                                              refine gg_12_21 (n := 403) (z := 203) X (by decide) (gsz hsz (by decide)) lay_190 kw_6_47 dX12_parts_400 rfl (rf_190_21 IM808143 (gsz hsz (by decide))) (by decide) ?_
                                              refine g_iload (n := 405) X 2 dX12_parts_403 rfl rfl ?_
                                              refine g_ldc2 (n := 408) (z := (-1)) X dX12_parts_405 kw_7_191 (by decide +kernel) rfl ?_
                                              refine g_last (n := 409) X (by decide) (gsz hsz (by decide)) lay_203 (by omega) (by omega) (by decide) dX12_parts_408 rfl ?_
                                              refine G.nm (fun M808145 e808146 => ?_)
                                              have IM808145 : gI sz M808145 := gI.set IM808143 (ra_203 v808102).1 (by omega) e808146
                                              have CM808145 : gC sz M808145 := gC.set CM808143 (ra_203 v808102).2.1 e808146
                                              refine g_lload (n := 411) X 1 dX12_parts_409 rfl rfl ?_
                                              refine g_lconst (n := 412) (z := 1) X dX12_parts_411 (by decide +kernel) rfl ?_
                                              refine g_lsub (n := 413) (z := v807992 - 1) X dX12_parts_412 (by omega) rfl ?_
                                              refine g_lstore (n := 415) (L' := [(8, gV (v807992 - 1)), (0, gA n0 190), (10, gJ v808102), (11, gJ v808103)]) X dX12_parts_413 (by decide) rfl rfl ?_
                                              refine g_goto (tgt := 335) X dX12_parts_415 (by decide) ?_
                                              refine G.sub (L' := [(0, gA n0 190), (8, gV (v807992 - 1))]) [1, 0] rfl ?_
                                              exact ih808098 (v807992 - 1) M808145 (by omega) IM808145 CM808145 (gFr.s (gFr.s (gFr.c gFr.rf FM807993 rfl) e808144 (ra_204 v808102).2.2 rfl) e808146 (ra_203 v808102).2.2 rfl) (by omega)
                                            · refine g_aload_n (n := 356) X 0 dX12_parts_355 rfl rfl rfl ?_
                                              refine gg_12_21 (n := 359) (z := 203) X (by decide) (gsz hsz (by decide)) lay_190 kw_6_47 dX12_parts_356 rfl (rf_190_21 IM807993 (gsz hsz (by decide))) (by decide) ?_
                                              refine g_iload (n := 361) X 3 dX12_parts_359 rfl rfl ?_
                                              obtain ⟨v808147, hv808147, rv808147⟩ := gRd IM807993 (by decide) (gsz hsz (by decide)) (ra_203 v808103).1
                                              refine g_lald2 (n := 362) (v := v808147) X (by decide) (gsz hsz (by decide)) lay_203 (by omega) (by omega) (by decide) dX12_parts_361 rfl hv808147 ?_
                                              refine g_aload_n (n := 363) X 0 dX12_parts_362 rfl rfl rfl ?_
                                              refine gg_12_21 (n := 366) (z := 203) X (by decide) (gsz hsz (by decide)) lay_190 kw_6_47 dX12_parts_363 rfl (rf_190_21 IM807993 (gsz hsz (by decide))) (by decide) ?_
                                              refine g_iload (n := 368) X 2 dX12_parts_366 rfl rfl ?_
                                              obtain ⟨v808148, hv808148, rv808148⟩ := gRd IM807993 (by decide) (gsz hsz (by decide)) (ra_203 v808102).1
                                              refine g_lald2 (n := 369) (v := v808148) X (by decide) (gsz hsz (by decide)) lay_203 (by omega) (by omega) (by decide) dX12_parts_368 rfl hv808148 ?_
                                              refine g_lcmp2 (n := 370) X dX12_parts_369 (by omega) (by omega) rfl (fun v808149 xv808149 rv808149 => ?_)
                                              refine g_if_le (n := 373) (tgt := 378) X dX12_parts_370 (by decide) (by omega) rfl (fun c808150 => ?_) (fun c808150 => ?_)
                                              · refine g_iload (n := 380) X 2 dX12_parts_378 rfl rfl ?_
                                                refine g_istore (n := 382) (L' := [(10, gJ v808102), (0, gA n0 190), (8, gV v807992), (11, gJ v808103)]) X dX12_parts_380 (by decide) rfl rfl ?_
                                                refine g_iinc (n := 385) (w := v808103 + 1) (L' := [(11, gJ (v808103 + 1)), (10, gJ v808102), (0, gA n0 190), (8, gV v807992)]) X 3 dX12_parts_382 rfl rfl (by decide) rfl rfl ?_
                                                refine g_goto (tgt := 348) X dX12_parts_385 (by decide) ?_
                                                refine G.sub (L' := [(0, gA n0 190), (8, gV v807992), (10, gJ v808102), (11, gJ (v808103 + 1))]) [2, 3, 1, 0] rfl ?_
                                                exact ih808138 v808102 (v808103 + 1) (by omega) (by omega) (by omega)
                                              · refine g_iload (n := 375) X 3 dX12_parts_373 rfl rfl ?_
                                                refine g_goto (tgt := 380) X dX12_parts_375 (by decide) ?_
                                                refine g_istore (n := 382) (L' := [(10, gJ v808103), (0, gA n0 190), (8, gV v807992), (11, gJ v808103)]) X dX12_parts_380 (by decide) rfl rfl ?_
                                                refine g_iinc (n := 385) (w := v808103 + 1) (L' := [(11, gJ (v808103 + 1)), (10, gJ v808103), (0, gA n0 190), (8, gV v807992)]) X 3 dX12_parts_382 rfl rfl (by decide) rfl rfl ?_
                                                refine g_goto (tgt := 348) X dX12_parts_385 (by decide) ?_
                                                refine G.sub (L' := [(0, gA n0 190), (8, gV v807992), (10, gJ v808103), (11, gJ (v808103 + 1))]) [2, 3, 1, 0] rfl ?_
                                                exact ih808138 v808103 (v808103 + 1) (by omega) (by omega) (by omega)
                                        refine G.sub (L' := [(0, gA n0 190), (8, gV v807992), (10, gJ 0), (11, gJ 1)]) [2, 3, 1, 0] rfl ?_
                                        exact j808105 _ 0 1 (by omega) (by omega) (Nat.lt_succ_self _)
                                  refine G.sub (L' := [(0, gA n0 190), (8, gV v806487)]) [0, 3] rfl ?_
                                  exact j807994 _ v806487 M806489 (by omega) IM806489 CM806489 gFr.rf (Nat.lt_succ_self _)
                                · refine g_aload_n (n := 276) X 0 dX12_parts_275 rfl rfl rfl ?_
                                  refine gg_12_22 (n := 279) (z := 204) X (by decide) (gsz hsz (by decide)) lay_190 kw_6_48 dX12_parts_276 rfl (rf_190_22 IM806489 (gsz hsz (by decide))) (by decide) ?_
                                  refine g_iload (n := 281) X 4 dX12_parts_279 rfl rfl ?_
                                  refine g_lload (n := 283) X 2 dX12_parts_281 rfl rfl ?_
                                  refine g_aload_n (n := 284) X 0 dX12_parts_283 rfl rfl rfl ?_
                                  refine gg_12_20 (n := 287) (z := 202) X (by decide) (gsz hsz (by decide)) lay_190 kw_6_46 dX12_parts_284 rfl (rf_190_20 IM806489 (gsz hsz (by decide))) (by decide) ?_
                                  refine g_iload (n := 289) X 4 dX12_parts_287 rfl rfl ?_
                                  obtain ⟨v808151, hv808151, rv808151⟩ := gRd IM806489 (by decide) (gsz hsz (by decide)) (ra_202 v806488).1
                                  refine g_lald2 (n := 290) (v := v808151) X (by decide) (gsz hsz (by decide)) lay_202 (by omega) (by omega) (by decide) dX12_parts_289 rfl hv808151 ?_
                                  refine g_lmulA (n := 291) X dX12_parts_290 rfl (fun v808152 rv808152 xv808152 => ?_)
                                  clear xv808152
                                  refine g_lload (n := 293) X 1 dX12_parts_291 rfl rfl ?_
                                  refine g_ldivA (n := 294) X dX12_parts_293 (g_lnz (by omega) (by omega)) rfl (fun v808153 rv808153 xv808153 => ?_)
                                  clear xv808153
                                  refine g_l2iA (n := 295) X dX12_parts_294 rfl (fun v808154 rv808154 xv808154 => ?_)
                                  clear xv808154
                                  refine g_iast (n := 296) X (by decide) (gsz hsz (by decide)) lay_204 (by omega) (by omega) (by decide) dX12_parts_295 rfl ?_
                                  refine G.nm (fun M808155 e808156 => ?_)
                                  have IM808155 : gI sz M808155 := gI.set IM806489 (ra_204 v806488).1 (by omega) e808156
                                  have CM808155 : gC sz M808155 := gC.set CM806489 (ra_204 v806488).2.1 e808156
                                  refine g_aload_n (n := 297) X 0 dX12_parts_296 rfl rfl rfl ?_
                                  refine gg_12_21 (n := 300) (z := 203) X (by decide) (gsz hsz (by decide)) lay_190 kw_6_47 dX12_parts_297 rfl (rf_190_21 IM808155 (gsz hsz (by decide))) (by decide) ?_
                                  refine g_iload (n := 302) X 4 dX12_parts_300 rfl rfl ?_
                                  refine g_lload (n := 304) X 2 dX12_parts_302 rfl rfl ?_
                                  refine g_aload_n (n := 305) X 0 dX12_parts_304 rfl rfl rfl ?_
                                  refine gg_12_20 (n := 308) (z := 202) X (by decide) (gsz hsz (by decide)) lay_190 kw_6_46 dX12_parts_305 rfl (rf_190_20 IM808155 (gsz hsz (by decide))) (by decide) ?_
                                  refine g_iload (n := 310) X 4 dX12_parts_308 rfl rfl ?_
                                  refine g_lald2 (n := 311) (v := v808151) X (by decide) (gsz hsz (by decide)) lay_202 (by omega) (by omega) (by decide) dX12_parts_310 rfl ((congrFun (congrFun e808156 _) _).trans ((gset_ne (by omega)).trans hv808151)) ?_
                                  refine g_lmulA (n := 312) X dX12_parts_311 rfl (fun v808157 rv808157 xv808157 => ?_)
                                  clear xv808157
                                  refine g_lload (n := 314) X 1 dX12_parts_312 rfl rfl ?_
                                  refine g_lremA (n := 315) X dX12_parts_314 (g_lnz (by omega) (by omega)) rfl (fun v808158 rv808158 xv808158 => ?_)
                                  clear xv808158
                                  refine g_last (n := 316) X (by decide) (gsz hsz (by decide)) lay_203 (by omega) (by omega) (by decide) dX12_parts_315 rfl ?_
                                  refine G.nm (fun M808159 e808160 => ?_)
                                  have IM808159 : gI sz M808159 := gI.set IM808155 (ra_203 v806488).1 (by omega) e808160
                                  have CM808159 : gC sz M808159 := gC.set CM808155 (ra_203 v806488).2.1 e808160
                                  refine g_lload (n := 318) X 3 dX12_parts_316 rfl rfl ?_
                                  refine g_aload_n (n := 319) X 0 dX12_parts_318 rfl rfl rfl ?_
                                  refine gg_12_22 (n := 322) (z := 204) X (by decide) (gsz hsz (by decide)) lay_190 kw_6_48 dX12_parts_319 rfl (rf_190_22 IM808159 (gsz hsz (by decide))) (by decide) ?_
                                  refine g_iload (n := 324) X 4 dX12_parts_322 rfl rfl ?_
                                  refine g_iald2 (n := 325) (v := v808154) X (by decide) (gsz hsz (by decide)) lay_204 (by omega) (by omega) (by decide) dX12_parts_324 rfl ((congrFun (congrFun e808160 _) _).trans ((gset_ne (by omega)).trans ((congrFun (congrFun e808156 _) _).trans (gset_eq _ _ _ _)))) ?_
                                  refine g_i2lE (n := 326) (z := v808154) X dX12_parts_325 (g_i2l (by omega)) rfl ?_
                                  refine g_lsubA (n := 327) X dX12_parts_326 rfl (fun v808161 rv808161 xv808161 => ?_)
                                  clear xv808161
                                  refine g_lstore (n := 329) (L' := [(8, gV v808161), (0, gA n0 190), (4, gV v769414), (6, gV v806484), (10, gJ v806488)]) X dX12_parts_327 (by decide) rfl rfl ?_
                                  refine g_iinc (n := 332) (w := v806488 + 1) (L' := [(10, gJ (v806488 + 1)), (8, gV v808161), (0, gA n0 190), (4, gV v769414), (6, gV v806484)]) X 4 dX12_parts_329 rfl rfl (by decide) rfl rfl ?_
                                  refine g_goto (tgt := 268) X dX12_parts_332 (by decide) ?_
                                  refine G.sub (L' := [(0, gA n0 190), (4, gV v769414), (6, gV v806484), (8, gV v808161), (10, gJ (v806488 + 1))]) [2, 3, 4, 1, 0] rfl ?_
                                  exact ih807978 v808161 (v806488 + 1) M808159 (by omega) (by omega) IM808159 CM808159 (gFr.s (gFr.s (gFr.c gFr.rf FM806489 rfl) e808156 (ra_204 v806488).2.2 rfl) e808160 (ra_203 v806488).2.2 rfl) (by omega)
                            refine G.sub (L' := [(0, gA n0 190), (4, gV v769414), (6, gV v806484), (8, gV v806484), (10, gJ 0)]) [4, 3, 2, 1, 0] rfl ?_
                            exact j806490 _ v806484 0 M789643 (by omega) (by omega) IM789643 CM789643 gFr.rf (Nat.lt_succ_self _)
                          · refine g_ldc2 (n := 246) (z := 6) X dX12_parts_243 kw_7_190 (by decide +kernel) rfl ?_
                            refine g_goto (tgt := 251) X dX12_parts_246 (by decide) ?_
                            refine g_lstore (n := 253) (L' := [(4, gV 6), (0, gA n0 190), (1, gJ a)]) X dX12_parts_251 (by decide) rfl rfl ?_
                            refine g_aload_n (n := 254) X 1 dX12_parts_253 rfl rfl rfl ?_
                            refine g_iload_n (n := 255) X 2 dX12_parts_254 rfl rfl rfl ?_
                            refine g_callVi (n := 258) (As := [gJ a]) (rest := []) (cs1 := 0) (ss1 := 0) X (s_X12_costOf a (by omega) hsz IM789643 CM789643 ) okX12_costOf kw_7_174 ⟨kw_7_176, kw_0_83⟩ ⟨rfl, rfl⟩ ⟨Nat.le_of_ble_eq_true rfl, Nat.le_of_ble_eq_true rfl⟩ rfl (by decide) (gsz hsz (by decide)) lay_190 rfl rfl (Nat.le_of_ble_eq_true rfl) ⟨Nat.le_of_ble_eq_true rfl, Nat.le_of_ble_eq_true rfl⟩ rfl rfl dX12_parts_255 rfl (fun v808162 M808163 P808164 => ?_)
                            obtain ⟨rfl, rv808162⟩ := P808164
                            refine g_i2lE (n := 259) (z := v808162) X dX12_parts_258 (g_i2l (by omega)) rfl ?_
                            refine g_lstore (n := 261) (L' := [(6, gV v808162), (4, gV 6), (0, gA n0 190), (1, gJ a)]) X dX12_parts_259 (by decide) rfl rfl ?_
                            refine g_lload (n := 263) X 0 dX12_parts_261 rfl rfl ?_
                            refine g_lstore (n := 265) (L' := [(8, gV v808162), (6, gV v808162), (4, gV 6), (0, gA n0 190), (1, gJ a)]) X dX12_parts_263 (by decide) rfl rfl ?_
                            refine g_iconst (n := 266) X dX12_parts_265 rfl ?_
                            refine g_istore (n := 268) (L' := [(10, gJ 0), (8, gV v808162), (6, gV v808162), (4, gV 6), (0, gA n0 190), (1, gJ a)]) X dX12_parts_266 (by decide) rfl rfl ?_
                            have j808168 : ∀ (N809655 : Nat) (v808165 v808166 : Int) (M808167 : gM) , (-9223372036854775808 ≤ v808165 ∧ v808165 ≤ 9223372036854775807) → (0 ≤ v808166 ∧ v808166 ≤ 6) → gI sz M808167 → gC sz M808167 → gFr 36893488147419103232 M789643 M808167 → (6 - v808166).toNat < N809655 → G p l e R_X12_parts s m args below meth cd n0 D cA 12 Q 0 0 M808167 sz 268 [(0, gA n0 190), (4, gV 6), (6, gV v808162), (8, gV v808165), (10, gJ v808166)] [] := by
                              intro N809655; induction N809655 with
                              | zero => intro v808165 v808166 M808167 rv808165 rv808166 IM808167 CM808167 FM808167 hm809657; exfalso; omega
                              | succ N809655 ih809656 =>
                                intro v808165 v808166 M808167 rv808165 rv808166 IM808167 CM808167 FM808167 hm809657
                                refine g_iload (n := 270) X 4 dX12_parts_268 rfl rfl ?_
                                refine g_bipush (n := 272) X dX12_parts_270 (by decide +kernel) rfl ?_
                                refine g_icmp_ge (n := 275) (tgt := 335) X dX12_parts_272 (by decide) (by omega) (by omega) rfl (fun c809658 => ?_) (fun c809658 => ?_)
                                · have j809672 : ∀ (N809775 : Nat) (v809670 : Int) (M809671 : gM) , (-9223372036854775808 ≤ v809670 ∧ v809670 ≤ 9223372036854775807) → gI sz M809671 → gC sz M809671 → gFr 36893488147419103232 M808167 M809671 → (v809670 + 9223372036854775808).toNat < N809775 → G p l e R_X12_parts s m args below meth cd n0 D cA 12 Q 0 0 M809671 sz 335 [(0, gA n0 190), (8, gV v809670)] [] := by
                                    intro N809775; induction N809775 with
                                    | zero => intro v809670 M809671 rv809670 IM809671 CM809671 FM809671 hm809777; exfalso; omega
                                    | succ N809775 ih809776 =>
                                      intro v809670 M809671 rv809670 IM809671 CM809671 FM809671 hm809777
                                      refine g_lload (n := 337) X 1 dX12_parts_335 rfl rfl ?_
                                      refine g_lconst (n := 338) (z := 0) X dX12_parts_337 (by decide +kernel) rfl ?_
                                      refine g_lcmp2 (n := 339) X dX12_parts_338 (by omega) (by omega) rfl (fun v809778 xv809778 rv809778 => ?_)
                                      refine g_if_le (n := 342) (tgt := 418) X dX12_parts_339 (by decide) (by omega) rfl (fun c809779 => ?_) (fun c809779 => ?_)
                                      · exact hq _ _ _ dX12_parts_418 ⟨IM809671, CM809671, (gFr.c (gFr.c (gFr.c (gFr.c (gFr.c gFr.rf FM7 rfl) FM404978 rfl) FM789643 rfl) FM808167 rfl) FM809671 rfl)⟩
                                      · refine g_iconst (n := 343) X dX12_parts_342 rfl ?_
                                        refine g_istore (n := 345) (L' := [(10, gJ 0), (0, gA n0 190), (8, gV v809670)]) X dX12_parts_343 (by decide) rfl rfl ?_
                                        refine g_iconst (n := 346) X dX12_parts_345 rfl ?_
                                        refine g_istore (n := 348) (L' := [(11, gJ 1), (10, gJ 0), (0, gA n0 190), (8, gV v809670)]) X dX12_parts_346 (by decide) rfl rfl ?_
                                        have j809783 : ∀ (N809815 : Nat) (v809780 v809781 : Int) , (0 ≤ v809780 ∧ v809780 ≤ 5) → (1 ≤ v809781 ∧ v809781 ≤ 6) → (6 - v809781).toNat < N809815 → G p l e R_X12_parts s m args below meth cd n0 D cA 12 Q 0 0 M809671 sz 348 [(0, gA n0 190), (8, gV v809670), (10, gJ v809780), (11, gJ v809781)] [] := by
                                          intro N809815; induction N809815 with
                                          | zero => intro v809780 v809781 rv809780 rv809781 hm809817; exfalso; omega
                                          | succ N809815 ih809816 =>
                                            intro v809780 v809781 rv809780 rv809781 hm809817
                                            refine g_iload (n := 350) X 3 dX12_parts_348 rfl rfl ?_
                                            refine g_bipush (n := 352) X dX12_parts_350 (by decide +kernel) rfl ?_
                                            refine g_icmp_ge (n := 355) (tgt := 388) X dX12_parts_352 (by decide) (by omega) (by omega) rfl (fun c809818 => ?_) (fun c809818 => ?_)
                                            · refine g_aload_n (n := 389) X 0 dX12_parts_388 rfl rfl rfl ?_
                                              refine gg_12_22 (n := 392) (z := 204) X (by decide) (gsz hsz (by decide)) lay_190 kw_6_48 dX12_parts_389 rfl (rf_190_22 IM809671 (gsz hsz (by decide))) (by decide) ?_
                                              refine g_iload (n := 394) X 2 dX12_parts_392 rfl rfl ?_
                                              refine g_dup2 (n := 395) X dX12_parts_394 rfl rfl rfl ?_
                                              obtain ⟨v809819, hv809819, rv809819⟩ := gRd IM809671 (by decide) (gsz hsz (by decide)) (ra_204 v809780).1
                                              refine g_iald2 (n := 396) (v := v809819) X (by decide) (gsz hsz (by decide)) lay_204 (by omega) (by omega) (by decide) dX12_parts_395 rfl hv809819 ?_
                                              refine g_iconst (n := 397) X dX12_parts_396 rfl ?_
                                              refine g_iaddA (n := 398) X dX12_parts_397 rfl (fun v809820 rv809820 xv809820 => ?_)
                                              clear xv809820
                                              refine g_iast (n := 399) X (by decide) (gsz hsz (by decide)) lay_204 (by omega) (by omega) (by decide) dX12_parts_398 rfl ?_
                                              refine G.nm (fun M809821 e809822 => ?_)
                                              have IM809821 : gI sz M809821 := gI.set IM809671 (ra_204 v809780).1 (by omega) e809822
                                              have CM809821 : gC sz M809821 := gC.set CM809671 (ra_204 v809780).2.1 e809822
                                              refine g_aload_n (n := 400) X 0 dX12_parts_399 rfl rfl rfl ?_
                                              refine gg_12_21 (n := 403) (z := 203) X (by decide) (gsz hsz (by decide)) lay_190 kw_6_47 dX12_parts_400 rfl (rf_190_21 IM809821 (gsz hsz (by decide))) (by decide) ?_
                                              refine g_iload (n := 405) X 2 dX12_parts_403 rfl rfl ?_
                                              refine g_ldc2 (n := 408) (z := (-1)) X dX12_parts_405 kw_7_191 (by decide +kernel) rfl ?_
                                              refine g_last (n := 409) X (by decide) (gsz hsz (by decide)) lay_203 (by omega) (by omega) (by decide) dX12_parts_408 rfl ?_
                                              refine G.nm (fun M809823 e809824 => ?_)
                                              have IM809823 : gI sz M809823 := gI.set IM809821 (ra_203 v809780).1 (by omega) e809824
                                              have CM809823 : gC sz M809823 := gC.set CM809821 (ra_203 v809780).2.1 e809824
                                              refine g_lload (n := 411) X 1 dX12_parts_409 rfl rfl ?_
                                              refine g_lconst (n := 412) (z := 1) X dX12_parts_411 (by decide +kernel) rfl ?_
                                              refine g_lsub (n := 413) (z := v809670 - 1) X dX12_parts_412 (by omega) rfl ?_
                                              refine g_lstore (n := 415) (L' := [(8, gV (v809670 - 1)), (0, gA n0 190), (10, gJ v809780), (11, gJ v809781)]) X dX12_parts_413 (by decide) rfl rfl ?_
                                              refine g_goto (tgt := 335) X dX12_parts_415 (by decide) ?_
                                              refine G.sub (L' := [(0, gA n0 190), (8, gV (v809670 - 1))]) [1, 0] rfl ?_
                                              exact ih809776 (v809670 - 1) M809823 (by omega) IM809823 CM809823 (gFr.s (gFr.s (gFr.c gFr.rf FM809671 rfl) e809822 (ra_204 v809780).2.2 rfl) e809824 (ra_203 v809780).2.2 rfl) (by omega)
                                            · refine g_aload_n (n := 356) X 0 dX12_parts_355 rfl rfl rfl ?_
                                              refine gg_12_21 (n := 359) (z := 203) X (by decide) (gsz hsz (by decide)) lay_190 kw_6_47 dX12_parts_356 rfl (rf_190_21 IM809671 (gsz hsz (by decide))) (by decide) ?_
                                              refine g_iload (n := 361) X 3 dX12_parts_359 rfl rfl ?_
                                              obtain ⟨v809825, hv809825, rv809825⟩ := gRd IM809671 (by decide) (gsz hsz (by decide)) (ra_203 v809781).1
                                              refine g_lald2 (n := 362) (v := v809825) X (by decide) (gsz hsz (by decide)) lay_203 (by omega) (by omega) (by decide) dX12_parts_361 rfl hv809825 ?_
                                              refine g_aload_n (n := 363) X 0 dX12_parts_362 rfl rfl rfl ?_
                                              refine gg_12_21 (n := 366) (z := 203) X (by decide) (gsz hsz (by decide)) lay_190 kw_6_47 dX12_parts_363 rfl (rf_190_21 IM809671 (gsz hsz (by decide))) (by decide) ?_
                                              refine g_iload (n := 368) X 2 dX12_parts_366 rfl rfl ?_
                                              obtain ⟨v809826, hv809826, rv809826⟩ := gRd IM809671 (by decide) (gsz hsz (by decide)) (ra_203 v809780).1
                                              refine g_lald2 (n := 369) (v := v809826) X (by decide) (gsz hsz (by decide)) lay_203 (by omega) (by omega) (by decide) dX12_parts_368 rfl hv809826 ?_
                                              refine g_lcmp2 (n := 370) X dX12_parts_369 (by omega) (by omega) rfl (fun v809827 xv809827 rv809827 => ?_)
                                              refine g_if_le (n := 373) (tgt := 378) X dX12_parts_370 (by decide) (by omega) rfl (fun c809828 => ?_) (fun c809828 => ?_)
                                              · refine g_iload (n := 380) X 2 dX12_parts_378 rfl rfl ?_
                                                refine g_istore (n := 382) (L' := [(10, gJ v809780), (0, gA n0 190), (8, gV v809670), (11, gJ v809781)]) X dX12_parts_380 (by decide) rfl rfl ?_
                                                refine g_iinc (n := 385) (w := v809781 + 1) (L' := [(11, gJ (v809781 + 1)), (10, gJ v809780), (0, gA n0 190), (8, gV v809670)]) X 3 dX12_parts_382 rfl rfl (by decide) rfl rfl ?_
                                                refine g_goto (tgt := 348) X dX12_parts_385 (by decide) ?_
                                                refine G.sub (L' := [(0, gA n0 190), (8, gV v809670), (10, gJ v809780), (11, gJ (v809781 + 1))]) [2, 3, 1, 0] rfl ?_
                                                exact ih809816 v809780 (v809781 + 1) (by omega) (by omega) (by omega)
                                              · refine g_iload (n := 375) X 3 dX12_parts_373 rfl rfl ?_
                                                refine g_goto (tgt := 380) X dX12_parts_375 (by decide) ?_
                                                refine g_istore (n := 382) (L' := [(10, gJ v809781), (0, gA n0 190), (8, gV v809670), (11, gJ v809781)]) X dX12_parts_380 (by decide) rfl rfl ?_
                                                refine g_iinc (n := 385) (w := v809781 + 1) (L' := [(11, gJ (v809781 + 1)), (10, gJ v809781), (0, gA n0 190), (8, gV v809670)]) X 3 dX12_parts_382 rfl rfl (by decide) rfl rfl ?_
                                                refine g_goto (tgt := 348) X dX12_parts_385 (by decide) ?_
                                                refine G.sub (L' := [(0, gA n0 190), (8, gV v809670), (10, gJ v809781), (11, gJ (v809781 + 1))]) [2, 3, 1, 0] rfl ?_
                                                exact ih809816 v809781 (v809781 + 1) (by omega) (by omega) (by omega)
                                        refine G.sub (L' := [(0, gA n0 190), (8, gV v809670), (10, gJ 0), (11, gJ 1)]) [2, 3, 1, 0] rfl ?_
                                        exact j809783 _ 0 1 (by omega) (by omega) (Nat.lt_succ_self _)
                                  refine G.sub (L' := [(0, gA n0 190), (8, gV v808165)]) [0, 3] rfl ?_
                                  exact j809672 _ v808165 M808167 (by omega) IM808167 CM808167 gFr.rf (Nat.lt_succ_self _)
                                · refine g_aload_n (n := 276) X 0 dX12_parts_275 rfl rfl rfl ?_
                                  refine gg_12_22 (n := 279) (z := 204) X (by decide) (gsz hsz (by decide)) lay_190 kw_6_48 dX12_parts_276 rfl (rf_190_22 IM808167 (gsz hsz (by decide))) (by decide) ?_
                                  refine g_iload (n := 281) X 4 dX12_parts_279 rfl rfl ?_
                                  refine g_lload (n := 283) X 2 dX12_parts_281 rfl rfl ?_
                                  refine g_aload_n (n := 284) X 0 dX12_parts_283 rfl rfl rfl ?_
                                  refine gg_12_20 (n := 287) (z := 202) X (by decide) (gsz hsz (by decide)) lay_190 kw_6_46 dX12_parts_284 rfl (rf_190_20 IM808167 (gsz hsz (by decide))) (by decide) ?_
                                  refine g_iload (n := 289) X 4 dX12_parts_287 rfl rfl ?_
                                  obtain ⟨v809829, hv809829, rv809829⟩ := gRd IM808167 (by decide) (gsz hsz (by decide)) (ra_202 v808166).1
                                  refine g_lald2 (n := 290) (v := v809829) X (by decide) (gsz hsz (by decide)) lay_202 (by omega) (by omega) (by decide) dX12_parts_289 rfl hv809829 ?_
                                  refine g_lmulA (n := 291) X dX12_parts_290 rfl (fun v809830 rv809830 xv809830 => ?_)
                                  clear xv809830
                                  refine g_lload (n := 293) X 1 dX12_parts_291 rfl rfl ?_
                                  refine g_ldivA (n := 294) X dX12_parts_293 (by decide +kernel) rfl (fun v809831 rv809831 xv809831 => ?_)
                                  clear xv809831
                                  refine g_l2iA (n := 295) X dX12_parts_294 rfl (fun v809832 rv809832 xv809832 => ?_)
                                  clear xv809832
                                  refine g_iast (n := 296) X (by decide) (gsz hsz (by decide)) lay_204 (by omega) (by omega) (by decide) dX12_parts_295 rfl ?_
                                  refine G.nm (fun M809833 e809834 => ?_)
                                  have IM809833 : gI sz M809833 := gI.set IM808167 (ra_204 v808166).1 (by omega) e809834
                                  have CM809833 : gC sz M809833 := gC.set CM808167 (ra_204 v808166).2.1 e809834
                                  refine g_aload_n (n := 297) X 0 dX12_parts_296 rfl rfl rfl ?_
                                  refine gg_12_21 (n := 300) (z := 203) X (by decide) (gsz hsz (by decide)) lay_190 kw_6_47 dX12_parts_297 rfl (rf_190_21 IM809833 (gsz hsz (by decide))) (by decide) ?_
                                  refine g_iload (n := 302) X 4 dX12_parts_300 rfl rfl ?_
                                  refine g_lload (n := 304) X 2 dX12_parts_302 rfl rfl ?_
                                  refine g_aload_n (n := 305) X 0 dX12_parts_304 rfl rfl rfl ?_
                                  refine gg_12_20 (n := 308) (z := 202) X (by decide) (gsz hsz (by decide)) lay_190 kw_6_46 dX12_parts_305 rfl (rf_190_20 IM809833 (gsz hsz (by decide))) (by decide) ?_
                                  refine g_iload (n := 310) X 4 dX12_parts_308 rfl rfl ?_
                                  refine g_lald2 (n := 311) (v := v809829) X (by decide) (gsz hsz (by decide)) lay_202 (by omega) (by omega) (by decide) dX12_parts_310 rfl ((congrFun (congrFun e809834 _) _).trans ((gset_ne (by omega)).trans hv809829)) ?_
                                  refine g_lmulA (n := 312) X dX12_parts_311 rfl (fun v809835 rv809835 xv809835 => ?_)
                                  clear xv809835
                                  refine g_lload (n := 314) X 1 dX12_parts_312 rfl rfl ?_
                                  refine g_lremA (n := 315) X dX12_parts_314 (by decide +kernel) rfl (fun v809836 rv809836 xv809836 => ?_)
                                  clear xv809836
                                  refine g_last (n := 316) X (by decide) (gsz hsz (by decide)) lay_203 (by omega) (by omega) (by decide) dX12_parts_315 rfl ?_
                                  refine G.nm (fun M809837 e809838 => ?_)
                                  have IM809837 : gI sz M809837 := gI.set IM809833 (ra_203 v808166).1 (by omega) e809838
                                  have CM809837 : gC sz M809837 := gC.set CM809833 (ra_203 v808166).2.1 e809838
                                  refine g_lload (n := 318) X 3 dX12_parts_316 rfl rfl ?_
                                  refine g_aload_n (n := 319) X 0 dX12_parts_318 rfl rfl rfl ?_
                                  refine gg_12_22 (n := 322) (z := 204) X (by decide) (gsz hsz (by decide)) lay_190 kw_6_48 dX12_parts_319 rfl (rf_190_22 IM809837 (gsz hsz (by decide))) (by decide) ?_
                                  refine g_iload (n := 324) X 4 dX12_parts_322 rfl rfl ?_
                                  refine g_iald2 (n := 325) (v := v809832) X (by decide) (gsz hsz (by decide)) lay_204 (by omega) (by omega) (by decide) dX12_parts_324 rfl ((congrFun (congrFun e809838 _) _).trans ((gset_ne (by omega)).trans ((congrFun (congrFun e809834 _) _).trans (gset_eq _ _ _ _)))) ?_
                                  refine g_i2lE (n := 326) (z := v809832) X dX12_parts_325 (g_i2l (by omega)) rfl ?_
                                  refine g_lsubA (n := 327) X dX12_parts_326 rfl (fun v809839 rv809839 xv809839 => ?_)
                                  clear xv809839
                                  refine g_lstore (n := 329) (L' := [(8, gV v809839), (0, gA n0 190), (4, gV 6), (6, gV v808162), (10, gJ v808166)]) X dX12_parts_327 (by decide) rfl rfl ?_
                                  refine g_iinc (n := 332) (w := v808166 + 1) (L' := [(10, gJ (v808166 + 1)), (8, gV v809839), (0, gA n0 190), (4, gV 6), (6, gV v808162)]) X 4 dX12_parts_329 rfl rfl (by decide) rfl rfl ?_
                                  refine g_goto (tgt := 268) X dX12_parts_332 (by decide) ?_
                                  refine G.sub (L' := [(0, gA n0 190), (4, gV 6), (6, gV v808162), (8, gV v809839), (10, gJ (v808166 + 1))]) [2, 3, 4, 1, 0] rfl ?_
                                  exact ih809656 v809839 (v808166 + 1) M809837 (by omega) (by omega) IM809837 CM809837 (gFr.s (gFr.s (gFr.c gFr.rf FM808167 rfl) e809834 (ra_204 v808166).2.2 rfl) e809838 (ra_203 v808166).2.2 rfl) (by omega)
                            refine G.sub (L' := [(0, gA n0 190), (4, gV 6), (6, gV v808162), (8, gV v808162), (10, gJ 0)]) [4, 3, 2, 1, 0] rfl ?_
                            exact j808168 _ v808162 0 M789643 (by omega) (by omega) IM789643 CM789643 gFr.rf (Nat.lt_succ_self _)
                        refine g_icmp_ge (n := 215) (tgt := 236) X dX12_parts_212 (by decide) (by omega) (by omega) rfl (fun c806476 => ?_) (fun c806476 => ?_)
                        · refine G.sub (L' := [(0, gA n0 190), (1, gJ a), (4, gV v769414)]) [0, 1, 2] rfl ?_
                          exact j806481
                        · refine g_lload (n := 217) X 2 dX12_parts_215 rfl rfl ?_
                          refine g_lconst (n := 218) (z := 0) X dX12_parts_217 (by decide +kernel) rfl ?_
                          refine g_lcmp2 (n := 219) X dX12_parts_218 (by omega) (by omega) rfl (fun v809840 xv809840 rv809840 => ?_)
                          refine g_if_ne (n := 222) (tgt := 236) X dX12_parts_219 (by decide) (by omega) rfl (fun c809841 => ?_) (fun c809841 => ?_)
                          · refine G.sub (L' := [(0, gA n0 190), (1, gJ a), (4, gV v769414)]) [0, 1, 2] rfl ?_
                            exact j806481
                          · refine g_aload_n (n := 223) X 0 dX12_parts_222 rfl rfl rfl ?_
                            refine gg_12_20 (n := 226) (z := 202) X (by decide) (gsz hsz (by decide)) lay_190 kw_6_46 dX12_parts_223 rfl (rf_190_20 IM789643 (gsz hsz (by decide))) (by decide) ?_
                            refine g_iload (n := 228) X 3 dX12_parts_226 rfl rfl ?_
                            refine g_lconst (n := 229) (z := 1) X dX12_parts_228 (by decide +kernel) rfl ?_
                            refine g_last (n := 230) X (by decide) (gsz hsz (by decide)) lay_202 (by omega) (by omega) (by decide) dX12_parts_229 rfl ?_
                            refine G.nm (fun M809842 e809843 => ?_)
                            have IM809842 : gI sz M809842 := gI.set IM789643 (ra_202 v789642).1 (by omega) e809843
                            have CM809842 : gC sz M809842 := gC.set CM789643 (ra_202 v789642).2.1 e809843
                            refine g_iinc (n := 233) (w := v789642 + 1) (L' := [(6, gJ (v789642 + 1)), (0, gA n0 190), (1, gJ a), (4, gV v769414)]) X 3 dX12_parts_230 rfl rfl (by decide) rfl rfl ?_
                            refine g_goto (tgt := 208) X dX12_parts_233 (by decide) ?_
                            refine G.sub (L' := [(0, gA n0 190), (1, gJ a), (4, gV v769414), (6, gJ (v789642 + 1))]) [1, 2, 3, 0] rfl ?_
                            exact ih806474 (v789642 + 1) M809842 (by omega) IM809842 CM809842 (gFr.s (gFr.c gFr.rf FM789643 rfl) e809843 (ra_202 v789642).2.2 rfl) (by omega)
                    refine G.sub (L' := [(0, gA n0 190), (1, gJ a), (4, gV v769414), (6, gJ 0)]) [1, 2, 3, 0] rfl ?_
                    exact j789644 _ 0 M404978 (by omega) IM404978 CM404978 gFr.rf (Nat.lt_succ_self _)
                  · refine g_lload (n := 189) X 2 dX12_parts_187 rfl rfl ?_
                    refine g_aload_n (n := 190) X 0 dX12_parts_189 rfl rfl rfl ?_
                    refine gg_12_20 (n := 193) (z := 202) X (by decide) (gsz hsz (by decide)) lay_190 kw_6_46 dX12_parts_190 rfl (rf_190_20 IM404978 (gsz hsz (by decide))) (by decide) ?_
                    refine g_iload (n := 195) X 3 dX12_parts_193 rfl rfl ?_
                    obtain ⟨v809844, hv809844, rv809844⟩ := gRd IM404978 (by decide) (gsz hsz (by decide)) (ra_202 v769415).1
                    refine g_lald2 (n := 196) (v := v809844) X (by decide) (gsz hsz (by decide)) lay_202 (by omega) (by omega) (by decide) dX12_parts_195 rfl hv809844 ?_
                    refine g_laddA (n := 197) X dX12_parts_196 rfl (fun v809845 rv809845 xv809845 => ?_)
                    clear xv809845
                    refine g_lstore (n := 199) (L' := [(4, gV v809845), (0, gA n0 190), (1, gJ a), (6, gJ v769415)]) X dX12_parts_197 (by decide) rfl rfl ?_
                    refine g_iinc (n := 202) (w := v769415 + 1) (L' := [(6, gJ (v769415 + 1)), (4, gV v809845), (0, gA n0 190), (1, gJ a)]) X 3 dX12_parts_199 rfl rfl (by decide) rfl rfl ?_
                    refine g_goto (tgt := 180) X dX12_parts_202 (by decide) ?_
                    refine G.sub (L' := [(0, gA n0 190), (1, gJ a), (4, gV v809845), (6, gJ (v769415 + 1))]) [2, 3, 1, 0] rfl ?_
                    exact ih789637 v809845 (v769415 + 1) (by omega) (by omega) (by omega)
              refine G.sub (L' := [(0, gA n0 190), (1, gJ a), (4, gV 0), (6, gJ 0)]) [2, 3, 1, 0] rfl ?_
              exact j769417 _ 0 0 (by omega) (by omega) (Nat.lt_succ_self _)
            refine g_icmp_ge (n := 77) (tgt := 174) X dX12_parts_74 (by decide) (by omega) (by omega) rfl (fun c769385 => ?_) (fun c769385 => ?_)
            · refine G.sub (L' := [(0, gA n0 190), (1, gJ a)]) [0, 1] rfl ?_
              exact j769413
            · refine g_iload_n (n := 78) X 3 dX12_parts_77 rfl rfl rfl ?_
              refine g_iconst (n := 79) X dX12_parts_78 rfl ?_
              refine g_icmp_ne (n := 82) (tgt := 174) X dX12_parts_79 (by decide) (by omega) (by omega) rfl (fun c809846 => ?_) (fun c809846 => ?_)
              · refine G.sub (L' := [(0, gA n0 190), (1, gJ a)]) [0, 1] rfl ?_
                exact j769413
              · refine g_aload_n (n := 83) X 0 dX12_parts_82 rfl rfl rfl ?_
                refine gg_12_1 (n := 86) (z := 191) X (by decide) (gsz hsz (by decide)) lay_190 kw_6_27 dX12_parts_83 rfl (rf_190_1 IM404978 (gsz hsz (by decide))) (by decide) ?_
                refine g_sipush (n := 89) X dX12_parts_86 (by decide +kernel) rfl ?_
                refine g_sipush (n := 92) X dX12_parts_89 (by decide +kernel) rfl ?_
                refine g_iload (n := 94) X 4 dX12_parts_92 rfl rfl ?_
                refine g_imul (n := 95) (z := 301 * v404977) X dX12_parts_94 rfl rfl ?_
                refine g_iadd (n := 96) (z := 10216 + (301 * v404977)) X dX12_parts_95 rfl rfl ?_
                refine g_iload_n (n := 97) X 1 dX12_parts_96 rfl rfl rfl ?_
                refine g_iadd (n := 98) (z := (10216 + (301 * v404977)) + a) X dX12_parts_97 rfl rfl ?_
                obtain ⟨v809847, hv809847, rv809847⟩ := gRd IM404978 (by decide) (gsz hsz (by decide)) (rs_W (k := (10216 + (301 * v404977)) + a) (by omega)).1
                refine g_iald2 (n := 99) (v := v809847) X (by decide) (gsz hsz (by decide)) lay_191 (by omega) (by omega) (by decide) dX12_parts_98 rfl hv809847 ?_
                refine g_if_gt (n := 102) (tgt := 122) X dX12_parts_99 (by decide) (by omega) rfl (fun c809848 => ?_) (fun c809848 => ?_)
                · refine g_iconst (n := 123) X dX12_parts_122 rfl ?_
                  refine g_goto (tgt := 127) X dX12_parts_123 (by decide) ?_
                  refine g_istore (n := 129) (L' := [(5, gJ 1), (0, gA n0 190), (1, gJ a), (2, gJ b), (3, gJ v3), (4, gJ v404977)]) X dX12_parts_127 (by decide) rfl rfl ?_
                  refine g_iload (n := 131) X 0 dX12_parts_129 rfl rfl ?_
                  refine g_if_eq (n := 134) (tgt := 146) X dX12_parts_131 (by decide) (by omega) rfl (fun c809849 => by exfalso; omega) (fun c809849 => ?_)
                  have hG809850 := (gW.fr (S := 2475880189251224992055558144) W ⟨sz, hsz, I⟩ (gFr.c (gFr.c gFr.rf FM7 rfl) FM404978 rfl) rfl).2.2.2 a (by omega) (by have q0 := ((gFr.at FM404978 (rs_NOW (k := 0) (by omega)).2.2 rfl).trans ((gFr.at FM7 (rs_NOW (k := 0) (by omega)).2.2 rfl).trans hv2)); omega)
                  refine g_aload_n (n := 135) X 1 dX12_parts_134 rfl rfl rfl ?_
                  refine g_iload (n := 137) X 5 dX12_parts_135 rfl rfl ?_
                  refine g_iconst (n := 138) X dX12_parts_137 rfl ?_
                  refine g_iload_n (n := 139) X 2 dX12_parts_138 rfl rfl rfl ?_
                  refine g_iload_n (n := 140) X 3 dX12_parts_139 rfl rfl rfl ?_
                  refine g_callVi (n := 143) (As := [gJ v404977, gJ 1, gJ a, gJ b]) (rest := []) (cs1 := 0) (ss1 := 0) X (s_X12_byBench v404977 (by omega) 1 (by omega) a (by omega) b (by omega) hsz IM404978 CM404978 (gW.fr (S := 2475880189251224992055558144) W ⟨sz, hsz, I⟩ (gFr.c (gFr.c gFr.rf FM7 rfl) FM404978 rfl) rfl) (by have q2 := ((gFr.at FM404978 (rs_PERS (k := 1) (by omega)).2.2 rfl).trans ((gFr.at FM7 (rs_PERS (k := 1) (by omega)).2.2 rfl).trans hv1)); omega)) okX12_byBench kw_6_185 ⟨kw_6_187, kw_0_47⟩ ⟨rfl, rfl⟩ ⟨Nat.le_of_ble_eq_true rfl, Nat.le_of_ble_eq_true rfl⟩ rfl (by decide) (gsz hsz (by decide)) lay_190 rfl rfl (Nat.le_of_ble_eq_true rfl) ⟨Nat.le_of_ble_eq_true rfl, Nat.le_of_ble_eq_true rfl⟩ rfl rfl dX12_parts_140 rfl (fun v809851 M809852 P809853 => ?_)
                  obtain ⟨rv809851, IM809852, CM809852, FM809852, xM809852⟩ := P809853
                  refine g_goto (tgt := 148) X dX12_parts_143 (by decide) ?_
                  refine g_istore (n := 150) (L' := [(6, gJ v809851), (5, gJ 1), (0, gA n0 190), (1, gJ a), (2, gJ b), (3, gJ v3), (4, gJ v404977)]) X dX12_parts_148 (by decide) rfl rfl ?_
                  refine g_iload (n := 152) X 0 dX12_parts_150 rfl rfl ?_
                  refine g_bipush (n := 154) X dX12_parts_152 (by decide +kernel) rfl ?_
                  refine g_icmp_eq (n := 157) (tgt := 168) X dX12_parts_154 (by decide) (by omega) (by omega) rfl (fun c809854 => ?_) (fun c809854 => ?_)
                  · refine g_iinc (n := 171) (w := v404977 + 1) (L' := [(4, gJ (v404977 + 1)), (6, gJ v809851), (5, gJ 1), (0, gA n0 190), (1, gJ a), (2, gJ b), (3, gJ v3)]) X 6 dX12_parts_168 rfl rfl (by decide) rfl rfl ?_
                    refine g_goto (tgt := 62) X dX12_parts_171 (by decide) ?_
                    refine G.sub (L' := [(0, gA n0 190), (1, gJ a), (2, gJ b), (3, gJ v3), (4, gJ (v404977 + 1))]) [3, 4, 5, 6, 0] rfl ?_
                    exact ih769382 (v404977 + 1) M809852 (by omega) IM809852 CM809852 (gFr.c (gFr.c gFr.rf FM404978 rfl) FM809852 rfl) (by omega)
                  · refine g_aload_n (n := 158) X 2 dX12_parts_157 rfl rfl rfl ?_
                    refine gg_12_20 (n := 161) (z := 202) X (by decide) (gsz hsz (by decide)) lay_190 kw_6_46 dX12_parts_158 rfl (rf_190_20 IM809852 (gsz hsz (by decide))) (by decide) ?_
                    refine g_iload (n := 163) X 0 dX12_parts_161 rfl rfl ?_
                    refine g_dup2 (n := 164) X dX12_parts_163 rfl rfl rfl ?_
                    obtain ⟨v809855, hv809855, rv809855⟩ := gRd IM809852 (by decide) (gsz hsz (by decide)) (ra_202 v809851).1
                    refine g_lald2 (n := 165) (v := v809855) X (by decide) (gsz hsz (by decide)) lay_202 (by omega) (by omega) (by decide) dX12_parts_164 rfl hv809855 ?_
                    refine g_lconst (n := 166) (z := 1) X dX12_parts_165 (by decide +kernel) rfl ?_
                    refine g_laddA (n := 167) X dX12_parts_166 rfl (fun v809856 rv809856 xv809856 => ?_)
                    clear xv809856
                    refine g_last (n := 168) X (by decide) (gsz hsz (by decide)) lay_202 (by omega) (by omega) (by decide) dX12_parts_167 rfl ?_
                    refine G.nm (fun M809857 e809858 => ?_)
                    have IM809857 : gI sz M809857 := gI.set IM809852 (ra_202 v809851).1 (by omega) e809858
                    have CM809857 : gC sz M809857 := gC.set CM809852 (ra_202 v809851).2.1 e809858
                    refine g_iinc (n := 171) (w := v404977 + 1) (L' := [(4, gJ (v404977 + 1)), (6, gJ v809851), (5, gJ 1), (0, gA n0 190), (1, gJ a), (2, gJ b), (3, gJ v3)]) X 6 dX12_parts_168 rfl rfl (by decide) rfl rfl ?_
                    refine g_goto (tgt := 62) X dX12_parts_171 (by decide) ?_
                    refine G.sub (L' := [(0, gA n0 190), (1, gJ a), (2, gJ b), (3, gJ v3), (4, gJ (v404977 + 1))]) [3, 4, 5, 6, 0] rfl ?_
                    exact ih769382 (v404977 + 1) M809857 (by omega) IM809857 CM809857 (gFr.s (gFr.c (gFr.c gFr.rf FM404978 rfl) FM809852 rfl) e809858 (ra_202 v809851).2.2 rfl) (by omega)
                · refine g_aload_n (n := 103) X 0 dX12_parts_102 rfl rfl rfl ?_
                  refine gg_12_1 (n := 106) (z := 191) X (by decide) (gsz hsz (by decide)) lay_190 kw_6_27 dX12_parts_103 rfl (rf_190_1 IM404978 (gsz hsz (by decide))) (by decide) ?_
                  refine g_sipush (n := 109) X dX12_parts_106 (by decide +kernel) rfl ?_
                  refine g_sipush (n := 112) X dX12_parts_109 (by decide +kernel) rfl ?_
                  refine g_iload (n := 114) X 4 dX12_parts_112 rfl rfl ?_
                  refine g_imul (n := 115) (z := 301 * v404977) X dX12_parts_114 rfl rfl ?_
                  refine g_iadd (n := 116) (z := 15032 + (301 * v404977)) X dX12_parts_115 rfl rfl ?_
                  refine g_iload_n (n := 117) X 1 dX12_parts_116 rfl rfl rfl ?_
                  refine g_iadd (n := 118) (z := (15032 + (301 * v404977)) + a) X dX12_parts_117 rfl rfl ?_
                  obtain ⟨v809859, hv809859, rv809859⟩ := gRd IM404978 (by decide) (gsz hsz (by decide)) (rs_W (k := (15032 + (301 * v404977)) + a) (by omega)).1
                  refine g_iald2 (n := 119) (v := v809859) X (by decide) (gsz hsz (by decide)) lay_191 (by omega) (by omega) (by decide) dX12_parts_118 rfl hv809859 ?_
                  refine g_if_le (n := 122) (tgt := 126) X dX12_parts_119 (by decide) (by omega) rfl (fun c809860 => ?_) (fun c809860 => ?_)
                  · refine g_iconst (n := 127) X dX12_parts_126 rfl ?_
                    refine g_istore (n := 129) (L' := [(5, gJ 0), (0, gA n0 190), (1, gJ a), (2, gJ b), (3, gJ v3), (4, gJ v404977)]) X dX12_parts_127 (by decide) rfl rfl ?_
                    refine g_iload (n := 131) X 0 dX12_parts_129 rfl rfl ?_
                    refine g_if_eq (n := 134) (tgt := 146) X dX12_parts_131 (by decide) (by omega) rfl (fun c809861 => ?_) (fun c809861 => by exfalso; omega)
                    refine g_bipush (n := 148) X dX12_parts_146 (by decide +kernel) rfl ?_
                    refine g_istore (n := 150) (L' := [(6, gJ (-5)), (5, gJ 0), (0, gA n0 190), (1, gJ a), (2, gJ b), (3, gJ v3), (4, gJ v404977)]) X dX12_parts_148 (by decide) rfl rfl ?_
                    refine g_iload (n := 152) X 0 dX12_parts_150 rfl rfl ?_
                    refine g_bipush (n := 154) X dX12_parts_152 (by decide +kernel) rfl ?_
                    refine g_icmp_eq (n := 157) (tgt := 168) X dX12_parts_154 (by decide) (by omega) (by omega) rfl (fun c809862 => ?_) (fun c809862 => by exfalso; omega)
                    refine g_iinc (n := 171) (w := v404977 + 1) (L' := [(4, gJ (v404977 + 1)), (6, gJ (-5)), (5, gJ 0), (0, gA n0 190), (1, gJ a), (2, gJ b), (3, gJ v3)]) X 6 dX12_parts_168 rfl rfl (by decide) rfl rfl ?_
                    refine g_goto (tgt := 62) X dX12_parts_171 (by decide) ?_
                    refine G.sub (L' := [(0, gA n0 190), (1, gJ a), (2, gJ b), (3, gJ v3), (4, gJ (v404977 + 1))]) [3, 4, 5, 6, 0] rfl ?_
                    exact ih769382 (v404977 + 1) M404978 (by omega) IM404978 CM404978 (gFr.c gFr.rf FM404978 rfl) (by omega)
                  · refine g_iconst (n := 123) X dX12_parts_122 rfl ?_
                    refine g_goto (tgt := 127) X dX12_parts_123 (by decide) ?_
                    refine g_istore (n := 129) (L' := [(5, gJ 1), (0, gA n0 190), (1, gJ a), (2, gJ b), (3, gJ v3), (4, gJ v404977)]) X dX12_parts_127 (by decide) rfl rfl ?_
                    refine g_iload (n := 131) X 0 dX12_parts_129 rfl rfl ?_
                    refine g_if_eq (n := 134) (tgt := 146) X dX12_parts_131 (by decide) (by omega) rfl (fun c809863 => by exfalso; omega) (fun c809863 => ?_)
                    have hG809864 := (gW.fr (S := 2475880189251224992055558144) W ⟨sz, hsz, I⟩ (gFr.c (gFr.c gFr.rf FM7 rfl) FM404978 rfl) rfl).2.2.2 a (by omega) (by have q0 := ((gFr.at FM404978 (rs_NOW (k := 0) (by omega)).2.2 rfl).trans ((gFr.at FM7 (rs_NOW (k := 0) (by omega)).2.2 rfl).trans hv2)); omega)
                    refine g_aload_n (n := 135) X 1 dX12_parts_134 rfl rfl rfl ?_
                    refine g_iload (n := 137) X 5 dX12_parts_135 rfl rfl ?_
                    refine g_iconst (n := 138) X dX12_parts_137 rfl ?_
                    refine g_iload_n (n := 139) X 2 dX12_parts_138 rfl rfl rfl ?_
                    refine g_iload_n (n := 140) X 3 dX12_parts_139 rfl rfl rfl ?_
                    refine g_callVi (n := 143) (As := [gJ v404977, gJ 1, gJ a, gJ b]) (rest := []) (cs1 := 0) (ss1 := 0) X (s_X12_byBench v404977 (by omega) 1 (by omega) a (by omega) b (by omega) hsz IM404978 CM404978 (gW.fr (S := 2475880189251224992055558144) W ⟨sz, hsz, I⟩ (gFr.c (gFr.c gFr.rf FM7 rfl) FM404978 rfl) rfl) (by have q2 := ((gFr.at FM404978 (rs_PERS (k := 1) (by omega)).2.2 rfl).trans ((gFr.at FM7 (rs_PERS (k := 1) (by omega)).2.2 rfl).trans hv1)); omega)) okX12_byBench kw_6_185 ⟨kw_6_187, kw_0_47⟩ ⟨rfl, rfl⟩ ⟨Nat.le_of_ble_eq_true rfl, Nat.le_of_ble_eq_true rfl⟩ rfl (by decide) (gsz hsz (by decide)) lay_190 rfl rfl (Nat.le_of_ble_eq_true rfl) ⟨Nat.le_of_ble_eq_true rfl, Nat.le_of_ble_eq_true rfl⟩ rfl rfl dX12_parts_140 rfl (fun v809865 M809866 P809867 => ?_)
                    obtain ⟨rv809865, IM809866, CM809866, FM809866, xM809866⟩ := P809867
                    refine g_goto (tgt := 148) X dX12_parts_143 (by decide) ?_
                    refine g_istore (n := 150) (L' := [(6, gJ v809865), (5, gJ 1), (0, gA n0 190), (1, gJ a), (2, gJ b), (3, gJ v3), (4, gJ v404977)]) X dX12_parts_148 (by decide) rfl rfl ?_
                    refine g_iload (n := 152) X 0 dX12_parts_150 rfl rfl ?_
                    refine g_bipush (n := 154) X dX12_parts_152 (by decide +kernel) rfl ?_
                    refine g_icmp_eq (n := 157) (tgt := 168) X dX12_parts_154 (by decide) (by omega) (by omega) rfl (fun c809868 => ?_) (fun c809868 => ?_)
                    · refine g_iinc (n := 171) (w := v404977 + 1) (L' := [(4, gJ (v404977 + 1)), (6, gJ v809865), (5, gJ 1), (0, gA n0 190), (1, gJ a), (2, gJ b), (3, gJ v3)]) X 6 dX12_parts_168 rfl rfl (by decide) rfl rfl ?_
                      refine g_goto (tgt := 62) X dX12_parts_171 (by decide) ?_
                      refine G.sub (L' := [(0, gA n0 190), (1, gJ a), (2, gJ b), (3, gJ v3), (4, gJ (v404977 + 1))]) [3, 4, 5, 6, 0] rfl ?_
                      exact ih769382 (v404977 + 1) M809866 (by omega) IM809866 CM809866 (gFr.c (gFr.c gFr.rf FM404978 rfl) FM809866 rfl) (by omega)
                    · refine g_aload_n (n := 158) X 2 dX12_parts_157 rfl rfl rfl ?_
                      refine gg_12_20 (n := 161) (z := 202) X (by decide) (gsz hsz (by decide)) lay_190 kw_6_46 dX12_parts_158 rfl (rf_190_20 IM809866 (gsz hsz (by decide))) (by decide) ?_
                      refine g_iload (n := 163) X 0 dX12_parts_161 rfl rfl ?_
                      refine g_dup2 (n := 164) X dX12_parts_163 rfl rfl rfl ?_
                      obtain ⟨v809869, hv809869, rv809869⟩ := gRd IM809866 (by decide) (gsz hsz (by decide)) (ra_202 v809865).1
                      refine g_lald2 (n := 165) (v := v809869) X (by decide) (gsz hsz (by decide)) lay_202 (by omega) (by omega) (by decide) dX12_parts_164 rfl hv809869 ?_
                      refine g_lconst (n := 166) (z := 1) X dX12_parts_165 (by decide +kernel) rfl ?_
                      refine g_laddA (n := 167) X dX12_parts_166 rfl (fun v809870 rv809870 xv809870 => ?_)
                      clear xv809870
                      refine g_last (n := 168) X (by decide) (gsz hsz (by decide)) lay_202 (by omega) (by omega) (by decide) dX12_parts_167 rfl ?_
                      refine G.nm (fun M809871 e809872 => ?_)
                      have IM809871 : gI sz M809871 := gI.set IM809866 (ra_202 v809865).1 (by omega) e809872
                      have CM809871 : gC sz M809871 := gC.set CM809866 (ra_202 v809865).2.1 e809872
                      refine g_iinc (n := 171) (w := v404977 + 1) (L' := [(4, gJ (v404977 + 1)), (6, gJ v809865), (5, gJ 1), (0, gA n0 190), (1, gJ a), (2, gJ b), (3, gJ v3)]) X 6 dX12_parts_168 rfl rfl (by decide) rfl rfl ?_
                      refine g_goto (tgt := 62) X dX12_parts_171 (by decide) ?_
                      refine G.sub (L' := [(0, gA n0 190), (1, gJ a), (2, gJ b), (3, gJ v3), (4, gJ (v404977 + 1))]) [3, 4, 5, 6, 0] rfl ?_
                      exact ih769382 (v404977 + 1) M809871 (by omega) IM809871 CM809871 (gFr.s (gFr.c (gFr.c gFr.rf FM404978 rfl) FM809866 rfl) e809872 (ra_202 v809865).2.2 rfl) (by omega)
        refine G.sub (L' := [(0, gA n0 190), (1, gJ a), (2, gJ b), (3, gJ v3), (4, gJ 0)]) [1, 2, 3, 4, 0] rfl ?_
        exact j404979 _ 0 M7 (by omega) IM7 CM7 gFr.rf (Nat.lt_succ_self _)
      · refine g_aload_n (n := 19) X 0 dX12_parts_18 rfl rfl rfl ?_
        refine gg_12_20 (n := 22) (z := 202) X (by decide) (gsz hsz (by decide)) lay_190 kw_6_46 dX12_parts_19 rfl (rf_190_20 IM7 (gsz hsz (by decide))) (by decide) ?_
        refine g_iload (n := 24) X 4 dX12_parts_22 rfl rfl ?_
        refine g_iload_n (n := 25) X 3 dX12_parts_24 rfl rfl rfl ?_
        refine g_if_ne (n := 28) (tgt := 42) X dX12_parts_25 (by decide) (by omega) rfl (fun c809873 => ?_) (fun c809873 => ?_)
        · refine g_iload_n (n := 43) X 3 dX12_parts_42 rfl rfl rfl ?_
          refine g_iconst (n := 44) X dX12_parts_43 rfl ?_
          refine g_icmp_ne (n := 47) (tgt := 51) X dX12_parts_44 (by decide) (by omega) (by omega) rfl (fun c809874 => ?_) (fun c809874 => ?_)
          · refine g_lconst (n := 52) (z := 1) X dX12_parts_51 (by decide +kernel) rfl ?_
            refine g_last (n := 53) X (by decide) (gsz hsz (by decide)) lay_202 (by omega) (by omega) (by decide) dX12_parts_52 rfl ?_
            refine G.nm (fun M809875 e809876 => ?_)
            have IM809875 : gI sz M809875 := gI.set IM7 (ra_202 v6).1 (by omega) e809876
            have CM809875 : gC sz M809875 := gC.set CM7 (ra_202 v6).2.1 e809876
            refine g_iinc (n := 56) (w := v6 + 1) (L' := [(4, gJ (v6 + 1)), (0, gA n0 190), (1, gJ a), (2, gJ b), (3, gJ v3)]) X 4 dX12_parts_53 rfl rfl (by decide) rfl rfl ?_
            refine g_goto (tgt := 11) X dX12_parts_56 (by decide) ?_
            refine G.sub (L' := [(0, gA n0 190), (1, gJ a), (2, gJ b), (3, gJ v3), (4, gJ (v6 + 1))]) [1, 2, 3, 4, 0] rfl ?_
            exact ih404965 (v6 + 1) M809875 (by omega) IM809875 CM809875 (gFr.s (gFr.c gFr.rf FM7 rfl) e809876 (ra_202 v6).2.2 rfl) (by omega)
          · refine g_lconst (n := 48) (z := 0) X dX12_parts_47 (by decide +kernel) rfl ?_
            refine g_goto (tgt := 52) X dX12_parts_48 (by decide) ?_
            refine g_last (n := 53) X (by decide) (gsz hsz (by decide)) lay_202 (by omega) (by omega) (by decide) dX12_parts_52 rfl ?_
            refine G.nm (fun M809877 e809878 => ?_)
            have IM809877 : gI sz M809877 := gI.set IM7 (ra_202 v6).1 (by omega) e809878
            have CM809877 : gC sz M809877 := gC.set CM7 (ra_202 v6).2.1 e809878
            refine g_iinc (n := 56) (w := v6 + 1) (L' := [(4, gJ (v6 + 1)), (0, gA n0 190), (1, gJ a), (2, gJ b), (3, gJ v3)]) X 4 dX12_parts_53 rfl rfl (by decide) rfl rfl ?_
            refine g_goto (tgt := 11) X dX12_parts_56 (by decide) ?_
            refine G.sub (L' := [(0, gA n0 190), (1, gJ a), (2, gJ b), (3, gJ v3), (4, gJ (v6 + 1))]) [1, 2, 3, 4, 0] rfl ?_
            exact ih404965 (v6 + 1) M809877 (by omega) IM809877 CM809877 (gFr.s (gFr.c gFr.rf FM7 rfl) e809878 (ra_202 v6).2.2 rfl) (by omega)
        · refine g_aload_n (n := 29) X 0 dX12_parts_28 rfl rfl rfl ?_
          refine gg_12_1 (n := 32) (z := 191) X (by decide) (gsz hsz (by decide)) lay_190 kw_6_27 dX12_parts_29 rfl (rf_190_1 IM7 (gsz hsz (by decide))) (by decide) ?_
          refine g_bipush (n := 34) X dX12_parts_32 (by decide +kernel) rfl ?_
          refine g_iload (n := 36) X 4 dX12_parts_34 rfl rfl ?_
          refine g_iadd (n := 37) (z := v6 + 16) X dX12_parts_36 (by omega) rfl ?_
          obtain ⟨v809879, hv809879, rv809879⟩ := gRd IM7 (by decide) (gsz hsz (by decide)) (rs_RENT (k := v6 + 16) (by omega)).1
          refine g_iald2 (n := 38) (v := v809879) X (by decide) (gsz hsz (by decide)) lay_191 (by omega) (by omega) (by decide) dX12_parts_37 rfl hv809879 ?_
          refine g_i2lE (n := 39) (z := v809879) X dX12_parts_38 (g_i2l (by omega)) rfl ?_
          refine g_goto (tgt := 52) X dX12_parts_39 (by decide) ?_
          refine g_last (n := 53) X (by decide) (gsz hsz (by decide)) lay_202 (by omega) (by omega) (by decide) dX12_parts_52 rfl ?_
          refine G.nm (fun M809880 e809881 => ?_)
          have IM809880 : gI sz M809880 := gI.set IM7 (ra_202 v6).1 (by omega) e809881
          have CM809880 : gC sz M809880 := gC.set CM7 (ra_202 v6).2.1 e809881
          refine g_iinc (n := 56) (w := v6 + 1) (L' := [(4, gJ (v6 + 1)), (0, gA n0 190), (1, gJ a), (2, gJ b), (3, gJ v3)]) X 4 dX12_parts_53 rfl rfl (by decide) rfl rfl ?_
          refine g_goto (tgt := 11) X dX12_parts_56 (by decide) ?_
          refine G.sub (L' := [(0, gA n0 190), (1, gJ a), (2, gJ b), (3, gJ v3), (4, gJ (v6 + 1))]) [1, 2, 3, 4, 0] rfl ?_
          exact ih404965 (v6 + 1) M809880 (by omega) IM809880 CM809880 (gFr.s (gFr.c gFr.rf FM7 rfl) e809881 (ra_202 v6).2.2 rfl) (by omega)
  refine G.sub (L' := [(0, gA n0 190), (1, gJ a), (2, gJ b), (3, gJ v3), (4, gJ 0)]) [2, 3, 4, 1, 0] rfl ?_
  exact j8 _ 0 M (by omega) I C gFr.rf (Nat.lt_succ_self _)
theorem dX12_owed_0 : decode cX12_owed 0 = .ok (.iload_n 1, 1) := dc_27 (by decide +kernel)
theorem dX12_owed_1 : decode cX12_owed 1 = .ok (.invokestatic 68, 3) := dc_184 0 68 (by decide +kernel)
theorem dX12_owed_4 : decode cX12_owed 4 = .ok (.ifCond .eq 28, 3) := dc_153 0 28 28 (by decide +kernel)
theorem dX12_owed_32 : decode cX12_owed 32 = .ok (.iconst (-1), 1) := dc_2 (by decide +kernel)
theorem dX12_owed_33 : decode cX12_owed 33 = .ok (.ireturn, 1) := dc_172 (by decide +kernel)
theorem dX12_owed_7 : decode cX12_owed 7 = .ok (.aload_n 0, 1) := dc_42 (by decide +kernel)
theorem dX12_owed_8 : decode cX12_owed 8 = .ok (.iload_n 2, 1) := dc_28 (by decide +kernel)
theorem dX12_owed_9 : decode cX12_owed 9 = .ok (.invokevirtual 275, 3) := dc_182 1 19 (by decide +kernel)
theorem dX12_owed_12 : decode cX12_owed 12 = .ok (.ifCond .eq 20, 3) := dc_153 0 20 20 (by decide +kernel)
theorem dX12_owed_15 : decode cX12_owed 15 = .ok (.aload_n 0, 1) := dc_42 (by decide +kernel)
theorem dX12_owed_16 : decode cX12_owed 16 = .ok (.iload_n 3, 1) := dc_29 (by decide +kernel)
theorem dX12_owed_17 : decode cX12_owed 17 = .ok (.invokevirtual 275, 3) := dc_182 1 19 (by decide +kernel)
theorem dX12_owed_20 : decode cX12_owed 20 = .ok (.ifCond .eq 12, 3) := dc_153 0 12 12 (by decide +kernel)
theorem dX12_owed_23 : decode cX12_owed 23 = .ok (.aload_n 0, 1) := dc_42 (by decide +kernel)
theorem dX12_owed_24 : decode cX12_owed 24 = .ok (.iload 4, 2) := dc_21 4 (by decide +kernel)
theorem dX12_owed_26 : decode cX12_owed 26 = .ok (.invokevirtual 113, 3) := dc_182 0 113 (by decide +kernel)
theorem dX12_owed_29 : decode cX12_owed 29 = .ok (.ifCond .ne 5, 3) := dc_154 0 5 5 (by decide +kernel)
theorem dX12_owed_34 : decode cX12_owed 34 = .ok (.iload_n 2, 1) := dc_28 (by decide +kernel)
theorem dX12_owed_35 : decode cX12_owed 35 = .ok (.iload_n 3, 1) := dc_29 (by decide +kernel)
theorem dX12_owed_36 : decode cX12_owed 36 = .ok (.if_icmp .le 6, 3) := dc_164 0 6 6 (by decide +kernel)
theorem dX12_owed_42 : decode cX12_owed 42 = .ok (.iconst 0, 1) := dc_3 (by decide +kernel)
theorem dX12_owed_43 : decode cX12_owed 43 = .ok (.istore 5, 2) := dc_54 5 (by decide +kernel)
theorem dX12_owed_45 : decode cX12_owed 45 = .ok (.iload_n 2, 1) := dc_28 (by decide +kernel)
theorem dX12_owed_46 : decode cX12_owed 46 = .ok (.istore 6, 2) := dc_54 6 (by decide +kernel)
theorem dX12_owed_48 : decode cX12_owed 48 = .ok (.iload 6, 2) := dc_21 6 (by decide +kernel)
theorem dX12_owed_50 : decode cX12_owed 50 = .ok (.iload_n 3, 1) := dc_29 (by decide +kernel)
theorem dX12_owed_51 : decode cX12_owed 51 = .ok (.if_icmp .gt 93, 3) := dc_163 0 93 93 (by decide +kernel)
theorem dX12_owed_144 : decode cX12_owed 144 = .ok (.iload 5, 2) := dc_21 5 (by decide +kernel)
theorem dX12_owed_146 : decode cX12_owed 146 = .ok (.ireturn, 1) := dc_172 (by decide +kernel)
theorem dX12_owed_54 : decode cX12_owed 54 = .ok (.iconst 0, 1) := dc_3 (by decide +kernel)
theorem dX12_owed_55 : decode cX12_owed 55 = .ok (.istore 7, 2) := dc_54 7 (by decide +kernel)
theorem dX12_owed_57 : decode cX12_owed 57 = .ok (.iload 7, 2) := dc_21 7 (by decide +kernel)
theorem dX12_owed_59 : decode cX12_owed 59 = .ok (.aload_n 0, 1) := dc_42 (by decide +kernel)
theorem dX12_owed_60 : decode cX12_owed 60 = .ok (.getfield 7, 3) := dc_180 0 7 (by decide +kernel)
theorem dX12_owed_63 : decode cX12_owed 63 = .ok (.sipush 25000, 3) := dc_17 97 168 25000 (by decide +kernel)
theorem dX12_owed_66 : decode cX12_owed 66 = .ok (.iload 6, 2) := dc_21 6 (by decide +kernel)
theorem dX12_owed_68 : decode cX12_owed 68 = .ok (.iadd, 1) := dc_96 (by decide +kernel)
theorem dX12_owed_69 : decode cX12_owed 69 = .ok (.iaload, 1) := dc_46 (by decide +kernel)
theorem dX12_owed_70 : decode cX12_owed 70 = .ok (.if_icmp .ge 68, 3) := dc_162 0 68 68 (by decide +kernel)
theorem dX12_owed_138 : decode cX12_owed 138 = .ok (.iinc 6 1, 3) := dc_132 6 1 1 (by decide +kernel)
theorem dX12_owed_141 : decode cX12_owed 141 = .ok (.goto (-93), 3) := dc_167 255 163 (-93) (by decide +kernel)
theorem dX12_owed_73 : decode cX12_owed 73 = .ok (.aload_n 0, 1) := dc_42 (by decide +kernel)
theorem dX12_owed_74 : decode cX12_owed 74 = .ok (.getfield 7, 3) := dc_180 0 7 (by decide +kernel)
theorem dX12_owed_77 : decode cX12_owed 77 = .ok (.sipush 10216, 3) := dc_17 39 232 10216 (by decide +kernel)
theorem dX12_owed_80 : decode cX12_owed 80 = .ok (.sipush 301, 3) := dc_17 1 45 301 (by decide +kernel)
theorem dX12_owed_83 : decode cX12_owed 83 = .ok (.iload 7, 2) := dc_21 7 (by decide +kernel)
theorem dX12_owed_85 : decode cX12_owed 85 = .ok (.imul, 1) := dc_104 (by decide +kernel)
theorem dX12_owed_86 : decode cX12_owed 86 = .ok (.iadd, 1) := dc_96 (by decide +kernel)
theorem dX12_owed_87 : decode cX12_owed 87 = .ok (.iload 6, 2) := dc_21 6 (by decide +kernel)
theorem dX12_owed_89 : decode cX12_owed 89 = .ok (.iadd, 1) := dc_96 (by decide +kernel)
theorem dX12_owed_90 : decode cX12_owed 90 = .ok (.iaload, 1) := dc_46 (by decide +kernel)
theorem dX12_owed_91 : decode cX12_owed 91 = .ok (.istore 8, 2) := dc_54 8 (by decide +kernel)
theorem dX12_owed_93 : decode cX12_owed 93 = .ok (.iload 5, 2) := dc_21 5 (by decide +kernel)
theorem dX12_owed_95 : decode cX12_owed 95 = .ok (.iload 8, 2) := dc_21 8 (by decide +kernel)
theorem dX12_owed_97 : decode cX12_owed 97 = .ok (.ifCond .le 31, 3) := dc_158 0 31 31 (by decide +kernel)
theorem dX12_owed_128 : decode cX12_owed 128 = .ok (.iconst 0, 1) := dc_3 (by decide +kernel)
theorem dX12_owed_129 : decode cX12_owed 129 = .ok (.iadd, 1) := dc_96 (by decide +kernel)
theorem dX12_owed_130 : decode cX12_owed 130 = .ok (.istore 5, 2) := dc_54 5 (by decide +kernel)
theorem dX12_owed_132 : decode cX12_owed 132 = .ok (.iinc 7 1, 3) := dc_132 7 1 1 (by decide +kernel)
theorem dX12_owed_135 : decode cX12_owed 135 = .ok (.goto (-78), 3) := dc_167 255 178 (-78) (by decide +kernel)
theorem dX12_owed_100 : decode cX12_owed 100 = .ok (.aload_n 0, 1) := dc_42 (by decide +kernel)
theorem dX12_owed_101 : decode cX12_owed 101 = .ok (.iload 7, 2) := dc_21 7 (by decide +kernel)
theorem dX12_owed_103 : decode cX12_owed 103 = .ok (.iconst 1, 1) := dc_4 (by decide +kernel)
theorem dX12_owed_104 : decode cX12_owed 104 = .ok (.iload 6, 2) := dc_21 6 (by decide +kernel)
theorem dX12_owed_106 : decode cX12_owed 106 = .ok (.iload 4, 2) := dc_21 4 (by decide +kernel)
theorem dX12_owed_108 : decode cX12_owed 108 = .ok (.invokevirtual 116, 3) := dc_182 0 116 (by decide +kernel)
theorem dX12_owed_111 : decode cX12_owed 111 = .ok (.iload_n 1, 1) := dc_27 (by decide +kernel)
theorem dX12_owed_112 : decode cX12_owed 112 = .ok (.if_icmp .ne 16, 3) := dc_160 0 16 16 (by decide +kernel)
theorem dX12_owed_115 : decode cX12_owed 115 = .ok (.iload 8, 2) := dc_21 8 (by decide +kernel)
theorem dX12_owed_117 : decode cX12_owed 117 = .ok (.aload_n 0, 1) := dc_42 (by decide +kernel)
theorem dX12_owed_118 : decode cX12_owed 118 = .ok (.getfield 7, 3) := dc_180 0 7 (by decide +kernel)
theorem dX12_owed_121 : decode cX12_owed 121 = .ok (.bipush 9, 2) := dc_16 9 9 (by decide +kernel)
theorem dX12_owed_123 : decode cX12_owed 123 = .ok (.iaload, 1) := dc_46 (by decide +kernel)
theorem dX12_owed_124 : decode cX12_owed 124 = .ok (.imul, 1) := dc_104 (by decide +kernel)
theorem dX12_owed_125 : decode cX12_owed 125 = .ok (.goto 4, 3) := dc_167 0 4 4 (by decide +kernel)
theorem dX12_owed_39 : decode cX12_owed 39 = .ok (.bipush (-2), 2) := dc_16 254 (-2) (by decide +kernel)
theorem dX12_owed_41 : decode cX12_owed 41 = .ok (.ireturn, 1) := dc_172 (by decide +kernel)
abbrev R_X12_owed : Room := { frames := 74, cells := 0, slots := 0, locals := 2990 }
set_option maxRecDepth 100000 in
set_option maxHeartbeats 4000000 in
theorem s_X12_owed {l : Launch} {n0 : Nat} {D : va_G} {cA : Nat → ClassId} {M : gM} (a : Int) (r_a : -2147483648 ≤ a ∧ a ≤ 2147483647) (b : Int) (r_b : -2147483648 ≤ b ∧ b ≤ 2147483647) (c : Int) (r_c : -2147483648 ≤ c ∧ c ≤ 2147483647) (d : Int) (r_d : -2147483648 ≤ d ∧ d ≤ 2147483647) {sz : Nat} (hsz : 206 ≤ sz) (I : gI sz M) (C : gC sz M) (W : gW 191 M)  : Met l yX12_owed (gWsOf yX12_owed cX12_owed 9 (Option.some Jvm.ClassFile.FieldType.int)) R_X12_owed (gPc n0 D cA [gA n0 190, gJ a, gJ b, gJ c, gJ d] M sz) (gQi n0 D cA sz (fun z M1 => (-2147483648 ≤ z ∧ z ≤ 2147483647) ∧ gI sz M1 ∧ gC sz M1 ∧ gFr 2475880189251224992055558144 M M1)) 0 0 (fun q => n0 ≤ q) := by
  refine gMetI [gA n0 190, gJ a, gJ b, gJ c, gJ d] (by decide) (Nat.le_of_ble_eq_true rfl) ⟨rfl, rfl⟩ ?_
  intro p e s m args below meth cd Q X hq
  have X : gCx p s m args meth cd n0 D cA "ParishUnionModel" cX12_owed 9 := X
  show G p l e R_X12_owed s m args below meth cd n0 D cA 9 Q 0 0 M sz 0 [(0, gA n0 190), (1, gJ a), (2, gJ b), (3, gJ c), (4, gJ d)] []
  obtain ⟨v1, hv1, rv1⟩ := gRd I (by decide) (gsz hsz (by decide)) (rs_PERS (k := 1) (by omega)).1
  obtain ⟨v2, hv2, rv2⟩ := gRd I (by decide) (gsz hsz (by decide)) (rs_NOW (k := 0) (by omega)).1
  refine g_iload_n (n := 1) X 1 dX12_owed_0 rfl rfl rfl ?_
  refine g_callSi (n := 4) (As := [gJ a]) (rest := []) (cs1 := 0) (ss1 := 0) X (s_X12_isParish a (by omega) hsz I C ) okX12_isParish kw_6_103 kw_6_104 ⟨rfl, rfl⟩ ⟨Nat.le_of_ble_eq_true rfl, Nat.le_of_ble_eq_true rfl⟩ rfl rfl (Nat.le_of_ble_eq_true rfl) ⟨Nat.le_of_ble_eq_true rfl, Nat.le_of_ble_eq_true rfl⟩ rfl rfl dX12_owed_1 rfl (fun v3 M4 P5 => ?_)
  obtain ⟨rfl, rv3, xv3⟩ := P5
  refine g_if_eq (n := 7) (tgt := 32) X dX12_owed_4 (by decide) (by omega) rfl (fun c6 => ?_) (fun c6 => ?_)
  · refine g_iconst (n := 33) X dX12_owed_32 rfl ?_
    exact hq _ _ _ _ dX12_owed_33 ⟨by omega, I, C, gFr.rf⟩
  · refine g_aload_n (n := 8) X 0 dX12_owed_7 rfl rfl rfl ?_
    refine g_iload_n (n := 9) X 2 dX12_owed_8 rfl rfl rfl ?_
    refine g_callVi (n := 12) (As := [gJ b]) (rest := []) (cs1 := 0) (ss1 := 0) X (s_X12_isGone b (by omega) hsz I C ) okX12_isGone kw_7_170 ⟨kw_7_172, kw_0_82⟩ ⟨rfl, rfl⟩ ⟨Nat.le_of_ble_eq_true rfl, Nat.le_of_ble_eq_true rfl⟩ rfl (by decide) (gsz hsz (by decide)) lay_190 rfl rfl (Nat.le_of_ble_eq_true rfl) ⟨Nat.le_of_ble_eq_true rfl, Nat.le_of_ble_eq_true rfl⟩ rfl rfl dX12_owed_9 rfl (fun v7 M8 P9 => ?_)
    obtain ⟨rfl, rv7, xv7⟩ := P9
    refine g_if_eq (n := 15) (tgt := 32) X dX12_owed_12 (by decide) (by omega) rfl (fun c10 => ?_) (fun c10 => ?_)
    · refine g_iconst (n := 33) X dX12_owed_32 rfl ?_
      exact hq _ _ _ _ dX12_owed_33 ⟨by omega, I, C, gFr.rf⟩
    · refine g_aload_n (n := 16) X 0 dX12_owed_15 rfl rfl rfl ?_
      refine g_iload_n (n := 17) X 3 dX12_owed_16 rfl rfl rfl ?_
      refine g_callVi (n := 20) (As := [gJ c]) (rest := []) (cs1 := 0) (ss1 := 0) X (s_X12_isGone c (by omega) hsz I C ) okX12_isGone kw_7_170 ⟨kw_7_172, kw_0_82⟩ ⟨rfl, rfl⟩ ⟨Nat.le_of_ble_eq_true rfl, Nat.le_of_ble_eq_true rfl⟩ rfl (by decide) (gsz hsz (by decide)) lay_190 rfl rfl (Nat.le_of_ble_eq_true rfl) ⟨Nat.le_of_ble_eq_true rfl, Nat.le_of_ble_eq_true rfl⟩ rfl rfl dX12_owed_17 rfl (fun v11 M12 P13 => ?_)
      obtain ⟨rfl, rv11, xv11⟩ := P13
      refine g_if_eq (n := 23) (tgt := 32) X dX12_owed_20 (by decide) (by omega) rfl (fun c14 => ?_) (fun c14 => ?_)
      · refine g_iconst (n := 33) X dX12_owed_32 rfl ?_
        exact hq _ _ _ _ dX12_owed_33 ⟨by omega, I, C, gFr.rf⟩
      · refine g_aload_n (n := 24) X 0 dX12_owed_23 rfl rfl rfl ?_
        refine g_iload (n := 26) X 4 dX12_owed_24 rfl rfl ?_
        refine g_callVi (n := 29) (As := [gJ d]) (rest := []) (cs1 := 0) (ss1 := 0) X (s_X12_isBy d (by omega) hsz I C ) okX12_isBy kw_6_181 ⟨kw_6_183, kw_0_46⟩ ⟨rfl, rfl⟩ ⟨Nat.le_of_ble_eq_true rfl, Nat.le_of_ble_eq_true rfl⟩ rfl (by decide) (gsz hsz (by decide)) lay_190 rfl rfl (Nat.le_of_ble_eq_true rfl) ⟨Nat.le_of_ble_eq_true rfl, Nat.le_of_ble_eq_true rfl⟩ rfl rfl dX12_owed_26 rfl (fun v15 M16 P17 => ?_)
        obtain ⟨rfl, rv15, xv15⟩ := P17
        refine g_if_ne (n := 32) (tgt := 34) X dX12_owed_29 (by decide) (by omega) rfl (fun c18 => ?_) (fun c18 => ?_)
        · refine g_iload_n (n := 35) X 2 dX12_owed_34 rfl rfl rfl ?_
          refine g_iload_n (n := 36) X 3 dX12_owed_35 rfl rfl rfl ?_
          refine g_icmp_le (n := 39) (tgt := 42) X dX12_owed_36 (by decide) (by omega) (by omega) rfl (fun c19 => ?_) (fun c19 => ?_)
          · refine g_iconst (n := 43) X dX12_owed_42 rfl ?_
            refine g_istore (n := 45) (L' := [(5, gJ 0), (0, gA n0 190), (1, gJ a), (2, gJ b), (3, gJ c), (4, gJ d)]) X dX12_owed_43 (by decide) rfl rfl ?_
            refine g_iload_n (n := 46) X 3 dX12_owed_45 rfl rfl rfl ?_
            refine g_istore (n := 48) (L' := [(6, gJ b), (5, gJ 0), (0, gA n0 190), (1, gJ a), (2, gJ b), (3, gJ c), (4, gJ d)]) X dX12_owed_46 (by decide) rfl rfl ?_
            have j23 : ∀ (N255 : Nat) (v20 v21 : Int) (M22 : gM) , (-2147483648 ≤ v20 ∧ v20 ≤ 2147483647) → (0 ≤ v21 ∧ v21 ≤ 300) → gI sz M22 → gC sz M22 → gFr 2475880189251224992055558144 M M22 → (300 - v21).toNat < N255 → G p l e R_X12_owed s m args below meth cd n0 D cA 9 Q 0 0 M22 sz 48 [(0, gA n0 190), (1, gJ a), (3, gJ c), (4, gJ d), (5, gJ v20), (6, gJ v21)] [] := by
              intro N255; induction N255 with
              | zero => intro v20 v21 M22 rv20 rv21 IM22 CM22 FM22 hm257; exfalso; omega
              | succ N255 ih256 =>
                intro v20 v21 M22 rv20 rv21 IM22 CM22 FM22 hm257
                refine g_iload (n := 50) X 5 dX12_owed_48 rfl rfl ?_
                refine g_iload_n (n := 51) X 2 dX12_owed_50 rfl rfl rfl ?_
                refine g_icmp_gt (n := 54) (tgt := 144) X dX12_owed_51 (by decide) (by omega) (by omega) rfl (fun c258 => ?_) (fun c258 => ?_)
                · refine g_iload (n := 146) X 4 dX12_owed_144 rfl rfl ?_
                  exact hq _ _ _ _ dX12_owed_146 ⟨by omega, IM22, CM22, (gFr.c gFr.rf FM22 rfl)⟩
                · refine g_iconst (n := 55) X dX12_owed_54 rfl ?_
                  refine g_istore (n := 57) (L' := [(7, gJ 0), (0, gA n0 190), (1, gJ a), (3, gJ c), (4, gJ d), (5, gJ v20), (6, gJ v21)]) X dX12_owed_55 (by decide) rfl rfl ?_
                  have j262 : ∀ (N359 : Nat) (v259 v260 : Int) (M261 : gM) , (-2147483648 ≤ v259 ∧ v259 ≤ 2147483647) → (0 ≤ v260 ∧ v260 ≤ 16) → gI sz M261 → gC sz M261 → gFr 2475880189251224992055558144 M22 M261 → (16 - v260).toNat < N359 → G p l e R_X12_owed s m args below meth cd n0 D cA 9 Q 0 0 M261 sz 57 [(0, gA n0 190), (1, gJ a), (3, gJ c), (4, gJ d), (5, gJ v259), (6, gJ v21), (7, gJ v260)] [] := by
                    intro N359; induction N359 with
                    | zero => intro v259 v260 M261 rv259 rv260 IM261 CM261 FM261 hm361; exfalso; omega
                    | succ N359 ih360 =>
                      intro v259 v260 M261 rv259 rv260 IM261 CM261 FM261 hm361
                      refine g_iload (n := 59) X 6 dX12_owed_57 rfl rfl ?_
                      refine g_aload_n (n := 60) X 0 dX12_owed_59 rfl rfl rfl ?_
                      refine gg_12_1 (n := 63) (z := 191) X (by decide) (gsz hsz (by decide)) lay_190 kw_6_27 dX12_owed_60 rfl (rf_190_1 IM261 (gsz hsz (by decide))) (by decide) ?_
                      refine g_sipush (n := 66) X dX12_owed_63 (by decide +kernel) rfl ?_
                      refine g_iload (n := 68) X 5 dX12_owed_66 rfl rfl ?_
                      refine g_iadd (n := 69) (z := v21 + 25000) X dX12_owed_68 (by omega) rfl ?_
                      obtain ⟨v362, hv362, rv362⟩ := gRd IM261 (by decide) (gsz hsz (by decide)) (rs_GPERS (k := v21 + 25000) (by omega)).1
                      refine g_iald2 (n := 70) (v := v362) X (by decide) (gsz hsz (by decide)) lay_191 (by omega) (by omega) (by decide) dX12_owed_69 rfl hv362 ?_
                      refine g_icmp_ge (n := 73) (tgt := 138) X dX12_owed_70 (by decide) (by omega) (by omega) rfl (fun c363 => ?_) (fun c363 => ?_)
                      · refine g_iinc (n := 141) (w := v21 + 1) (L' := [(6, gJ (v21 + 1)), (0, gA n0 190), (1, gJ a), (3, gJ c), (4, gJ d), (5, gJ v259), (7, gJ v260)]) X 5 dX12_owed_138 rfl rfl (by decide) rfl rfl ?_
                        refine g_goto (tgt := 48) X dX12_owed_141 (by decide) ?_
                        refine G.sub (L' := [(0, gA n0 190), (1, gJ a), (3, gJ c), (4, gJ d), (5, gJ v259), (6, gJ (v21 + 1))]) [1, 2, 3, 4, 5, 0] rfl ?_
                        exact ih256 v259 (v21 + 1) M261 (by omega) (by omega) IM261 CM261 (gFr.c (gFr.c gFr.rf FM22 rfl) FM261 rfl) (by omega)
                      · refine g_aload_n (n := 74) X 0 dX12_owed_73 rfl rfl rfl ?_
                        refine gg_12_1 (n := 77) (z := 191) X (by decide) (gsz hsz (by decide)) lay_190 kw_6_27 dX12_owed_74 rfl (rf_190_1 IM261 (gsz hsz (by decide))) (by decide) ?_
                        refine g_sipush (n := 80) X dX12_owed_77 (by decide +kernel) rfl ?_
                        refine g_sipush (n := 83) X dX12_owed_80 (by decide +kernel) rfl ?_
                        refine g_iload (n := 85) X 6 dX12_owed_83 rfl rfl ?_
                        refine g_imul (n := 86) (z := 301 * v260) X dX12_owed_85 rfl rfl ?_
                        refine g_iadd (n := 87) (z := 10216 + (301 * v260)) X dX12_owed_86 rfl rfl ?_
                        refine g_iload (n := 89) X 5 dX12_owed_87 rfl rfl ?_
                        refine g_iadd (n := 90) (z := (10216 + (301 * v260)) + v21) X dX12_owed_89 rfl rfl ?_
                        obtain ⟨v364, hv364, rv364⟩ := gRd IM261 (by decide) (gsz hsz (by decide)) (rs_W (k := (10216 + (301 * v260)) + v21) (by omega)).1
                        refine g_iald2 (n := 91) (v := v364) X (by decide) (gsz hsz (by decide)) lay_191 (by omega) (by omega) (by decide) dX12_owed_90 rfl hv364 ?_
                        refine g_istore (n := 93) (L' := [(8, gJ v364), (0, gA n0 190), (1, gJ a), (3, gJ c), (4, gJ d), (5, gJ v259), (6, gJ v21), (7, gJ v260)]) X dX12_owed_91 (by decide) rfl rfl ?_
                        refine g_iload (n := 95) X 5 dX12_owed_93 rfl rfl ?_
                        refine g_iload (n := 97) X 0 dX12_owed_95 rfl rfl ?_
                        refine g_if_le (n := 100) (tgt := 128) X dX12_owed_97 (by decide) (by omega) rfl (fun c365 => ?_) (fun c365 => ?_)
                        · refine g_iconst (n := 129) X dX12_owed_128 rfl ?_
                          refine g_iadd (n := 130) (z := v259) X dX12_owed_129 (by omega) rfl ?_
                          refine g_istore (n := 132) (L' := [(5, gJ v259), (8, gJ v364), (0, gA n0 190), (1, gJ a), (3, gJ c), (4, gJ d), (6, gJ v21), (7, gJ v260)]) X dX12_owed_130 (by decide) rfl rfl ?_
                          refine g_iinc (n := 135) (w := v260 + 1) (L' := [(7, gJ (v260 + 1)), (5, gJ v259), (8, gJ v364), (0, gA n0 190), (1, gJ a), (3, gJ c), (4, gJ d), (6, gJ v21)]) X 7 dX12_owed_132 rfl rfl (by decide) rfl rfl ?_
                          refine g_goto (tgt := 57) X dX12_owed_135 (by decide) ?_
                          refine G.sub (L' := [(0, gA n0 190), (1, gJ a), (3, gJ c), (4, gJ d), (5, gJ v259), (6, gJ v21), (7, gJ (v260 + 1))]) [3, 4, 5, 6, 1, 7, 0] rfl ?_
                          exact ih360 v259 (v260 + 1) M261 (by omega) (by omega) IM261 CM261 (gFr.c gFr.rf FM261 rfl) (by omega)
                        · have hG366 := (gW.fr (S := 2475880189251224992055558144) W ⟨sz, hsz, I⟩ (gFr.c (gFr.c gFr.rf FM22 rfl) FM261 rfl) rfl).2.2.2 v21 (by omega) (by have q0 := ((gFr.at FM261 (rs_NOW (k := 0) (by omega)).2.2 rfl).trans ((gFr.at FM22 (rs_NOW (k := 0) (by omega)).2.2 rfl).trans hv2)); omega)
                          refine g_aload_n (n := 101) X 1 dX12_owed_100 rfl rfl rfl ?_
                          refine g_iload (n := 103) X 7 dX12_owed_101 rfl rfl ?_
                          refine g_iconst (n := 104) X dX12_owed_103 rfl ?_
                          refine g_iload (n := 106) X 6 dX12_owed_104 rfl rfl ?_
                          refine g_iload (n := 108) X 4 dX12_owed_106 rfl rfl ?_
                          refine g_callVi (n := 111) (As := [gJ v260, gJ 1, gJ v21, gJ d]) (rest := [gJ v259]) (cs1 := 0) (ss1 := 0) X (s_X12_byBench v260 (by omega) 1 (by omega) v21 (by omega) d (by omega) hsz IM261 CM261 (gW.fr (S := 2475880189251224992055558144) W ⟨sz, hsz, I⟩ (gFr.c (gFr.c gFr.rf FM22 rfl) FM261 rfl) rfl) (by have q2 := ((gFr.at FM261 (rs_PERS (k := 1) (by omega)).2.2 rfl).trans ((gFr.at FM22 (rs_PERS (k := 1) (by omega)).2.2 rfl).trans hv1)); omega)) okX12_byBench kw_6_185 ⟨kw_6_187, kw_0_47⟩ ⟨rfl, rfl⟩ ⟨Nat.le_of_ble_eq_true rfl, Nat.le_of_ble_eq_true rfl⟩ rfl (by decide) (gsz hsz (by decide)) lay_190 rfl rfl (Nat.le_of_ble_eq_true rfl) ⟨Nat.le_of_ble_eq_true rfl, Nat.le_of_ble_eq_true rfl⟩ rfl rfl dX12_owed_108 rfl (fun v367 M368 P369 => ?_)
                          obtain ⟨rv367, IM368, CM368, FM368, xM368⟩ := P369
                          refine g_iload_n (n := 112) X 2 dX12_owed_111 rfl rfl rfl ?_
                          refine g_icmp_ne (n := 115) (tgt := 128) X dX12_owed_112 (by decide) (by omega) (by omega) rfl (fun c370 => ?_) (fun c370 => ?_)
                          · refine g_iconst (n := 129) X dX12_owed_128 rfl ?_
                            refine g_iadd (n := 130) (z := v259) X dX12_owed_129 (by omega) rfl ?_
                            refine g_istore (n := 132) (L' := [(5, gJ v259), (8, gJ v364), (0, gA n0 190), (1, gJ a), (3, gJ c), (4, gJ d), (6, gJ v21), (7, gJ v260)]) X dX12_owed_130 (by decide) rfl rfl ?_
                            refine g_iinc (n := 135) (w := v260 + 1) (L' := [(7, gJ (v260 + 1)), (5, gJ v259), (8, gJ v364), (0, gA n0 190), (1, gJ a), (3, gJ c), (4, gJ d), (6, gJ v21)]) X 7 dX12_owed_132 rfl rfl (by decide) rfl rfl ?_
                            refine g_goto (tgt := 57) X dX12_owed_135 (by decide) ?_
                            refine G.sub (L' := [(0, gA n0 190), (1, gJ a), (3, gJ c), (4, gJ d), (5, gJ v259), (6, gJ v21), (7, gJ (v260 + 1))]) [3, 4, 5, 6, 1, 7, 0] rfl ?_
                            exact ih360 v259 (v260 + 1) M368 (by omega) (by omega) IM368 CM368 (gFr.c (gFr.c gFr.rf FM261 rfl) FM368 rfl) (by omega)
                          · refine g_iload (n := 117) X 0 dX12_owed_115 rfl rfl ?_
                            refine g_aload_n (n := 118) X 1 dX12_owed_117 rfl rfl rfl ?_
                            refine gg_12_1 (n := 121) (z := 191) X (by decide) (gsz hsz (by decide)) lay_190 kw_6_27 dX12_owed_118 rfl (rf_190_1 IM368 (gsz hsz (by decide))) (by decide) ?_
                            refine g_bipush (n := 123) X dX12_owed_121 (by decide +kernel) rfl ?_
                            obtain ⟨v371, hv371, rv371⟩ := gRd IM368 (by decide) (gsz hsz (by decide)) (rs_PRICE (k := 9) (by omega)).1
                            refine g_iald2 (n := 124) (v := v371) X (by decide) (gsz hsz (by decide)) lay_191 (by omega) (by omega) (by decide) dX12_owed_123 rfl hv371 ?_
                            refine g_imulA (n := 125) X dX12_owed_124 rfl (fun v372 rv372 xv372 => ?_)
                            clear xv372
                            refine g_goto (tgt := 129) X dX12_owed_125 (by decide) ?_
                            refine g_iaddA (n := 130) X dX12_owed_129 rfl (fun v373 rv373 xv373 => ?_)
                            clear xv373
                            refine g_istore (n := 132) (L' := [(5, gJ v373), (8, gJ v364), (0, gA n0 190), (1, gJ a), (3, gJ c), (4, gJ d), (6, gJ v21), (7, gJ v260)]) X dX12_owed_130 (by decide) rfl rfl ?_
                            refine g_iinc (n := 135) (w := v260 + 1) (L' := [(7, gJ (v260 + 1)), (5, gJ v373), (8, gJ v364), (0, gA n0 190), (1, gJ a), (3, gJ c), (4, gJ d), (6, gJ v21)]) X 7 dX12_owed_132 rfl rfl (by decide) rfl rfl ?_
                            refine g_goto (tgt := 57) X dX12_owed_135 (by decide) ?_
                            refine G.sub (L' := [(0, gA n0 190), (1, gJ a), (3, gJ c), (4, gJ d), (5, gJ v373), (6, gJ v21), (7, gJ (v260 + 1))]) [3, 4, 5, 6, 1, 7, 0] rfl ?_
                            exact ih360 v373 (v260 + 1) M368 (by omega) (by omega) IM368 CM368 (gFr.c (gFr.c gFr.rf FM261 rfl) FM368 rfl) (by omega)
                  refine G.sub (L' := [(0, gA n0 190), (1, gJ a), (3, gJ c), (4, gJ d), (5, gJ v20), (6, gJ v21), (7, gJ 0)]) [1, 2, 3, 4, 5, 6, 0] rfl ?_
                  exact j262 _ v20 0 M22 (by omega) (by omega) IM22 CM22 gFr.rf (Nat.lt_succ_self _)
            refine G.sub (L' := [(0, gA n0 190), (1, gJ a), (3, gJ c), (4, gJ d), (5, gJ 0), (6, gJ b)]) [2, 3, 5, 6, 1, 0] rfl ?_
            exact j23 _ 0 b M (by omega) (by omega) I C gFr.rf (Nat.lt_succ_self _)
          · refine g_bipush (n := 41) X dX12_owed_39 (by decide +kernel) rfl ?_
            exact hq _ _ _ _ dX12_owed_41 ⟨by omega, I, C, gFr.rf⟩
        · refine g_iconst (n := 33) X dX12_owed_32 rfl ?_
          exact hq _ _ _ _ dX12_owed_33 ⟨by omega, I, C, gFr.rf⟩
theorem dX12_share_0 : decode cX12_share 0 = .ok (.iload_n 1, 1) := dc_27 (by decide +kernel)
theorem dX12_share_1 : decode cX12_share 1 = .ok (.invokestatic 68, 3) := dc_184 0 68 (by decide +kernel)
theorem dX12_share_4 : decode cX12_share 4 = .ok (.ifCond .eq 19, 3) := dc_153 0 19 19 (by decide +kernel)
theorem dX12_share_23 : decode cX12_share 23 = .ok (.iconst (-1), 1) := dc_2 (by decide +kernel)
theorem dX12_share_24 : decode cX12_share 24 = .ok (.ireturn, 1) := dc_172 (by decide +kernel)
theorem dX12_share_7 : decode cX12_share 7 = .ok (.aload_n 0, 1) := dc_42 (by decide +kernel)
theorem dX12_share_8 : decode cX12_share 8 = .ok (.iload_n 2, 1) := dc_28 (by decide +kernel)
theorem dX12_share_9 : decode cX12_share 9 = .ok (.invokevirtual 275, 3) := dc_182 1 19 (by decide +kernel)
theorem dX12_share_12 : decode cX12_share 12 = .ok (.ifCond .eq 11, 3) := dc_153 0 11 11 (by decide +kernel)
theorem dX12_share_15 : decode cX12_share 15 = .ok (.aload_n 0, 1) := dc_42 (by decide +kernel)
theorem dX12_share_16 : decode cX12_share 16 = .ok (.iload_n 3, 1) := dc_29 (by decide +kernel)
theorem dX12_share_17 : decode cX12_share 17 = .ok (.invokevirtual 113, 3) := dc_182 0 113 (by decide +kernel)
theorem dX12_share_20 : decode cX12_share 20 = .ok (.ifCond .ne 5, 3) := dc_154 0 5 5 (by decide +kernel)
theorem dX12_share_25 : decode cX12_share 25 = .ok (.aload_n 0, 1) := dc_42 (by decide +kernel)
theorem dX12_share_26 : decode cX12_share 26 = .ok (.iload_n 2, 1) := dc_28 (by decide +kernel)
theorem dX12_share_27 : decode cX12_share 27 = .ok (.iload_n 3, 1) := dc_29 (by decide +kernel)
theorem dX12_share_28 : decode cX12_share 28 = .ok (.invokevirtual 285, 3) := dc_182 1 29 (by decide +kernel)
theorem kw_7_186 : (Jvm.Cond.methodLink "ParishUnionModel" (285 : Nat) ({ cls := "ParishUnionModel", name := "parts", desc := "(II)V" } : Jvm.MethodName)) ∈ gT := gT_of (tb_7 _ (List.mem_of_getElem? (i := 186) rfl)) rfl
theorem kw_7_189 : (Jvm.Cond.code ({ cls := "ParishUnionModel", name := "parts", desc := "(II)V" } : Jvm.MethodName) prog_14_method_82_code (12 : Nat) (Option.none : Option Jvm.ClassFile.FieldType)) ∈ gT := gT_of (tb_7 _ (List.mem_of_getElem? (i := 189) rfl)) rfl
theorem okX12_parts : gQok yX12_parts cX12_parts 12 (Option.none : Option Jvm.ClassFile.FieldType) 2 := ⟨kw_7_189, kw_1_13, by decide +kernel, by decide +kernel, by decide +kernel⟩
theorem kw_7_188 : (Jvm.Cond.instanceMethod ({ cls := "ParishUnionModel", name := "parts", desc := "(II)V" } : Jvm.MethodName)) ∈ gT := gT_of (tb_7 _ (List.mem_of_getElem? (i := 188) rfl)) rfl
theorem kw_0_84 : (Jvm.Cond.selects "ParishUnionModel" ({ cls := "ParishUnionModel", name := "parts", desc := "(II)V" } : Jvm.MethodName) ({ cls := "ParishUnionModel", name := "parts", desc := "(II)V" } : Jvm.MethodName)) ∈ gT := gT_of (tb_0 _ (List.mem_of_getElem? (i := 84) rfl)) rfl
theorem dX12_share_31 : decode cX12_share 31 = .ok (.aload_n 0, 1) := dc_42 (by decide +kernel)
theorem dX12_share_32 : decode cX12_share 32 = .ok (.getfield 55, 3) := dc_180 0 55 (by decide +kernel)
theorem dX12_share_35 : decode cX12_share 35 = .ok (.iload_n 1, 1) := dc_27 (by decide +kernel)
theorem dX12_share_36 : decode cX12_share 36 = .ok (.iaload, 1) := dc_46 (by decide +kernel)
theorem dX12_share_37 : decode cX12_share 37 = .ok (.ireturn, 1) := dc_172 (by decide +kernel)
abbrev R_X12_share : Room := { frames := 75, cells := 0, slots := 0, locals := 3021 }
set_option maxRecDepth 100000 in
set_option maxHeartbeats 4000000 in
theorem s_X12_share {l : Launch} {n0 : Nat} {D : va_G} {cA : Nat → ClassId} {M : gM} (a : Int) (r_a : -2147483648 ≤ a ∧ a ≤ 2147483647) (b : Int) (r_b : -2147483648 ≤ b ∧ b ≤ 2147483647) (c : Int) (r_c : -2147483648 ≤ c ∧ c ≤ 2147483647) {sz : Nat} (hsz : 206 ≤ sz) (I : gI sz M) (C : gC sz M) (W : gW 191 M)  : Met l yX12_share (gWsOf yX12_share cX12_share 4 (Option.some Jvm.ClassFile.FieldType.int)) R_X12_share (gPc n0 D cA [gA n0 190, gJ a, gJ b, gJ c] M sz) (gQi n0 D cA sz (fun z M1 => (-2147483648 ≤ z ∧ z ≤ 2147483647) ∧ gI sz M1 ∧ gC sz M1 ∧ gFr 2475880189251224992055558144 M M1)) 0 0 (fun q => n0 ≤ q) := by
  refine gMetI [gA n0 190, gJ a, gJ b, gJ c] (by decide) (Nat.le_of_ble_eq_true rfl) ⟨rfl, rfl⟩ ?_
  intro p e s m args below meth cd Q X hq
  have X : gCx p s m args meth cd n0 D cA "ParishUnionModel" cX12_share 4 := X
  show G p l e R_X12_share s m args below meth cd n0 D cA 4 Q 0 0 M sz 0 [(0, gA n0 190), (1, gJ a), (2, gJ b), (3, gJ c)] []
  obtain ⟨v1, hv1, rv1⟩ := gRd I (by decide) (gsz hsz (by decide)) (rs_PERS (k := 1) (by omega)).1
  obtain ⟨v2, hv2, rv2⟩ := gRd I (by decide) (gsz hsz (by decide)) (rs_NOW (k := 0) (by omega)).1
  refine g_iload_n (n := 1) X 1 dX12_share_0 rfl rfl rfl ?_
  refine g_callSi (n := 4) (As := [gJ a]) (rest := []) (cs1 := 0) (ss1 := 0) X (s_X12_isParish a (by omega) hsz I C ) okX12_isParish kw_6_103 kw_6_104 ⟨rfl, rfl⟩ ⟨Nat.le_of_ble_eq_true rfl, Nat.le_of_ble_eq_true rfl⟩ rfl rfl (Nat.le_of_ble_eq_true rfl) ⟨Nat.le_of_ble_eq_true rfl, Nat.le_of_ble_eq_true rfl⟩ rfl rfl dX12_share_1 rfl (fun v3 M4 P5 => ?_)
  obtain ⟨rfl, rv3, xv3⟩ := P5
  refine g_if_eq (n := 7) (tgt := 23) X dX12_share_4 (by decide) (by omega) rfl (fun c6 => ?_) (fun c6 => ?_)
  · refine g_iconst (n := 24) X dX12_share_23 rfl ?_
    exact hq _ _ _ _ dX12_share_24 ⟨by omega, I, C, gFr.rf⟩
  · refine g_aload_n (n := 8) X 0 dX12_share_7 rfl rfl rfl ?_
    refine g_iload_n (n := 9) X 2 dX12_share_8 rfl rfl rfl ?_
    refine g_callVi (n := 12) (As := [gJ b]) (rest := []) (cs1 := 0) (ss1 := 0) X (s_X12_isGone b (by omega) hsz I C ) okX12_isGone kw_7_170 ⟨kw_7_172, kw_0_82⟩ ⟨rfl, rfl⟩ ⟨Nat.le_of_ble_eq_true rfl, Nat.le_of_ble_eq_true rfl⟩ rfl (by decide) (gsz hsz (by decide)) lay_190 rfl rfl (Nat.le_of_ble_eq_true rfl) ⟨Nat.le_of_ble_eq_true rfl, Nat.le_of_ble_eq_true rfl⟩ rfl rfl dX12_share_9 rfl (fun v7 M8 P9 => ?_)
    obtain ⟨rfl, rv7, xv7⟩ := P9
    refine g_if_eq (n := 15) (tgt := 23) X dX12_share_12 (by decide) (by omega) rfl (fun c10 => ?_) (fun c10 => ?_)
    · refine g_iconst (n := 24) X dX12_share_23 rfl ?_
      exact hq _ _ _ _ dX12_share_24 ⟨by omega, I, C, gFr.rf⟩
    · refine g_aload_n (n := 16) X 0 dX12_share_15 rfl rfl rfl ?_
      refine g_iload_n (n := 17) X 3 dX12_share_16 rfl rfl rfl ?_
      refine g_callVi (n := 20) (As := [gJ c]) (rest := []) (cs1 := 0) (ss1 := 0) X (s_X12_isBy c (by omega) hsz I C ) okX12_isBy kw_6_181 ⟨kw_6_183, kw_0_46⟩ ⟨rfl, rfl⟩ ⟨Nat.le_of_ble_eq_true rfl, Nat.le_of_ble_eq_true rfl⟩ rfl (by decide) (gsz hsz (by decide)) lay_190 rfl rfl (Nat.le_of_ble_eq_true rfl) ⟨Nat.le_of_ble_eq_true rfl, Nat.le_of_ble_eq_true rfl⟩ rfl rfl dX12_share_17 rfl (fun v11 M12 P13 => ?_)
      obtain ⟨rfl, rv11, xv11⟩ := P13
      refine g_if_ne (n := 23) (tgt := 25) X dX12_share_20 (by decide) (by omega) rfl (fun c14 => ?_) (fun c14 => ?_)
      · refine g_aload_n (n := 26) X 0 dX12_share_25 rfl rfl rfl ?_
        refine g_iload_n (n := 27) X 2 dX12_share_26 rfl rfl rfl ?_
        refine g_iload_n (n := 28) X 3 dX12_share_27 rfl rfl rfl ?_
        refine g_callVv (n := 31) (As := [gJ b, gJ c]) (rest := []) (cs1 := 0) (ss1 := 0) X (s_X12_parts b (by omega) c (by omega) hsz I C W (by have q1 := hv2; omega)) okX12_parts kw_7_186 ⟨kw_7_188, kw_0_84⟩ ⟨rfl, rfl⟩ ⟨Nat.le_of_ble_eq_true rfl, Nat.le_of_ble_eq_true rfl⟩ rfl (by decide) (gsz hsz (by decide)) lay_190 rfl rfl (Nat.le_of_ble_eq_true rfl) ⟨Nat.le_of_ble_eq_true rfl, Nat.le_of_ble_eq_true rfl⟩ rfl rfl dX12_share_28 rfl (fun M16 P17 => ?_)
        obtain ⟨IM16, CM16, FM16⟩ := P17
        refine g_aload_n (n := 32) X 0 dX12_share_31 rfl rfl rfl ?_
        refine gg_12_22 (n := 35) (z := 204) X (by decide) (gsz hsz (by decide)) lay_190 kw_6_48 dX12_share_32 rfl (rf_190_22 IM16 (gsz hsz (by decide))) (by decide) ?_
        refine g_iload_n (n := 36) X 1 dX12_share_35 rfl rfl rfl ?_
        obtain ⟨v18, hv18, rv18⟩ := gRd IM16 (by decide) (gsz hsz (by decide)) (ra_204 a).1
        refine g_iald2 (n := 37) (v := v18) X (by decide) (gsz hsz (by decide)) lay_204 (by omega) (by omega) (by decide) dX12_share_36 rfl hv18 ?_
        exact hq _ _ _ _ dX12_share_37 ⟨by omega, IM16, CM16, (gFr.c gFr.rf FM16 rfl)⟩
      · refine g_iconst (n := 24) X dX12_share_23 rfl ?_
        exact hq _ _ _ _ dX12_share_24 ⟨by omega, I, C, gFr.rf⟩
theorem dX12_sink_0 : decode cX12_sink 0 = .ok (.aload_n 0, 1) := dc_42 (by decide +kernel)
theorem dX12_sink_1 : decode cX12_sink 1 = .ok (.iload_n 1, 1) := dc_27 (by decide +kernel)
theorem dX12_sink_2 : decode cX12_sink 2 = .ok (.invokevirtual 275, 3) := dc_182 1 19 (by decide +kernel)
theorem dX12_sink_5 : decode cX12_sink 5 = .ok (.ifCond .eq 19, 3) := dc_153 0 19 19 (by decide +kernel)
theorem dX12_sink_24 : decode cX12_sink 24 = .ok (.iconst (-1), 1) := dc_2 (by decide +kernel)
theorem dX12_sink_25 : decode cX12_sink 25 = .ok (.ireturn, 1) := dc_172 (by decide +kernel)
theorem dX12_sink_8 : decode cX12_sink 8 = .ok (.aload_n 0, 1) := dc_42 (by decide +kernel)
theorem dX12_sink_9 : decode cX12_sink 9 = .ok (.iload_n 2, 1) := dc_28 (by decide +kernel)
theorem dX12_sink_10 : decode cX12_sink 10 = .ok (.invokevirtual 275, 3) := dc_182 1 19 (by decide +kernel)
theorem dX12_sink_13 : decode cX12_sink 13 = .ok (.ifCond .eq 11, 3) := dc_153 0 11 11 (by decide +kernel)
theorem dX12_sink_16 : decode cX12_sink 16 = .ok (.aload_n 0, 1) := dc_42 (by decide +kernel)
theorem dX12_sink_17 : decode cX12_sink 17 = .ok (.iload_n 3, 1) := dc_29 (by decide +kernel)
theorem dX12_sink_18 : decode cX12_sink 18 = .ok (.invokevirtual 113, 3) := dc_182 0 113 (by decide +kernel)
theorem dX12_sink_21 : decode cX12_sink 21 = .ok (.ifCond .ne 5, 3) := dc_154 0 5 5 (by decide +kernel)
theorem dX12_sink_26 : decode cX12_sink 26 = .ok (.iload_n 1, 1) := dc_27 (by decide +kernel)
theorem dX12_sink_27 : decode cX12_sink 27 = .ok (.iload_n 2, 1) := dc_28 (by decide +kernel)
theorem dX12_sink_28 : decode cX12_sink 28 = .ok (.if_icmp .le 6, 3) := dc_164 0 6 6 (by decide +kernel)
theorem dX12_sink_34 : decode cX12_sink 34 = .ok (.iconst 0, 1) := dc_3 (by decide +kernel)
theorem dX12_sink_35 : decode cX12_sink 35 = .ok (.istore 4, 2) := dc_54 4 (by decide +kernel)
theorem dX12_sink_37 : decode cX12_sink 37 = .ok (.iload 4, 2) := dc_21 4 (by decide +kernel)
theorem dX12_sink_39 : decode cX12_sink 39 = .ok (.bipush 6, 2) := dc_16 6 6 (by decide +kernel)
theorem dX12_sink_41 : decode cX12_sink 41 = .ok (.if_icmp .ge 17, 3) := dc_162 0 17 17 (by decide +kernel)
theorem dX12_sink_44 : decode cX12_sink 44 = .ok (.aload_n 0, 1) := dc_42 (by decide +kernel)
theorem dX12_sink_45 : decode cX12_sink 45 = .ok (.getfield 58, 3) := dc_180 0 58 (by decide +kernel)
theorem kw_6_49 : (Jvm.Cond.fieldLink "ParishUnionModel" (58 : Nat) "ParishUnionModel" "sums" "[J") ∈ gT := gT_of (tb_6 _ (List.mem_of_getElem? (i := 49) rfl)) rfl
theorem rf_190_23 {sz : Nat} {M : gM} (I : gI sz M) (h : (190 : Int) < (sz : Int)) : M 190 23 = 205 + 1 := gI.rf I (by decide) h (by decide +kernel)
theorem dX12_sink_48 : decode cX12_sink 48 = .ok (.iload 4, 2) := dc_21 4 (by decide +kernel)
theorem dX12_sink_50 : decode cX12_sink 50 = .ok (.lconst 0, 1) := dc_9 (by decide +kernel)
theorem dX12_sink_51 : decode cX12_sink 51 = .ok (.lastore, 1) := dc_80 (by decide +kernel)
theorem ra_205 (k : Int) : gRg 205 k = (-9223372036854775808, 9223372036854775807) ∧ gCr 205 k = false ∧ gG 205 k = 65 := ⟨rfl, rfl, rfl⟩
theorem dX12_sink_52 : decode cX12_sink 52 = .ok (.iinc 4 1, 3) := dc_132 4 1 1 (by decide +kernel)
theorem dX12_sink_55 : decode cX12_sink 55 = .ok (.goto (-18), 3) := dc_167 255 238 (-18) (by decide +kernel)
theorem dX12_sink_58 : decode cX12_sink 58 = .ok (.iload_n 1, 1) := dc_27 (by decide +kernel)
theorem dX12_sink_59 : decode cX12_sink 59 = .ok (.istore 4, 2) := dc_54 4 (by decide +kernel)
theorem dX12_sink_61 : decode cX12_sink 61 = .ok (.iload 4, 2) := dc_21 4 (by decide +kernel)
theorem dX12_sink_63 : decode cX12_sink 63 = .ok (.iload_n 2, 1) := dc_28 (by decide +kernel)
theorem dX12_sink_64 : decode cX12_sink 64 = .ok (.if_icmp .gt 50, 3) := dc_163 0 50 50 (by decide +kernel)
theorem dX12_sink_114 : decode cX12_sink 114 = .ok (.iconst 0, 1) := dc_3 (by decide +kernel)
theorem dX12_sink_115 : decode cX12_sink 115 = .ok (.istore 4, 2) := dc_54 4 (by decide +kernel)
theorem dX12_sink_117 : decode cX12_sink 117 = .ok (.iload 4, 2) := dc_21 4 (by decide +kernel)
theorem dX12_sink_119 : decode cX12_sink 119 = .ok (.bipush 6, 2) := dc_16 6 6 (by decide +kernel)
theorem dX12_sink_121 : decode cX12_sink 121 = .ok (.if_icmp .ge 34, 3) := dc_162 0 34 34 (by decide +kernel)
theorem dX12_sink_124 : decode cX12_sink 124 = .ok (.aload_n 0, 1) := dc_42 (by decide +kernel)
theorem dX12_sink_125 : decode cX12_sink 125 = .ok (.getfield 58, 3) := dc_180 0 58 (by decide +kernel)
theorem dX12_sink_128 : decode cX12_sink 128 = .ok (.iload 4, 2) := dc_21 4 (by decide +kernel)
theorem dX12_sink_130 : decode cX12_sink 130 = .ok (.laload, 1) := dc_47 (by decide +kernel)
theorem dX12_sink_131 : decode cX12_sink 131 = .ok (.aload_n 0, 1) := dc_42 (by decide +kernel)
theorem dX12_sink_132 : decode cX12_sink 132 = .ok (.getfield 7, 3) := dc_180 0 7 (by decide +kernel)
theorem dX12_sink_135 : decode cX12_sink 135 = .ok (.bipush 16, 2) := dc_16 16 16 (by decide +kernel)
theorem dX12_sink_137 : decode cX12_sink 137 = .ok (.iload 4, 2) := dc_21 4 (by decide +kernel)
theorem dX12_sink_139 : decode cX12_sink 139 = .ok (.iadd, 1) := dc_96 (by decide +kernel)
theorem dX12_sink_140 : decode cX12_sink 140 = .ok (.iaload, 1) := dc_46 (by decide +kernel)
theorem dX12_sink_141 : decode cX12_sink 141 = .ok (.i2l, 1) := dc_133 (by decide +kernel)
theorem dX12_sink_142 : decode cX12_sink 142 = .ok (.lcmp, 1) := dc_148 (by decide +kernel)
theorem dX12_sink_143 : decode cX12_sink 143 = .ok (.ifCond .le 6, 3) := dc_158 0 6 6 (by decide +kernel)
theorem dX12_sink_149 : decode cX12_sink 149 = .ok (.iinc 4 1, 3) := dc_132 4 1 1 (by decide +kernel)
theorem dX12_sink_152 : decode cX12_sink 152 = .ok (.goto (-35), 3) := dc_167 255 221 (-35) (by decide +kernel)
theorem dX12_sink_146 : decode cX12_sink 146 = .ok (.iload 4, 2) := dc_21 4 (by decide +kernel)
theorem dX12_sink_148 : decode cX12_sink 148 = .ok (.ireturn, 1) := dc_172 (by decide +kernel)
theorem dX12_sink_155 : decode cX12_sink 155 = .ok (.bipush (-5), 2) := dc_16 251 (-5) (by decide +kernel)
theorem dX12_sink_157 : decode cX12_sink 157 = .ok (.ireturn, 1) := dc_172 (by decide +kernel)
theorem dX12_sink_67 : decode cX12_sink 67 = .ok (.aload_n 0, 1) := dc_42 (by decide +kernel)
theorem dX12_sink_68 : decode cX12_sink 68 = .ok (.iload 4, 2) := dc_21 4 (by decide +kernel)
theorem dX12_sink_70 : decode cX12_sink 70 = .ok (.iload_n 3, 1) := dc_29 (by decide +kernel)
theorem dX12_sink_71 : decode cX12_sink 71 = .ok (.invokevirtual 285, 3) := dc_182 1 29 (by decide +kernel)
theorem dX12_sink_74 : decode cX12_sink 74 = .ok (.iconst 0, 1) := dc_3 (by decide +kernel)
theorem dX12_sink_75 : decode cX12_sink 75 = .ok (.istore 5, 2) := dc_54 5 (by decide +kernel)
theorem dX12_sink_77 : decode cX12_sink 77 = .ok (.iload 5, 2) := dc_21 5 (by decide +kernel)
theorem dX12_sink_79 : decode cX12_sink 79 = .ok (.bipush 6, 2) := dc_16 6 6 (by decide +kernel)
theorem dX12_sink_81 : decode cX12_sink 81 = .ok (.if_icmp .ge 27, 3) := dc_162 0 27 27 (by decide +kernel)
theorem dX12_sink_84 : decode cX12_sink 84 = .ok (.aload_n 0, 1) := dc_42 (by decide +kernel)
theorem dX12_sink_85 : decode cX12_sink 85 = .ok (.getfield 58, 3) := dc_180 0 58 (by decide +kernel)
theorem dX12_sink_88 : decode cX12_sink 88 = .ok (.iload 5, 2) := dc_21 5 (by decide +kernel)
theorem dX12_sink_90 : decode cX12_sink 90 = .ok (.dup2, 1) := dc_92 (by decide +kernel)
theorem dX12_sink_91 : decode cX12_sink 91 = .ok (.laload, 1) := dc_47 (by decide +kernel)
theorem dX12_sink_92 : decode cX12_sink 92 = .ok (.aload_n 0, 1) := dc_42 (by decide +kernel)
theorem dX12_sink_93 : decode cX12_sink 93 = .ok (.getfield 55, 3) := dc_180 0 55 (by decide +kernel)
theorem dX12_sink_96 : decode cX12_sink 96 = .ok (.iload 5, 2) := dc_21 5 (by decide +kernel)
theorem dX12_sink_98 : decode cX12_sink 98 = .ok (.iaload, 1) := dc_46 (by decide +kernel)
theorem dX12_sink_99 : decode cX12_sink 99 = .ok (.i2l, 1) := dc_133 (by decide +kernel)
theorem dX12_sink_100 : decode cX12_sink 100 = .ok (.ladd, 1) := dc_97 (by decide +kernel)
theorem dX12_sink_101 : decode cX12_sink 101 = .ok (.lastore, 1) := dc_80 (by decide +kernel)
theorem dX12_sink_102 : decode cX12_sink 102 = .ok (.iinc 5 1, 3) := dc_132 5 1 1 (by decide +kernel)
theorem dX12_sink_105 : decode cX12_sink 105 = .ok (.goto (-28), 3) := dc_167 255 228 (-28) (by decide +kernel)
theorem dX12_sink_108 : decode cX12_sink 108 = .ok (.iinc 4 1, 3) := dc_132 4 1 1 (by decide +kernel)
theorem dX12_sink_111 : decode cX12_sink 111 = .ok (.goto (-50), 3) := dc_167 255 206 (-50) (by decide +kernel)
theorem dX12_sink_31 : decode cX12_sink 31 = .ok (.bipush (-2), 2) := dc_16 254 (-2) (by decide +kernel)
theorem dX12_sink_33 : decode cX12_sink 33 = .ok (.ireturn, 1) := dc_172 (by decide +kernel)
abbrev R_X12_sink : Room := { frames := 75, cells := 0, slots := 0, locals := 3021 }
set_option maxRecDepth 100000 in
set_option maxHeartbeats 4000000 in
theorem s_X12_sink {l : Launch} {n0 : Nat} {D : va_G} {cA : Nat → ClassId} {M : gM} (a : Int) (r_a : -2147483648 ≤ a ∧ a ≤ 2147483647) (b : Int) (r_b : -2147483648 ≤ b ∧ b ≤ 2147483647) (c : Int) (r_c : -2147483648 ≤ c ∧ c ≤ 2147483647) {sz : Nat} (hsz : 206 ≤ sz) (I : gI sz M) (C : gC sz M) (W : gW 191 M)  : Met l yX12_sink (gWsOf yX12_sink cX12_sink 6 (Option.some Jvm.ClassFile.FieldType.int)) R_X12_sink (gPc n0 D cA [gA n0 190, gJ a, gJ b, gJ c] M sz) (gQi n0 D cA sz (fun z M1 => (-5 ≤ z ∧ z ≤ 5) ∧ gI sz M1 ∧ gC sz M1 ∧ gFr 2475880189251224992055558144 M M1)) 0 0 (fun q => n0 ≤ q) := by
  refine gMetI [gA n0 190, gJ a, gJ b, gJ c] (by decide) (Nat.le_of_ble_eq_true rfl) ⟨rfl, rfl⟩ ?_
  intro p e s m args below meth cd Q X hq
  have X : gCx p s m args meth cd n0 D cA "ParishUnionModel" cX12_sink 6 := X
  show G p l e R_X12_sink s m args below meth cd n0 D cA 6 Q 0 0 M sz 0 [(0, gA n0 190), (1, gJ a), (2, gJ b), (3, gJ c)] []
  obtain ⟨v1, hv1, rv1⟩ := gRd I (by decide) (gsz hsz (by decide)) (rs_PERS (k := 1) (by omega)).1
  obtain ⟨v2, hv2, rv2⟩ := gRd I (by decide) (gsz hsz (by decide)) (rs_NOW (k := 0) (by omega)).1
  refine g_aload_n (n := 1) X 0 dX12_sink_0 rfl rfl rfl ?_
  refine g_iload_n (n := 2) X 1 dX12_sink_1 rfl rfl rfl ?_
  refine g_callVi (n := 5) (As := [gJ a]) (rest := []) (cs1 := 0) (ss1 := 0) X (s_X12_isGone a (by omega) hsz I C ) okX12_isGone kw_7_170 ⟨kw_7_172, kw_0_82⟩ ⟨rfl, rfl⟩ ⟨Nat.le_of_ble_eq_true rfl, Nat.le_of_ble_eq_true rfl⟩ rfl (by decide) (gsz hsz (by decide)) lay_190 rfl rfl (Nat.le_of_ble_eq_true rfl) ⟨Nat.le_of_ble_eq_true rfl, Nat.le_of_ble_eq_true rfl⟩ rfl rfl dX12_sink_2 rfl (fun v3 M4 P5 => ?_)
  obtain ⟨rfl, rv3, xv3⟩ := P5
  refine g_if_eq (n := 8) (tgt := 24) X dX12_sink_5 (by decide) (by omega) rfl (fun c6 => ?_) (fun c6 => ?_)
  · refine g_iconst (n := 25) X dX12_sink_24 rfl ?_
    exact hq _ _ _ _ dX12_sink_25 ⟨by omega, I, C, gFr.rf⟩
  · refine g_aload_n (n := 9) X 0 dX12_sink_8 rfl rfl rfl ?_
    refine g_iload_n (n := 10) X 2 dX12_sink_9 rfl rfl rfl ?_
    refine g_callVi (n := 13) (As := [gJ b]) (rest := []) (cs1 := 0) (ss1 := 0) X (s_X12_isGone b (by omega) hsz I C ) okX12_isGone kw_7_170 ⟨kw_7_172, kw_0_82⟩ ⟨rfl, rfl⟩ ⟨Nat.le_of_ble_eq_true rfl, Nat.le_of_ble_eq_true rfl⟩ rfl (by decide) (gsz hsz (by decide)) lay_190 rfl rfl (Nat.le_of_ble_eq_true rfl) ⟨Nat.le_of_ble_eq_true rfl, Nat.le_of_ble_eq_true rfl⟩ rfl rfl dX12_sink_10 rfl (fun v7 M8 P9 => ?_)
    obtain ⟨rfl, rv7, xv7⟩ := P9
    refine g_if_eq (n := 16) (tgt := 24) X dX12_sink_13 (by decide) (by omega) rfl (fun c10 => ?_) (fun c10 => ?_)
    · refine g_iconst (n := 25) X dX12_sink_24 rfl ?_
      exact hq _ _ _ _ dX12_sink_25 ⟨by omega, I, C, gFr.rf⟩
    · refine g_aload_n (n := 17) X 0 dX12_sink_16 rfl rfl rfl ?_
      refine g_iload_n (n := 18) X 3 dX12_sink_17 rfl rfl rfl ?_
      refine g_callVi (n := 21) (As := [gJ c]) (rest := []) (cs1 := 0) (ss1 := 0) X (s_X12_isBy c (by omega) hsz I C ) okX12_isBy kw_6_181 ⟨kw_6_183, kw_0_46⟩ ⟨rfl, rfl⟩ ⟨Nat.le_of_ble_eq_true rfl, Nat.le_of_ble_eq_true rfl⟩ rfl (by decide) (gsz hsz (by decide)) lay_190 rfl rfl (Nat.le_of_ble_eq_true rfl) ⟨Nat.le_of_ble_eq_true rfl, Nat.le_of_ble_eq_true rfl⟩ rfl rfl dX12_sink_18 rfl (fun v11 M12 P13 => ?_)
      obtain ⟨rfl, rv11, xv11⟩ := P13
      refine g_if_ne (n := 24) (tgt := 26) X dX12_sink_21 (by decide) (by omega) rfl (fun c14 => ?_) (fun c14 => ?_)
      · refine g_iload_n (n := 27) X 1 dX12_sink_26 rfl rfl rfl ?_
        refine g_iload_n (n := 28) X 2 dX12_sink_27 rfl rfl rfl ?_
        refine g_icmp_le (n := 31) (tgt := 34) X dX12_sink_28 (by decide) (by omega) (by omega) rfl (fun c15 => ?_) (fun c15 => ?_)
        · refine g_iconst (n := 35) X dX12_sink_34 rfl ?_
          refine g_istore (n := 37) (L' := [(4, gJ 0), (0, gA n0 190), (1, gJ a), (2, gJ b), (3, gJ c)]) X dX12_sink_35 (by decide) rfl rfl ?_
          have j18 : ∀ (N288 : Nat) (v16 : Int) (M17 : gM) , (0 ≤ v16 ∧ v16 ≤ 6) → gI sz M17 → gC sz M17 → gFr 36893488147419103232 M M17 → (6 - v16).toNat < N288 → G p l e R_X12_sink s m args below meth cd n0 D cA 6 Q 0 0 M17 sz 37 [(0, gA n0 190), (1, gJ a), (2, gJ b), (3, gJ c), (4, gJ v16)] [] := by
            intro N288; induction N288 with
            | zero => intro v16 M17 rv16 IM17 CM17 FM17 hm290; exfalso; omega
            | succ N288 ih289 =>
              intro v16 M17 rv16 IM17 CM17 FM17 hm290
              refine g_iload (n := 39) X 4 dX12_sink_37 rfl rfl ?_
              refine g_bipush (n := 41) X dX12_sink_39 (by decide +kernel) rfl ?_
              refine g_icmp_ge (n := 44) (tgt := 58) X dX12_sink_41 (by decide) (by omega) (by omega) rfl (fun c291 => ?_) (fun c291 => ?_)
              · refine g_iload_n (n := 59) X 1 dX12_sink_58 rfl rfl rfl ?_
                refine g_istore (n := 61) (L' := [(4, gJ a), (0, gA n0 190), (1, gJ a), (2, gJ b), (3, gJ c)]) X dX12_sink_59 (by decide) rfl rfl ?_
                have j296 : ∀ (N461 : Nat) (v294 : Int) (M295 : gM) , (0 ≤ v294 ∧ v294 ≤ 300) → gI sz M295 → gC sz M295 → gFr 2475880189251224992055558144 M17 M295 → (300 - v294).toNat < N461 → G p l e R_X12_sink s m args below meth cd n0 D cA 6 Q 0 0 M295 sz 61 [(0, gA n0 190), (2, gJ b), (3, gJ c), (4, gJ v294)] [] := by
                  intro N461; induction N461 with
                  | zero => intro v294 M295 rv294 IM295 CM295 FM295 hm463; exfalso; omega
                  | succ N461 ih462 =>
                    intro v294 M295 rv294 IM295 CM295 FM295 hm463
                    refine g_iload (n := 63) X 3 dX12_sink_61 rfl rfl ?_
                    refine g_iload_n (n := 64) X 1 dX12_sink_63 rfl rfl rfl ?_
                    refine g_icmp_gt (n := 67) (tgt := 114) X dX12_sink_64 (by decide) (by omega) (by omega) rfl (fun c464 => ?_) (fun c464 => ?_)
                    · refine g_iconst (n := 115) X dX12_sink_114 rfl ?_
                      refine g_istore (n := 117) (L' := [(4, gJ 0), (0, gA n0 190), (2, gJ b), (3, gJ c)]) X dX12_sink_115 (by decide) rfl rfl ?_
                      have j467 : ∀ (N493 : Nat) (v465 : Int) , (0 ≤ v465 ∧ v465 ≤ 6) → (6 - v465).toNat < N493 → G p l e R_X12_sink s m args below meth cd n0 D cA 6 Q 0 0 M295 sz 117 [(0, gA n0 190), (4, gJ v465)] [] := by
                        intro N493; induction N493 with
                        | zero => intro v465 rv465 hm495; exfalso; omega
                        | succ N493 ih494 =>
                          intro v465 rv465 hm495
                          refine g_iload (n := 119) X 1 dX12_sink_117 rfl rfl ?_
                          refine g_bipush (n := 121) X dX12_sink_119 (by decide +kernel) rfl ?_
                          refine g_icmp_ge (n := 124) (tgt := 155) X dX12_sink_121 (by decide) (by omega) (by omega) rfl (fun c496 => ?_) (fun c496 => ?_)
                          · refine g_bipush (n := 157) X dX12_sink_155 (by decide +kernel) rfl ?_
                            exact hq _ _ _ _ dX12_sink_157 ⟨by omega, IM295, CM295, (gFr.c (gFr.c gFr.rf FM17 rfl) FM295 rfl)⟩
                          · refine g_aload_n (n := 125) X 0 dX12_sink_124 rfl rfl rfl ?_
                            refine gg_12_23 (n := 128) (z := 205) X (by decide) (gsz hsz (by decide)) lay_190 kw_6_49 dX12_sink_125 rfl (rf_190_23 IM295 (gsz hsz (by decide))) (by decide) ?_
                            refine g_iload (n := 130) X 1 dX12_sink_128 rfl rfl ?_
                            obtain ⟨v497, hv497, rv497⟩ := gRd IM295 (by decide) (gsz hsz (by decide)) (ra_205 v465).1
                            refine g_lald2 (n := 131) (v := v497) X (by decide) (gsz hsz (by decide)) lay_205 (by omega) (by omega) (by decide) dX12_sink_130 rfl hv497 ?_
                            refine g_aload_n (n := 132) X 0 dX12_sink_131 rfl rfl rfl ?_
                            refine gg_12_1 (n := 135) (z := 191) X (by decide) (gsz hsz (by decide)) lay_190 kw_6_27 dX12_sink_132 rfl (rf_190_1 IM295 (gsz hsz (by decide))) (by decide) ?_
                            refine g_bipush (n := 137) X dX12_sink_135 (by decide +kernel) rfl ?_
                            refine g_iload (n := 139) X 1 dX12_sink_137 rfl rfl ?_
                            refine g_iadd (n := 140) (z := v465 + 16) X dX12_sink_139 (by omega) rfl ?_
                            obtain ⟨v498, hv498, rv498⟩ := gRd IM295 (by decide) (gsz hsz (by decide)) (rs_RENT (k := v465 + 16) (by omega)).1
                            refine g_iald2 (n := 141) (v := v498) X (by decide) (gsz hsz (by decide)) lay_191 (by omega) (by omega) (by decide) dX12_sink_140 rfl hv498 ?_
                            refine g_i2lE (n := 142) (z := v498) X dX12_sink_141 (g_i2l (by omega)) rfl ?_
                            refine g_lcmp2 (n := 143) X dX12_sink_142 (by omega) (by omega) rfl (fun v499 xv499 rv499 => ?_)
                            refine g_if_le (n := 146) (tgt := 149) X dX12_sink_143 (by decide) (by omega) rfl (fun c500 => ?_) (fun c500 => ?_)
                            · refine g_iinc (n := 152) (w := v465 + 1) (L' := [(4, gJ (v465 + 1)), (0, gA n0 190)]) X 1 dX12_sink_149 rfl rfl (by decide) rfl rfl ?_
                              refine g_goto (tgt := 117) X dX12_sink_152 (by decide) ?_
                              refine G.sub (L' := [(0, gA n0 190), (4, gJ (v465 + 1))]) [1, 0] rfl ?_
                              exact ih494 (v465 + 1) (by omega) (by omega)
                            · refine g_iload (n := 148) X 1 dX12_sink_146 rfl rfl ?_
                              exact hq _ _ _ _ dX12_sink_148 ⟨by omega, IM295, CM295, (gFr.c (gFr.c gFr.rf FM17 rfl) FM295 rfl)⟩
                      refine G.sub (L' := [(0, gA n0 190), (4, gJ 0)]) [1, 0] rfl ?_
                      exact j467 _ 0 (by omega) (Nat.lt_succ_self _)
                    · refine g_aload_n (n := 68) X 0 dX12_sink_67 rfl rfl rfl ?_
                      refine g_iload (n := 70) X 3 dX12_sink_68 rfl rfl ?_
                      refine g_iload_n (n := 71) X 2 dX12_sink_70 rfl rfl rfl ?_
                      refine g_callVv (n := 74) (As := [gJ v294, gJ c]) (rest := []) (cs1 := 0) (ss1 := 0) X (s_X12_parts v294 (by omega) c (by omega) hsz IM295 CM295 (gW.fr (S := 2475880189251224992055558144) W ⟨sz, hsz, I⟩ (gFr.c (gFr.c gFr.rf FM17 rfl) FM295 rfl) rfl) (by have q1 := ((gFr.at FM295 (rs_NOW (k := 0) (by omega)).2.2 rfl).trans ((gFr.at FM17 (rs_NOW (k := 0) (by omega)).2.2 rfl).trans hv2)); omega)) okX12_parts kw_7_186 ⟨kw_7_188, kw_0_84⟩ ⟨rfl, rfl⟩ ⟨Nat.le_of_ble_eq_true rfl, Nat.le_of_ble_eq_true rfl⟩ rfl (by decide) (gsz hsz (by decide)) lay_190 rfl rfl (Nat.le_of_ble_eq_true rfl) ⟨Nat.le_of_ble_eq_true rfl, Nat.le_of_ble_eq_true rfl⟩ rfl rfl dX12_sink_71 rfl (fun M502 P503 => ?_)
                      obtain ⟨IM502, CM502, FM502⟩ := P503
                      refine g_iconst (n := 75) X dX12_sink_74 rfl ?_
                      refine g_istore (n := 77) (L' := [(5, gJ 0), (0, gA n0 190), (2, gJ b), (3, gJ c), (4, gJ v294)]) X dX12_sink_75 (by decide) rfl rfl ?_
                      have j506 : ∀ (N537 : Nat) (v504 : Int) (M505 : gM) , (0 ≤ v504 ∧ v504 ≤ 6) → gI sz M505 → gC sz M505 → gFr 36893488147419103232 M502 M505 → (6 - v504).toNat < N537 → G p l e R_X12_sink s m args below meth cd n0 D cA 6 Q 0 0 M505 sz 77 [(0, gA n0 190), (2, gJ b), (3, gJ c), (4, gJ v294), (5, gJ v504)] [] := by
                        intro N537; induction N537 with
                        | zero => intro v504 M505 rv504 IM505 CM505 FM505 hm539; exfalso; omega
                        | succ N537 ih538 =>
                          intro v504 M505 rv504 IM505 CM505 FM505 hm539
                          refine g_iload (n := 79) X 4 dX12_sink_77 rfl rfl ?_
                          refine g_bipush (n := 81) X dX12_sink_79 (by decide +kernel) rfl ?_
                          refine g_icmp_ge (n := 84) (tgt := 108) X dX12_sink_81 (by decide) (by omega) (by omega) rfl (fun c540 => ?_) (fun c540 => ?_)
                          · refine g_iinc (n := 111) (w := v294 + 1) (L' := [(4, gJ (v294 + 1)), (0, gA n0 190), (2, gJ b), (3, gJ c), (5, gJ v504)]) X 3 dX12_sink_108 rfl rfl (by decide) rfl rfl ?_
                            refine g_goto (tgt := 61) X dX12_sink_111 (by decide) ?_
                            refine G.sub (L' := [(0, gA n0 190), (2, gJ b), (3, gJ c), (4, gJ (v294 + 1))]) [1, 2, 3, 0] rfl ?_
                            exact ih462 (v294 + 1) M505 (by omega) IM505 CM505 (gFr.c (gFr.c (gFr.c gFr.rf FM295 rfl) FM502 rfl) FM505 rfl) (by omega)
                          · refine g_aload_n (n := 85) X 0 dX12_sink_84 rfl rfl rfl ?_
                            refine gg_12_23 (n := 88) (z := 205) X (by decide) (gsz hsz (by decide)) lay_190 kw_6_49 dX12_sink_85 rfl (rf_190_23 IM505 (gsz hsz (by decide))) (by decide) ?_
                            refine g_iload (n := 90) X 4 dX12_sink_88 rfl rfl ?_
                            refine g_dup2 (n := 91) X dX12_sink_90 rfl rfl rfl ?_
                            obtain ⟨v541, hv541, rv541⟩ := gRd IM505 (by decide) (gsz hsz (by decide)) (ra_205 v504).1
                            refine g_lald2 (n := 92) (v := v541) X (by decide) (gsz hsz (by decide)) lay_205 (by omega) (by omega) (by decide) dX12_sink_91 rfl hv541 ?_
                            refine g_aload_n (n := 93) X 0 dX12_sink_92 rfl rfl rfl ?_
                            refine gg_12_22 (n := 96) (z := 204) X (by decide) (gsz hsz (by decide)) lay_190 kw_6_48 dX12_sink_93 rfl (rf_190_22 IM505 (gsz hsz (by decide))) (by decide) ?_
                            refine g_iload (n := 98) X 4 dX12_sink_96 rfl rfl ?_
                            obtain ⟨v542, hv542, rv542⟩ := gRd IM505 (by decide) (gsz hsz (by decide)) (ra_204 v504).1
                            refine g_iald2 (n := 99) (v := v542) X (by decide) (gsz hsz (by decide)) lay_204 (by omega) (by omega) (by decide) dX12_sink_98 rfl hv542 ?_
                            refine g_i2lE (n := 100) (z := v542) X dX12_sink_99 (g_i2l (by omega)) rfl ?_
                            refine g_laddA (n := 101) X dX12_sink_100 rfl (fun v543 rv543 xv543 => ?_)
                            clear xv543
                            refine g_last (n := 102) X (by decide) (gsz hsz (by decide)) lay_205 (by omega) (by omega) (by decide) dX12_sink_101 rfl ?_
                            refine G.nm (fun M544 e545 => ?_)
                            have IM544 : gI sz M544 := gI.set IM505 (ra_205 v504).1 (by omega) e545
                            have CM544 : gC sz M544 := gC.set CM505 (ra_205 v504).2.1 e545
                            refine g_iinc (n := 105) (w := v504 + 1) (L' := [(5, gJ (v504 + 1)), (0, gA n0 190), (2, gJ b), (3, gJ c), (4, gJ v294)]) X 4 dX12_sink_102 rfl rfl (by decide) rfl rfl ?_
                            refine g_goto (tgt := 77) X dX12_sink_105 (by decide) ?_
                            refine G.sub (L' := [(0, gA n0 190), (2, gJ b), (3, gJ c), (4, gJ v294), (5, gJ (v504 + 1))]) [1, 2, 3, 4, 0] rfl ?_
                            exact ih538 (v504 + 1) M544 (by omega) IM544 CM544 (gFr.s (gFr.c gFr.rf FM505 rfl) e545 (ra_205 v504).2.2 rfl) (by omega)
                      refine G.sub (L' := [(0, gA n0 190), (2, gJ b), (3, gJ c), (4, gJ v294), (5, gJ 0)]) [1, 2, 3, 4, 0] rfl ?_
                      exact j506 _ 0 M502 (by omega) IM502 CM502 gFr.rf (Nat.lt_succ_self _)
                refine G.sub (L' := [(0, gA n0 190), (2, gJ b), (3, gJ c), (4, gJ a)]) [1, 3, 4, 0] rfl ?_
                exact j296 _ a M17 (by omega) IM17 CM17 gFr.rf (Nat.lt_succ_self _)
              · refine g_aload_n (n := 45) X 0 dX12_sink_44 rfl rfl rfl ?_
                refine gg_12_23 (n := 48) (z := 205) X (by decide) (gsz hsz (by decide)) lay_190 kw_6_49 dX12_sink_45 rfl (rf_190_23 IM17 (gsz hsz (by decide))) (by decide) ?_
                refine g_iload (n := 50) X 4 dX12_sink_48 rfl rfl ?_
                refine g_lconst (n := 51) (z := 0) X dX12_sink_50 (by decide +kernel) rfl ?_
                refine g_last (n := 52) X (by decide) (gsz hsz (by decide)) lay_205 (by omega) (by omega) (by decide) dX12_sink_51 rfl ?_
                refine G.nm (fun M546 e547 => ?_)
                have IM546 : gI sz M546 := gI.set IM17 (ra_205 v16).1 (by omega) e547
                have CM546 : gC sz M546 := gC.set CM17 (ra_205 v16).2.1 e547
                refine g_iinc (n := 55) (w := v16 + 1) (L' := [(4, gJ (v16 + 1)), (0, gA n0 190), (1, gJ a), (2, gJ b), (3, gJ c)]) X 4 dX12_sink_52 rfl rfl (by decide) rfl rfl ?_
                refine g_goto (tgt := 37) X dX12_sink_55 (by decide) ?_
                refine G.sub (L' := [(0, gA n0 190), (1, gJ a), (2, gJ b), (3, gJ c), (4, gJ (v16 + 1))]) [1, 2, 3, 4, 0] rfl ?_
                exact ih289 (v16 + 1) M546 (by omega) IM546 CM546 (gFr.s (gFr.c gFr.rf FM17 rfl) e547 (ra_205 v16).2.2 rfl) (by omega)
          refine G.sub (L' := [(0, gA n0 190), (1, gJ a), (2, gJ b), (3, gJ c), (4, gJ 0)]) [1, 2, 3, 4, 0] rfl ?_
          exact j18 _ 0 M (by omega) I C gFr.rf (Nat.lt_succ_self _)
        · refine g_bipush (n := 33) X dX12_sink_31 (by decide +kernel) rfl ?_
          exact hq _ _ _ _ dX12_sink_33 ⟨by omega, I, C, gFr.rf⟩
      · refine g_iconst (n := 25) X dX12_sink_24 rfl ?_
        exact hq _ _ _ _ dX12_sink_25 ⟨by omega, I, C, gFr.rf⟩
