theorem dX3_distance_0 : decode cX3_distance 0 = .ok (.aload_n 0, 1) := dc_42 (by decide +kernel)
theorem dX3_distance_1 : decode cX3_distance 1 = .ok (.getfield 15, 3) := dc_180 0 15 (by decide +kernel)
theorem kw_1_43 : (Jvm.Cond.fieldLink "ParishUnion$Land" (15 : Nat) "ParishUnion$Land" "way" "[I") ∈ gT := gT_of (tb_1 _ (List.mem_of_getElem? (i := 43) rfl)) rfl
theorem rf_2_1 {sz : Nat} {M : gM} (I : gI sz M) (h : (2 : Int) < (sz : Int)) : M 2 1 = 4 + 1 := gI.rf I (by decide) h (by decide +kernel)
theorem dX3_distance_4 : decode cX3_distance 4 = .ok (.iload_n 1, 1) := dc_27 (by decide +kernel)
theorem dX3_distance_5 : decode cX3_distance 5 = .ok (.bipush 6, 2) := dc_16 6 6 (by decide +kernel)
theorem dX3_distance_7 : decode cX3_distance 7 = .ok (.imul, 1) := dc_104 (by decide +kernel)
theorem dX3_distance_8 : decode cX3_distance 8 = .ok (.iload_n 2, 1) := dc_28 (by decide +kernel)
theorem dX3_distance_9 : decode cX3_distance 9 = .ok (.iadd, 1) := dc_96 (by decide +kernel)
theorem dX3_distance_10 : decode cX3_distance 10 = .ok (.iaload, 1) := dc_46 (by decide +kernel)
theorem ra_4 (k : Int) : gRg 4 k = (0, 99) ∧ gCr 4 k = false ∧ gG 4 k = 2 := ⟨rfl, rfl, rfl⟩
theorem dX3_distance_11 : decode cX3_distance 11 = .ok (.ireturn, 1) := dc_172 (by decide +kernel)
abbrev R_X3_distance : Room := { frames := 0, cells := 0, slots := 0, locals := 0 }
set_option maxRecDepth 100000 in
set_option maxHeartbeats 4000000 in
theorem s_X3_distance {l : Launch} {n0 : Nat} {D : va_G} {cA : Nat → ClassId} {M : gM} (a : Int) (r_a : 0 ≤ a ∧ a ≤ 5) (b : Int) (r_b : 0 ≤ b ∧ b ≤ 5) {sz : Nat} (hsz : 206 ≤ sz) (I : gI sz M) (C : gC sz M)   : Met l yX3_distance (gWsOf yX3_distance cX3_distance 3 (Option.some Jvm.ClassFile.FieldType.int)) R_X3_distance (gPc n0 D cA [gA n0 2, gJ a, gJ b] M sz) (gQi n0 D cA sz (fun z M1 => M = M1 ∧ (0 ≤ z ∧ z ≤ 99) ∧ (z = M 4 (a * 6 + b)))) 0 0 (fun q => n0 ≤ q) := by
  refine gMetI [gA n0 2, gJ a, gJ b] (by decide) (Nat.le_of_ble_eq_true rfl) ⟨rfl, rfl⟩ ?_
  intro p e s m args below meth cd Q X hq
  have X : gCx p s m args meth cd n0 D cA "ParishUnion$Land" cX3_distance 3 := X
  show G p l e R_X3_distance s m args below meth cd n0 D cA 3 Q 0 0 M sz 0 [(0, gA n0 2), (1, gJ a), (2, gJ b)] []
  refine g_aload_n (n := 1) X 0 dX3_distance_0 rfl rfl rfl ?_
  refine gg_3_1 (n := 4) (z := 4) X (by decide) (gsz hsz (by decide)) lay_2 kw_1_43 dX3_distance_1 rfl (rf_2_1 I (gsz hsz (by decide))) (by decide) ?_
  refine g_iload_n (n := 5) X 1 dX3_distance_4 rfl rfl rfl ?_
  refine g_bipush (n := 7) X dX3_distance_5 (by decide +kernel) rfl ?_
  refine g_imul (n := 8) (z := a * 6) X dX3_distance_7 rfl rfl ?_
  refine g_iload_n (n := 9) X 2 dX3_distance_8 rfl rfl rfl ?_
  refine g_iadd (n := 10) (z := (a * 6) + b) X dX3_distance_9 rfl rfl ?_
  obtain ⟨v1, hv1, rv1⟩ := gRd I (by decide) (gsz hsz (by decide)) (ra_4 ((a * 6) + b)).1
  refine g_iald2 (n := 11) (v := v1) X (by decide) (gsz hsz (by decide)) lay_4 (by omega) (by omega) (by decide) dX3_distance_10 rfl hv1 ?_
  exact hq _ _ _ _ dX3_distance_11 ⟨rfl, by omega, by omega⟩
theorem dX3_layRoad_0 : decode cX3_layRoad 0 = .ok (.iconst 0, 1) := dc_3 (by decide +kernel)
theorem dX3_layRoad_1 : decode cX3_layRoad 1 = .ok (.istore 4, 2) := dc_54 4 (by decide +kernel)
theorem dX3_layRoad_3 : decode cX3_layRoad 3 = .ok (.iconst 0, 1) := dc_3 (by decide +kernel)
theorem dX3_layRoad_4 : decode cX3_layRoad 4 = .ok (.istore 5, 2) := dc_54 5 (by decide +kernel)
theorem dX3_layRoad_6 : decode cX3_layRoad 6 = .ok (.iload 5, 2) := dc_21 5 (by decide +kernel)
theorem dX3_layRoad_8 : decode cX3_layRoad 8 = .ok (.bipush 6, 2) := dc_16 6 6 (by decide +kernel)
theorem dX3_layRoad_10 : decode cX3_layRoad 10 = .ok (.if_icmp .ge 95, 3) := dc_162 0 95 95 (by decide +kernel)
theorem dX3_layRoad_13 : decode cX3_layRoad 13 = .ok (.iconst 0, 1) := dc_3 (by decide +kernel)
theorem dX3_layRoad_14 : decode cX3_layRoad 14 = .ok (.istore 6, 2) := dc_54 6 (by decide +kernel)
theorem dX3_layRoad_16 : decode cX3_layRoad 16 = .ok (.iload 6, 2) := dc_21 6 (by decide +kernel)
theorem dX3_layRoad_18 : decode cX3_layRoad 18 = .ok (.bipush 6, 2) := dc_16 6 6 (by decide +kernel)
theorem dX3_layRoad_20 : decode cX3_layRoad 20 = .ok (.if_icmp .ge 79, 3) := dc_162 0 79 79 (by decide +kernel)
theorem dX3_layRoad_23 : decode cX3_layRoad 23 = .ok (.aload_n 0, 1) := dc_42 (by decide +kernel)
theorem dX3_layRoad_24 : decode cX3_layRoad 24 = .ok (.iload 5, 2) := dc_21 5 (by decide +kernel)
theorem dX3_layRoad_26 : decode cX3_layRoad 26 = .ok (.iload_n 1, 1) := dc_27 (by decide +kernel)
theorem dX3_layRoad_27 : decode cX3_layRoad 27 = .ok (.invokevirtual 24, 3) := dc_182 0 24 (by decide +kernel)
theorem kw_3_40 : (Jvm.Cond.methodLink "ParishUnion$Land" (24 : Nat) ({ cls := "ParishUnion$Land", name := "distance", desc := "(II)I" } : Jvm.MethodName)) ∈ gT := gT_of (tb_3 _ (List.mem_of_getElem? (i := 40) rfl)) rfl
theorem kw_3_43 : (Jvm.Cond.code ({ cls := "ParishUnion$Land", name := "distance", desc := "(II)I" } : Jvm.MethodName) prog_5_method_3_code (3 : Nat) (Option.some Jvm.ClassFile.FieldType.int)) ∈ gT := gT_of (tb_3 _ (List.mem_of_getElem? (i := 43) rfl)) rfl
theorem kw_1_3 : (Jvm.Cond.initialized "ParishUnion$Land") ∈ gT := gT_of (tb_1 _ (List.mem_of_getElem? (i := 3) rfl)) rfl
theorem okX3_distance : gQok yX3_distance cX3_distance 3 (Option.some Jvm.ClassFile.FieldType.int) 2 := ⟨kw_3_43, kw_1_3, by decide +kernel, by decide +kernel, by decide +kernel⟩
theorem kw_3_41 : (Jvm.Cond.instanceMethod ({ cls := "ParishUnion$Land", name := "distance", desc := "(II)I" } : Jvm.MethodName)) ∈ gT := gT_of (tb_3 _ (List.mem_of_getElem? (i := 41) rfl)) rfl
theorem kw_3_42 : (Jvm.Cond.selects "ParishUnion$Land" ({ cls := "ParishUnion$Land", name := "distance", desc := "(II)I" } : Jvm.MethodName) ({ cls := "ParishUnion$Land", name := "distance", desc := "(II)I" } : Jvm.MethodName)) ∈ gT := gT_of (tb_3 _ (List.mem_of_getElem? (i := 42) rfl)) rfl
theorem dX3_layRoad_30 : decode cX3_layRoad 30 = .ok (.iload_n 3, 1) := dc_29 (by decide +kernel)
theorem dX3_layRoad_31 : decode cX3_layRoad 31 = .ok (.iadd, 1) := dc_96 (by decide +kernel)
theorem dX3_layRoad_32 : decode cX3_layRoad 32 = .ok (.aload_n 0, 1) := dc_42 (by decide +kernel)
theorem dX3_layRoad_33 : decode cX3_layRoad 33 = .ok (.iload_n 2, 1) := dc_28 (by decide +kernel)
theorem dX3_layRoad_34 : decode cX3_layRoad 34 = .ok (.iload 6, 2) := dc_21 6 (by decide +kernel)
theorem dX3_layRoad_36 : decode cX3_layRoad 36 = .ok (.invokevirtual 24, 3) := dc_182 0 24 (by decide +kernel)
theorem dX3_layRoad_39 : decode cX3_layRoad 39 = .ok (.iadd, 1) := dc_96 (by decide +kernel)
theorem dX3_layRoad_40 : decode cX3_layRoad 40 = .ok (.aload_n 0, 1) := dc_42 (by decide +kernel)
theorem dX3_layRoad_41 : decode cX3_layRoad 41 = .ok (.iload 5, 2) := dc_21 5 (by decide +kernel)
theorem dX3_layRoad_43 : decode cX3_layRoad 43 = .ok (.iload_n 2, 1) := dc_28 (by decide +kernel)
theorem dX3_layRoad_44 : decode cX3_layRoad 44 = .ok (.invokevirtual 24, 3) := dc_182 0 24 (by decide +kernel)
theorem dX3_layRoad_47 : decode cX3_layRoad 47 = .ok (.iload_n 3, 1) := dc_29 (by decide +kernel)
theorem dX3_layRoad_48 : decode cX3_layRoad 48 = .ok (.iadd, 1) := dc_96 (by decide +kernel)
theorem dX3_layRoad_49 : decode cX3_layRoad 49 = .ok (.aload_n 0, 1) := dc_42 (by decide +kernel)
theorem dX3_layRoad_50 : decode cX3_layRoad 50 = .ok (.iload_n 1, 1) := dc_27 (by decide +kernel)
theorem dX3_layRoad_51 : decode cX3_layRoad 51 = .ok (.iload 6, 2) := dc_21 6 (by decide +kernel)
theorem dX3_layRoad_53 : decode cX3_layRoad 53 = .ok (.invokevirtual 24, 3) := dc_182 0 24 (by decide +kernel)
theorem dX3_layRoad_56 : decode cX3_layRoad 56 = .ok (.iadd, 1) := dc_96 (by decide +kernel)
theorem dX3_layRoad_57 : decode cX3_layRoad 57 = .ok (.invokestatic 28, 3) := dc_184 0 28 (by decide +kernel)
theorem kw_3_44 : (Jvm.Cond.methodLink "ParishUnion$Land" (28 : Nat) ({ cls := "java/lang/Math", name := "min", desc := "(II)I" } : Jvm.MethodName)) ∈ gT := gT_of (tb_3 _ (List.mem_of_getElem? (i := 44) rfl)) rfl
theorem kw_3_45 : (Jvm.Cond.static ({ cls := "java/lang/Math", name := "min", desc := "(II)I" } : Jvm.MethodName)) ∈ gT := gT_of (tb_3 _ (List.mem_of_getElem? (i := 45) rfl)) rfl
theorem kw_1_14 : (Jvm.Cond.initialized "java/lang/Math") ∈ gT := gT_of (tb_1 _ (List.mem_of_getElem? (i := 14) rfl)) rfl
theorem kw_3_46 : (Jvm.Cond.code ({ cls := "java/lang/Math", name := "min", desc := "(II)I" } : Jvm.MethodName) prog_16_method_69_code (2 : Nat) (Option.some Jvm.ClassFile.FieldType.int)) ∈ gT := gT_of (tb_3 _ (List.mem_of_getElem? (i := 46) rfl)) rfl
theorem dX3_layRoad_60 : decode cX3_layRoad 60 = .ok (.istore 7, 2) := dc_54 7 (by decide +kernel)
theorem dX3_layRoad_62 : decode cX3_layRoad 62 = .ok (.iload 7, 2) := dc_21 7 (by decide +kernel)
theorem dX3_layRoad_64 : decode cX3_layRoad 64 = .ok (.aload_n 0, 1) := dc_42 (by decide +kernel)
theorem dX3_layRoad_65 : decode cX3_layRoad 65 = .ok (.iload 5, 2) := dc_21 5 (by decide +kernel)
theorem dX3_layRoad_67 : decode cX3_layRoad 67 = .ok (.iload 6, 2) := dc_21 6 (by decide +kernel)
theorem dX3_layRoad_69 : decode cX3_layRoad 69 = .ok (.invokevirtual 24, 3) := dc_182 0 24 (by decide +kernel)
theorem dX3_layRoad_72 : decode cX3_layRoad 72 = .ok (.if_icmp .ge 21, 3) := dc_162 0 21 21 (by decide +kernel)
theorem dX3_layRoad_93 : decode cX3_layRoad 93 = .ok (.iinc 6 1, 3) := dc_132 6 1 1 (by decide +kernel)
theorem dX3_layRoad_96 : decode cX3_layRoad 96 = .ok (.goto (-80), 3) := dc_167 255 176 (-80) (by decide +kernel)
theorem dX3_layRoad_75 : decode cX3_layRoad 75 = .ok (.aload_n 0, 1) := dc_42 (by decide +kernel)
theorem dX3_layRoad_76 : decode cX3_layRoad 76 = .ok (.getfield 15, 3) := dc_180 0 15 (by decide +kernel)
theorem dX3_layRoad_79 : decode cX3_layRoad 79 = .ok (.iload 5, 2) := dc_21 5 (by decide +kernel)
theorem dX3_layRoad_81 : decode cX3_layRoad 81 = .ok (.bipush 6, 2) := dc_16 6 6 (by decide +kernel)
theorem dX3_layRoad_83 : decode cX3_layRoad 83 = .ok (.imul, 1) := dc_104 (by decide +kernel)
theorem dX3_layRoad_84 : decode cX3_layRoad 84 = .ok (.iload 6, 2) := dc_21 6 (by decide +kernel)
theorem dX3_layRoad_86 : decode cX3_layRoad 86 = .ok (.iadd, 1) := dc_96 (by decide +kernel)
theorem dX3_layRoad_87 : decode cX3_layRoad 87 = .ok (.iload 7, 2) := dc_21 7 (by decide +kernel)
theorem dX3_layRoad_89 : decode cX3_layRoad 89 = .ok (.iastore, 1) := dc_79 (by decide +kernel)
theorem dX3_layRoad_90 : decode cX3_layRoad 90 = .ok (.iconst 1, 1) := dc_4 (by decide +kernel)
theorem dX3_layRoad_91 : decode cX3_layRoad 91 = .ok (.istore 4, 2) := dc_54 4 (by decide +kernel)
theorem dX3_layRoad_99 : decode cX3_layRoad 99 = .ok (.iinc 5 1, 3) := dc_132 5 1 1 (by decide +kernel)
theorem dX3_layRoad_102 : decode cX3_layRoad 102 = .ok (.goto (-96), 3) := dc_167 255 160 (-96) (by decide +kernel)
theorem dX3_layRoad_105 : decode cX3_layRoad 105 = .ok (.iload 4, 2) := dc_21 4 (by decide +kernel)
theorem dX3_layRoad_107 : decode cX3_layRoad 107 = .ok (.ireturn, 1) := dc_172 (by decide +kernel)
abbrev R_X3_layRoad : Room := { frames := 4, cells := 0, slots := 0, locals := 120 }
set_option maxRecDepth 100000 in
set_option maxHeartbeats 4000000 in
theorem s_X3_layRoad {l : Launch} {n0 : Nat} {D : va_G} {cA : Nat → ClassId} {M : gM} (a : Int) (r_a : 0 ≤ a ∧ a ≤ 5) (b : Int) (r_b : 0 ≤ b ∧ b ≤ 5) (c : Int) (r_c : 1 ≤ c ∧ c ≤ 9) {sz : Nat} (hsz : 206 ≤ sz) (I : gI sz M) (C : gC sz M)   : Met l yX3_layRoad (gWsOf yX3_layRoad cX3_layRoad 8 (Option.some Jvm.ClassFile.FieldType.boolean)) R_X3_layRoad (gPc n0 D cA [gA n0 2, gJ a, gJ b, gJ c] M sz) (gQi n0 D cA sz (fun z M1 => (0 ≤ z ∧ z ≤ 1) ∧ gI sz M1 ∧ gC sz M1 ∧ gFr 4 M M1)) 0 0 (fun q => n0 ≤ q) := by
  refine gMetZ [gA n0 2, gJ a, gJ b, gJ c] (by decide) (Nat.le_of_ble_eq_true rfl) ⟨rfl, rfl⟩ ?_
  intro p e s m args below meth cd Q X hq
  have X : gCx p s m args meth cd n0 D cA "ParishUnion$Land" cX3_layRoad 8 := X
  show G p l e R_X3_layRoad s m args below meth cd n0 D cA 8 Q 0 0 M sz 0 [(0, gA n0 2), (1, gJ a), (2, gJ b), (3, gJ c)] []
  refine g_iconst (n := 1) X dX3_layRoad_0 rfl ?_
  refine g_istore (n := 3) (L' := [(4, gJ 0), (0, gA n0 2), (1, gJ a), (2, gJ b), (3, gJ c)]) X dX3_layRoad_1 (by decide) rfl rfl ?_
  refine g_iconst (n := 4) X dX3_layRoad_3 rfl ?_
  refine g_istore (n := 6) (L' := [(5, gJ 0), (4, gJ 0), (0, gA n0 2), (1, gJ a), (2, gJ b), (3, gJ c)]) X dX3_layRoad_4 (by decide) rfl rfl ?_
  have j4 : ∀ (N645 : Nat) (v1 v2 : Int) (M3 : gM) , (0 ≤ v1 ∧ v1 ≤ 1) → (0 ≤ v2 ∧ v2 ≤ 6) → gI sz M3 → gC sz M3 → gFr 4 M M3 → (6 - v2).toNat < N645 → G p l e R_X3_layRoad s m args below meth cd n0 D cA 8 Q 0 0 M3 sz 6 [(0, gA n0 2), (1, gJ a), (2, gJ b), (3, gJ c), (4, gJ v1), (5, gJ v2)] [] := by
    intro N645; induction N645 with
    | zero => intro v1 v2 M3 rv1 rv2 IM3 CM3 FM3 hm647; exfalso; omega
    | succ N645 ih646 =>
      intro v1 v2 M3 rv1 rv2 IM3 CM3 FM3 hm647
      refine g_iload (n := 8) X 5 dX3_layRoad_6 rfl rfl ?_
      refine g_bipush (n := 10) X dX3_layRoad_8 (by decide +kernel) rfl ?_
      refine g_icmp_ge (n := 13) (tgt := 105) X dX3_layRoad_10 (by decide) (by omega) (by omega) rfl (fun c648 => ?_) (fun c648 => ?_)
      · refine g_iload (n := 107) X 4 dX3_layRoad_105 rfl rfl ?_
        exact hq _ _ _ _ dX3_layRoad_107 (by omega) ⟨by omega, IM3, CM3, (gFr.c gFr.rf FM3 rfl)⟩
      · refine g_iconst (n := 14) X dX3_layRoad_13 rfl ?_
        refine g_istore (n := 16) (L' := [(6, gJ 0), (0, gA n0 2), (1, gJ a), (2, gJ b), (3, gJ c), (4, gJ v1), (5, gJ v2)]) X dX3_layRoad_14 (by decide) rfl rfl ?_
        have j652 : ∀ (N753 : Nat) (v649 v650 : Int) (M651 : gM) , (0 ≤ v649 ∧ v649 ≤ 1) → (0 ≤ v650 ∧ v650 ≤ 6) → gI sz M651 → gC sz M651 → gFr 4 M3 M651 → (6 - v650).toNat < N753 → G p l e R_X3_layRoad s m args below meth cd n0 D cA 8 Q 0 0 M651 sz 16 [(0, gA n0 2), (1, gJ a), (2, gJ b), (3, gJ c), (4, gJ v649), (5, gJ v2), (6, gJ v650)] [] := by
          intro N753; induction N753 with
          | zero => intro v649 v650 M651 rv649 rv650 IM651 CM651 FM651 hm755; exfalso; omega
          | succ N753 ih754 =>
            intro v649 v650 M651 rv649 rv650 IM651 CM651 FM651 hm755
            refine g_iload (n := 18) X 6 dX3_layRoad_16 rfl rfl ?_
            refine g_bipush (n := 20) X dX3_layRoad_18 (by decide +kernel) rfl ?_
            refine g_icmp_ge (n := 23) (tgt := 99) X dX3_layRoad_20 (by decide) (by omega) (by omega) rfl (fun c756 => ?_) (fun c756 => ?_)
            · refine g_iinc (n := 102) (w := v2 + 1) (L' := [(5, gJ (v2 + 1)), (0, gA n0 2), (1, gJ a), (2, gJ b), (3, gJ c), (4, gJ v649), (6, gJ v650)]) X 5 dX3_layRoad_99 rfl rfl (by decide) rfl rfl ?_
              refine g_goto (tgt := 6) X dX3_layRoad_102 (by decide) ?_
              refine G.sub (L' := [(0, gA n0 2), (1, gJ a), (2, gJ b), (3, gJ c), (4, gJ v649), (5, gJ (v2 + 1))]) [1, 2, 3, 4, 5, 0] rfl ?_
              exact ih646 v649 (v2 + 1) M651 (by omega) (by omega) IM651 CM651 (gFr.c (gFr.c gFr.rf FM3 rfl) FM651 rfl) (by omega)
            · refine g_aload_n (n := 24) X 0 dX3_layRoad_23 rfl rfl rfl ?_
              refine g_iload (n := 26) X 5 dX3_layRoad_24 rfl rfl ?_
              refine g_iload_n (n := 27) X 1 dX3_layRoad_26 rfl rfl rfl ?_
              refine g_callVi (n := 30) (As := [gJ v2, gJ a]) (rest := []) (cs1 := 0) (ss1 := 0) X (s_X3_distance v2 (by omega) a (by omega) hsz IM651 CM651 ) okX3_distance kw_3_40 ⟨kw_3_41, kw_3_42⟩ ⟨rfl, rfl⟩ ⟨Nat.le_of_ble_eq_true rfl, Nat.le_of_ble_eq_true rfl⟩ rfl (by decide) (gsz hsz (by decide)) lay_2 rfl rfl (Nat.le_of_ble_eq_true rfl) ⟨Nat.le_of_ble_eq_true rfl, Nat.le_of_ble_eq_true rfl⟩ rfl rfl dX3_layRoad_27 rfl (fun v757 M758 P759 => ?_)
              obtain ⟨rfl, rv757, xv757⟩ := P759
              refine g_iload_n (n := 31) X 3 dX3_layRoad_30 rfl rfl rfl ?_
              refine g_iadd (n := 32) (z := v757 + c) X dX3_layRoad_31 rfl rfl ?_
              refine g_aload_n (n := 33) X 0 dX3_layRoad_32 rfl rfl rfl ?_
              refine g_iload_n (n := 34) X 2 dX3_layRoad_33 rfl rfl rfl ?_
              refine g_iload (n := 36) X 6 dX3_layRoad_34 rfl rfl ?_
              refine g_callVi (n := 39) (As := [gJ b, gJ v650]) (rest := [gJ (v757 + c)]) (cs1 := 0) (ss1 := 0) X (s_X3_distance b (by omega) v650 (by omega) hsz IM651 CM651 ) okX3_distance kw_3_40 ⟨kw_3_41, kw_3_42⟩ ⟨rfl, rfl⟩ ⟨Nat.le_of_ble_eq_true rfl, Nat.le_of_ble_eq_true rfl⟩ rfl (by decide) (gsz hsz (by decide)) lay_2 rfl rfl (Nat.le_of_ble_eq_true rfl) ⟨Nat.le_of_ble_eq_true rfl, Nat.le_of_ble_eq_true rfl⟩ rfl rfl dX3_layRoad_36 rfl (fun v760 M761 P762 => ?_)
              obtain ⟨rfl, rv760, xv760⟩ := P762
              refine g_iadd (n := 40) (z := (v757 + c) + v760) X dX3_layRoad_39 rfl rfl ?_
              refine g_aload_n (n := 41) X 0 dX3_layRoad_40 rfl rfl rfl ?_
              refine g_iload (n := 43) X 5 dX3_layRoad_41 rfl rfl ?_
              refine g_iload_n (n := 44) X 2 dX3_layRoad_43 rfl rfl rfl ?_
              refine g_callVi (n := 47) (As := [gJ v2, gJ b]) (rest := [gJ ((v757 + c) + v760)]) (cs1 := 0) (ss1 := 0) X (s_X3_distance v2 (by omega) b (by omega) hsz IM651 CM651 ) okX3_distance kw_3_40 ⟨kw_3_41, kw_3_42⟩ ⟨rfl, rfl⟩ ⟨Nat.le_of_ble_eq_true rfl, Nat.le_of_ble_eq_true rfl⟩ rfl (by decide) (gsz hsz (by decide)) lay_2 rfl rfl (Nat.le_of_ble_eq_true rfl) ⟨Nat.le_of_ble_eq_true rfl, Nat.le_of_ble_eq_true rfl⟩ rfl rfl dX3_layRoad_44 rfl (fun v763 M764 P765 => ?_)
              obtain ⟨rfl, rv763, xv763⟩ := P765
              refine g_iload_n (n := 48) X 3 dX3_layRoad_47 rfl rfl rfl ?_
              refine g_iadd (n := 49) (z := v763 + c) X dX3_layRoad_48 rfl rfl ?_
              refine g_aload_n (n := 50) X 0 dX3_layRoad_49 rfl rfl rfl ?_
              refine g_iload_n (n := 51) X 1 dX3_layRoad_50 rfl rfl rfl ?_
              refine g_iload (n := 53) X 6 dX3_layRoad_51 rfl rfl ?_
              refine g_callVi (n := 56) (As := [gJ a, gJ v650]) (rest := [gJ (v763 + c), gJ ((v757 + c) + v760)]) (cs1 := 0) (ss1 := 0) X (s_X3_distance a (by omega) v650 (by omega) hsz IM651 CM651 ) okX3_distance kw_3_40 ⟨kw_3_41, kw_3_42⟩ ⟨rfl, rfl⟩ ⟨Nat.le_of_ble_eq_true rfl, Nat.le_of_ble_eq_true rfl⟩ rfl (by decide) (gsz hsz (by decide)) lay_2 rfl rfl (Nat.le_of_ble_eq_true rfl) ⟨Nat.le_of_ble_eq_true rfl, Nat.le_of_ble_eq_true rfl⟩ rfl rfl dX3_layRoad_53 rfl (fun v766 M767 P768 => ?_)
              obtain ⟨rfl, rv766, xv766⟩ := P768
              refine g_iadd (n := 57) (z := (v763 + c) + v766) X dX3_layRoad_56 rfl rfl ?_
              refine g_mmin (n := 60) X kw_3_44 kw_3_45 kw_1_14 kw_3_46 (by omega) (by omega) (Nat.le_of_ble_eq_true rfl) (Nat.le_of_ble_eq_true rfl) (Nat.le_of_ble_eq_true rfl) (Nat.le_of_ble_eq_true rfl) dX3_layRoad_57 rfl (fun x769 hx769 => ?_)
              have rx769 : 1 ≤ x769 ∧ x769 ≤ 207 := by omega
              refine g_istore (n := 62) (L' := [(7, gJ x769), (0, gA n0 2), (1, gJ a), (2, gJ b), (3, gJ c), (4, gJ v649), (5, gJ v2), (6, gJ v650)]) X dX3_layRoad_60 (by decide) rfl rfl ?_
              refine g_iload (n := 64) X 0 dX3_layRoad_62 rfl rfl ?_
              refine g_aload_n (n := 65) X 1 dX3_layRoad_64 rfl rfl rfl ?_
              refine g_iload (n := 67) X 6 dX3_layRoad_65 rfl rfl ?_
              refine g_iload (n := 69) X 7 dX3_layRoad_67 rfl rfl ?_
              refine g_callVi (n := 72) (As := [gJ v2, gJ v650]) (rest := [gJ x769]) (cs1 := 0) (ss1 := 0) X (s_X3_distance v2 (by omega) v650 (by omega) hsz IM651 CM651 ) okX3_distance kw_3_40 ⟨kw_3_41, kw_3_42⟩ ⟨rfl, rfl⟩ ⟨Nat.le_of_ble_eq_true rfl, Nat.le_of_ble_eq_true rfl⟩ rfl (by decide) (gsz hsz (by decide)) lay_2 rfl rfl (Nat.le_of_ble_eq_true rfl) ⟨Nat.le_of_ble_eq_true rfl, Nat.le_of_ble_eq_true rfl⟩ rfl rfl dX3_layRoad_69 rfl (fun v770 M771 P772 => ?_)
              obtain ⟨rfl, rv770, xv770⟩ := P772
              refine g_icmp_ge (n := 75) (tgt := 93) X dX3_layRoad_72 (by decide) (by omega) (by omega) rfl (fun c773 => ?_) (fun c773 => ?_)
              · refine g_iinc (n := 96) (w := v650 + 1) (L' := [(6, gJ (v650 + 1)), (7, gJ x769), (0, gA n0 2), (1, gJ a), (2, gJ b), (3, gJ c), (4, gJ v649), (5, gJ v2)]) X 7 dX3_layRoad_93 rfl rfl (by decide) rfl rfl ?_
                refine g_goto (tgt := 16) X dX3_layRoad_96 (by decide) ?_
                refine G.sub (L' := [(0, gA n0 2), (1, gJ a), (2, gJ b), (3, gJ c), (4, gJ v649), (5, gJ v2), (6, gJ (v650 + 1))]) [2, 3, 4, 5, 6, 7, 0] rfl ?_
                exact ih754 v649 (v650 + 1) M651 (by omega) (by omega) IM651 CM651 (gFr.c gFr.rf FM651 rfl) (by omega)
              · refine g_aload_n (n := 76) X 1 dX3_layRoad_75 rfl rfl rfl ?_
                refine gg_3_1 (n := 79) (z := 4) X (by decide) (gsz hsz (by decide)) lay_2 kw_1_43 dX3_layRoad_76 rfl (rf_2_1 IM651 (gsz hsz (by decide))) (by decide) ?_
                refine g_iload (n := 81) X 6 dX3_layRoad_79 rfl rfl ?_
                refine g_bipush (n := 83) X dX3_layRoad_81 (by decide +kernel) rfl ?_
                refine g_imul (n := 84) (z := v2 * 6) X dX3_layRoad_83 rfl rfl ?_
                refine g_iload (n := 86) X 7 dX3_layRoad_84 rfl rfl ?_
                refine g_iadd (n := 87) (z := (v2 * 6) + v650) X dX3_layRoad_86 rfl rfl ?_
                refine g_iload (n := 89) X 0 dX3_layRoad_87 rfl rfl ?_
                refine g_iast (n := 90) X (by decide) (gsz hsz (by decide)) lay_4 (by omega) (by omega) (by decide) dX3_layRoad_89 rfl ?_
                refine G.nm (fun M774 e775 => ?_)
                have IM774 : gI sz M774 := gI.set IM651 (ra_4 ((v2 * 6) + v650)).1 (by omega) e775
                have CM774 : gC sz M774 := gC.set CM651 (ra_4 ((v2 * 6) + v650)).2.1 e775
                refine g_iconst (n := 91) X dX3_layRoad_90 rfl ?_
                refine g_istore (n := 93) (L' := [(4, gJ 1), (7, gJ x769), (0, gA n0 2), (1, gJ a), (2, gJ b), (3, gJ c), (5, gJ v2), (6, gJ v650)]) X dX3_layRoad_91 (by decide) rfl rfl ?_
                refine g_iinc (n := 96) (w := v650 + 1) (L' := [(6, gJ (v650 + 1)), (4, gJ 1), (7, gJ x769), (0, gA n0 2), (1, gJ a), (2, gJ b), (3, gJ c), (5, gJ v2)]) X 7 dX3_layRoad_93 rfl rfl (by decide) rfl rfl ?_
                refine g_goto (tgt := 16) X dX3_layRoad_96 (by decide) ?_
                refine G.sub (L' := [(0, gA n0 2), (1, gJ a), (2, gJ b), (3, gJ c), (4, gJ 1), (5, gJ v2), (6, gJ (v650 + 1))]) [3, 4, 5, 6, 1, 7, 0] rfl ?_
                exact ih754 1 (v650 + 1) M774 (by omega) (by omega) IM774 CM774 (gFr.s (gFr.c gFr.rf FM651 rfl) e775 (ra_4 ((v2 * 6) + v650)).2.2 rfl) (by omega)
        refine G.sub (L' := [(0, gA n0 2), (1, gJ a), (2, gJ b), (3, gJ c), (4, gJ v1), (5, gJ v2), (6, gJ 0)]) [1, 2, 3, 4, 5, 6, 0] rfl ?_
        exact j652 _ v1 0 M3 (by omega) (by omega) IM3 CM3 gFr.rf (Nat.lt_succ_self _)
  refine G.sub (L' := [(0, gA n0 2), (1, gJ a), (2, gJ b), (3, gJ c), (4, gJ 0), (5, gJ 0)]) [2, 3, 4, 5, 1, 0] rfl ?_
  exact j4 _ 0 0 M (by omega) (by omega) I C gFr.rf (Nat.lt_succ_self _)
theorem dX4_write_0 : decode cX4_write 0 = .ok (.aload_n 0, 1) := dc_42 (by decide +kernel)
theorem dX4_write_1 : decode cX4_write 1 = .ok (.getfield 9, 3) := dc_180 0 9 (by decide +kernel)
theorem kw_1_62 : (Jvm.Cond.fieldLink "ParishUnion$Orders" (9 : Nat) "ParishUnion$Orders" "person" "[I") ∈ gT := gT_of (tb_1 _ (List.mem_of_getElem? (i := 62) rfl)) rfl
theorem rf_9_0 {sz : Nat} {M : gM} (I : gI sz M) (h : (9 : Int) < (sz : Int)) : M 9 0 = 10 + 1 := gI.rf I (by decide) h (by decide +kernel)
theorem dX4_write_4 : decode cX4_write 4 = .ok (.aload_n 0, 1) := dc_42 (by decide +kernel)
theorem dX4_write_5 : decode cX4_write 5 = .ok (.getfield 34, 3) := dc_180 0 34 (by decide +kernel)
theorem kw_1_72 : (Jvm.Cond.fieldLink "ParishUnion$Orders" (34 : Nat) "ParishUnion$Orders" "count" "I") ∈ gT := gT_of (tb_1 _ (List.mem_of_getElem? (i := 72) rfl)) rfl
theorem dX4_write_8 : decode cX4_write 8 = .ok (.iload_n 1, 1) := dc_27 (by decide +kernel)
theorem dX4_write_9 : decode cX4_write 9 = .ok (.iastore, 1) := dc_79 (by decide +kernel)
theorem ra_10 (k : Int) : gRg 10 k = (0, 15) ∧ gCr 10 k = false ∧ gG 10 k = 10 := ⟨rfl, rfl, rfl⟩
theorem dX4_write_10 : decode cX4_write 10 = .ok (.aload_n 0, 1) := dc_42 (by decide +kernel)
theorem dX4_write_11 : decode cX4_write 11 = .ok (.getfield 15, 3) := dc_180 0 15 (by decide +kernel)
theorem kw_1_64 : (Jvm.Cond.fieldLink "ParishUnion$Orders" (15 : Nat) "ParishUnion$Orders" "from" "[I") ∈ gT := gT_of (tb_1 _ (List.mem_of_getElem? (i := 64) rfl)) rfl
theorem rf_9_1 {sz : Nat} {M : gM} (I : gI sz M) (h : (9 : Int) < (sz : Int)) : M 9 1 = 11 + 1 := gI.rf I (by decide) h (by decide +kernel)
theorem dX4_write_14 : decode cX4_write 14 = .ok (.aload_n 0, 1) := dc_42 (by decide +kernel)
theorem dX4_write_15 : decode cX4_write 15 = .ok (.getfield 34, 3) := dc_180 0 34 (by decide +kernel)
theorem dX4_write_18 : decode cX4_write 18 = .ok (.iload_n 2, 1) := dc_28 (by decide +kernel)
theorem dX4_write_19 : decode cX4_write 19 = .ok (.iastore, 1) := dc_79 (by decide +kernel)
theorem ra_11 (k : Int) : gRg 11 k = (0, 5) ∧ gCr 11 k = false ∧ gG 11 k = 10 := ⟨rfl, rfl, rfl⟩
theorem dX4_write_20 : decode cX4_write 20 = .ok (.aload_n 0, 1) := dc_42 (by decide +kernel)
theorem dX4_write_21 : decode cX4_write 21 = .ok (.getfield 18, 3) := dc_180 0 18 (by decide +kernel)
theorem kw_1_66 : (Jvm.Cond.fieldLink "ParishUnion$Orders" (18 : Nat) "ParishUnion$Orders" "to" "[I") ∈ gT := gT_of (tb_1 _ (List.mem_of_getElem? (i := 66) rfl)) rfl
theorem rf_9_2 {sz : Nat} {M : gM} (I : gI sz M) (h : (9 : Int) < (sz : Int)) : M 9 2 = 12 + 1 := gI.rf I (by decide) h (by decide +kernel)
theorem dX4_write_24 : decode cX4_write 24 = .ok (.aload_n 0, 1) := dc_42 (by decide +kernel)
theorem dX4_write_25 : decode cX4_write 25 = .ok (.getfield 34, 3) := dc_180 0 34 (by decide +kernel)
theorem dX4_write_28 : decode cX4_write 28 = .ok (.iload_n 3, 1) := dc_29 (by decide +kernel)
theorem dX4_write_29 : decode cX4_write 29 = .ok (.iastore, 1) := dc_79 (by decide +kernel)
theorem ra_12 (k : Int) : gRg 12 k = (0, 5) ∧ gCr 12 k = false ∧ gG 12 k = 10 := ⟨rfl, rfl, rfl⟩
theorem dX4_write_30 : decode cX4_write 30 = .ok (.aload_n 0, 1) := dc_42 (by decide +kernel)
theorem dX4_write_31 : decode cX4_write 31 = .ok (.getfield 21, 3) := dc_180 0 21 (by decide +kernel)
theorem kw_1_68 : (Jvm.Cond.fieldLink "ParishUnion$Orders" (21 : Nat) "ParishUnion$Orders" "week" "[I") ∈ gT := gT_of (tb_1 _ (List.mem_of_getElem? (i := 68) rfl)) rfl
theorem rf_9_3 {sz : Nat} {M : gM} (I : gI sz M) (h : (9 : Int) < (sz : Int)) : M 9 3 = 13 + 1 := gI.rf I (by decide) h (by decide +kernel)
theorem dX4_write_34 : decode cX4_write 34 = .ok (.aload_n 0, 1) := dc_42 (by decide +kernel)
theorem dX4_write_35 : decode cX4_write 35 = .ok (.getfield 34, 3) := dc_180 0 34 (by decide +kernel)
theorem dX4_write_38 : decode cX4_write 38 = .ok (.iload 4, 2) := dc_21 4 (by decide +kernel)
theorem dX4_write_40 : decode cX4_write 40 = .ok (.iastore, 1) := dc_79 (by decide +kernel)
theorem ra_13 (k : Int) : gRg 13 k = (0, 300) ∧ gCr 13 k = false ∧ gG 13 k = 10 := ⟨rfl, rfl, rfl⟩
theorem dX4_write_41 : decode cX4_write 41 = .ok (.aload_n 0, 1) := dc_42 (by decide +kernel)
theorem dX4_write_42 : decode cX4_write 42 = .ok (.getfield 24, 3) := dc_180 0 24 (by decide +kernel)
theorem kw_1_70 : (Jvm.Cond.fieldLink "ParishUnion$Orders" (24 : Nat) "ParishUnion$Orders" "carried" "[Z") ∈ gT := gT_of (tb_1 _ (List.mem_of_getElem? (i := 70) rfl)) rfl
theorem rf_9_4 {sz : Nat} {M : gM} (I : gI sz M) (h : (9 : Int) < (sz : Int)) : M 9 4 = 14 + 1 := gI.rf I (by decide) h (by decide +kernel)
theorem dX4_write_45 : decode cX4_write 45 = .ok (.aload_n 0, 1) := dc_42 (by decide +kernel)
theorem dX4_write_46 : decode cX4_write 46 = .ok (.getfield 34, 3) := dc_180 0 34 (by decide +kernel)
theorem dX4_write_49 : decode cX4_write 49 = .ok (.iconst 0, 1) := dc_3 (by decide +kernel)
theorem dX4_write_50 : decode cX4_write 50 = .ok (.bastore, 1) := dc_84 (by decide +kernel)
theorem ra_14 (k : Int) : gRg 14 k = (0, 1) ∧ gCr 14 k = false ∧ gG 14 k = 10 := ⟨rfl, rfl, rfl⟩
theorem dX4_write_51 : decode cX4_write 51 = .ok (.aload_n 0, 1) := dc_42 (by decide +kernel)
theorem dX4_write_52 : decode cX4_write 52 = .ok (.dup, 1) := dc_89 (by decide +kernel)
theorem dX4_write_53 : decode cX4_write 53 = .ok (.getfield 34, 3) := dc_180 0 34 (by decide +kernel)
theorem dX4_write_56 : decode cX4_write 56 = .ok (.dup_x1, 1) := dc_90 (by decide +kernel)
theorem dX4_write_57 : decode cX4_write 57 = .ok (.iconst 1, 1) := dc_4 (by decide +kernel)
theorem dX4_write_58 : decode cX4_write 58 = .ok (.iadd, 1) := dc_96 (by decide +kernel)
theorem dX4_write_59 : decode cX4_write 59 = .ok (.putfield 34, 3) := dc_181 0 34 (by decide +kernel)
theorem dX4_write_62 : decode cX4_write 62 = .ok (.ireturn, 1) := dc_172 (by decide +kernel)
abbrev R_X4_write : Room := { frames := 0, cells := 0, slots := 0, locals := 0 }
set_option maxRecDepth 100000 in
set_option maxHeartbeats 4000000 in
theorem s_X4_write {l : Launch} {n0 : Nat} {D : va_G} {cA : Nat → ClassId} {M : gM} (a : Int) (r_a : 0 ≤ a ∧ a ≤ 15) (b : Int) (r_b : 0 ≤ b ∧ b ≤ 5) (c : Int) (r_c : 0 ≤ c ∧ c ≤ 5) (d : Int) (r_d : 0 ≤ d ∧ d ≤ 300) {sz : Nat} (hsz : 206 ≤ sz) (I : gI sz M) (C : gC sz M) (q_9_5 : 0 ≤ M 9 5 ∧ M 9 5 ≤ 19)  : Met l yX4_write (gWsOf yX4_write cX4_write 5 (Option.some Jvm.ClassFile.FieldType.int)) R_X4_write (gPc n0 D cA [gA n0 9, gJ a, gJ b, gJ c, gJ d] M sz) (gQi n0 D cA sz (fun z Mz => ∃ v1 : Int, M 9 5 = v1 ∧ (0 ≤ v1 ∧ v1 ≤ 20) ∧ ∃ M2 : gM, M2 = gset M 10 v1 a ∧ ∃ M4 : gM, M4 = gset M2 11 v1 b ∧ ∃ M6 : gM, M6 = gset M4 12 v1 c ∧ ∃ M8 : gM, M8 = gset M6 13 v1 d ∧ ∃ M10 : gM, M10 = gset M8 14 v1 0 ∧ ∃ M12 : gM, M12 = gset M10 9 5 (v1 + 1) ∧ z = v1 ∧ M12 = Mz)) 0 0 (fun q => n0 ≤ q) := by
  refine gMetI [gA n0 9, gJ a, gJ b, gJ c, gJ d] (by decide) (Nat.le_of_ble_eq_true rfl) ⟨rfl, rfl⟩ ?_
  intro p e s m args below meth cd Q X hq
  have X : gCx p s m args meth cd n0 D cA "ParishUnion$Orders" cX4_write 5 := X
  show G p l e R_X4_write s m args below meth cd n0 D cA 5 Q 0 0 M sz 0 [(0, gA n0 9), (1, gJ a), (2, gJ b), (3, gJ c), (4, gJ d)] []
  obtain ⟨v1, hv1, rv1⟩ := gRd I (by decide) (gsz hsz (by decide)) rc_9_5.1
  refine g_aload_n (n := 1) X 0 dX4_write_0 rfl rfl rfl ?_
  refine gg_4_0 (n := 4) (z := 10) X (by decide) (gsz hsz (by decide)) lay_9 kw_1_62 dX4_write_1 rfl (rf_9_0 I (gsz hsz (by decide))) (by decide) ?_
  refine g_aload_n (n := 5) X 0 dX4_write_4 rfl rfl rfl ?_
  refine gg_4_5 (n := 8) (z := v1) X (by decide) (gsz hsz (by decide)) lay_9 kw_1_72 dX4_write_5 rfl hv1 ?_
  refine g_iload_n (n := 9) X 1 dX4_write_8 rfl rfl rfl ?_
  refine g_iast (n := 10) X (by decide) (gsz hsz (by decide)) lay_10 (by omega) (by omega) (by decide) dX4_write_9 rfl ?_
  refine G.nm (fun M2 e3 => ?_)
  have IM2 : gI sz M2 := gI.set I (ra_10 v1).1 (by omega) e3
  have CM2 : gC sz M2 := gC.set C (ra_10 v1).2.1 e3
  refine g_aload_n (n := 11) X 0 dX4_write_10 rfl rfl rfl ?_
  refine gg_4_1 (n := 14) (z := 11) X (by decide) (gsz hsz (by decide)) lay_9 kw_1_64 dX4_write_11 rfl (rf_9_1 IM2 (gsz hsz (by decide))) (by decide) ?_
  refine g_aload_n (n := 15) X 0 dX4_write_14 rfl rfl rfl ?_
  refine gg_4_5 (n := 18) (z := v1) X (by decide) (gsz hsz (by decide)) lay_9 kw_1_72 dX4_write_15 rfl ((congrFun (congrFun e3 _) _).trans ((gset_ne (by omega)).trans hv1)) ?_
  refine g_iload_n (n := 19) X 2 dX4_write_18 rfl rfl rfl ?_
  refine g_iast (n := 20) X (by decide) (gsz hsz (by decide)) lay_11 (by omega) (by omega) (by decide) dX4_write_19 rfl ?_
  refine G.nm (fun M4 e5 => ?_)
  have IM4 : gI sz M4 := gI.set IM2 (ra_11 v1).1 (by omega) e5
  have CM4 : gC sz M4 := gC.set CM2 (ra_11 v1).2.1 e5
  refine g_aload_n (n := 21) X 0 dX4_write_20 rfl rfl rfl ?_
  refine gg_4_2 (n := 24) (z := 12) X (by decide) (gsz hsz (by decide)) lay_9 kw_1_66 dX4_write_21 rfl (rf_9_2 IM4 (gsz hsz (by decide))) (by decide) ?_
  refine g_aload_n (n := 25) X 0 dX4_write_24 rfl rfl rfl ?_
  refine gg_4_5 (n := 28) (z := v1) X (by decide) (gsz hsz (by decide)) lay_9 kw_1_72 dX4_write_25 rfl ((congrFun (congrFun e5 _) _).trans ((gset_ne (by omega)).trans ((congrFun (congrFun e3 _) _).trans ((gset_ne (by omega)).trans hv1)))) ?_
  refine g_iload_n (n := 29) X 3 dX4_write_28 rfl rfl rfl ?_
  refine g_iast (n := 30) X (by decide) (gsz hsz (by decide)) lay_12 (by omega) (by omega) (by decide) dX4_write_29 rfl ?_
  refine G.nm (fun M6 e7 => ?_)
  have IM6 : gI sz M6 := gI.set IM4 (ra_12 v1).1 (by omega) e7
  have CM6 : gC sz M6 := gC.set CM4 (ra_12 v1).2.1 e7
  refine g_aload_n (n := 31) X 0 dX4_write_30 rfl rfl rfl ?_
  refine gg_4_3 (n := 34) (z := 13) X (by decide) (gsz hsz (by decide)) lay_9 kw_1_68 dX4_write_31 rfl (rf_9_3 IM6 (gsz hsz (by decide))) (by decide) ?_
  refine g_aload_n (n := 35) X 0 dX4_write_34 rfl rfl rfl ?_
  refine gg_4_5 (n := 38) (z := v1) X (by decide) (gsz hsz (by decide)) lay_9 kw_1_72 dX4_write_35 rfl ((congrFun (congrFun e7 _) _).trans ((gset_ne (by omega)).trans ((congrFun (congrFun e5 _) _).trans ((gset_ne (by omega)).trans ((congrFun (congrFun e3 _) _).trans ((gset_ne (by omega)).trans hv1)))))) ?_
  refine g_iload (n := 40) X 4 dX4_write_38 rfl rfl ?_
  refine g_iast (n := 41) X (by decide) (gsz hsz (by decide)) lay_13 (by omega) (by omega) (by decide) dX4_write_40 rfl ?_
  refine G.nm (fun M8 e9 => ?_)
  have IM8 : gI sz M8 := gI.set IM6 (ra_13 v1).1 (by omega) e9
  have CM8 : gC sz M8 := gC.set CM6 (ra_13 v1).2.1 e9
  refine g_aload_n (n := 42) X 0 dX4_write_41 rfl rfl rfl ?_
  refine gg_4_4 (n := 45) (z := 14) X (by decide) (gsz hsz (by decide)) lay_9 kw_1_70 dX4_write_42 rfl (rf_9_4 IM8 (gsz hsz (by decide))) (by decide) ?_
  refine g_aload_n (n := 46) X 0 dX4_write_45 rfl rfl rfl ?_
  refine gg_4_5 (n := 49) (z := v1) X (by decide) (gsz hsz (by decide)) lay_9 kw_1_72 dX4_write_46 rfl ((congrFun (congrFun e9 _) _).trans ((gset_ne (by omega)).trans ((congrFun (congrFun e7 _) _).trans ((gset_ne (by omega)).trans ((congrFun (congrFun e5 _) _).trans ((gset_ne (by omega)).trans ((congrFun (congrFun e3 _) _).trans ((gset_ne (by omega)).trans hv1)))))))) ?_
  refine g_iconst (n := 50) X dX4_write_49 rfl ?_
  refine g_zast (n := 51) (z := 0) X (by decide) (gsz hsz (by decide)) lay_14 (by omega) (by omega) (by decide) (g_zn (by omega)) dX4_write_50 rfl ?_
  refine G.nm (fun M10 e11 => ?_)
  have IM10 : gI sz M10 := gI.set IM8 (ra_14 v1).1 (by omega) e11
  have CM10 : gC sz M10 := gC.set CM8 (ra_14 v1).2.1 e11
  refine g_aload_n (n := 52) X 0 dX4_write_51 rfl rfl rfl ?_
  refine g_dup (n := 53) X dX4_write_52 rfl rfl ?_
  refine gg_4_5 (n := 56) (z := v1) X (by decide) (gsz hsz (by decide)) lay_9 kw_1_72 dX4_write_53 rfl ((congrFun (congrFun e11 _) _).trans ((gset_ne (by omega)).trans ((congrFun (congrFun e9 _) _).trans ((gset_ne (by omega)).trans ((congrFun (congrFun e7 _) _).trans ((gset_ne (by omega)).trans ((congrFun (congrFun e5 _) _).trans ((gset_ne (by omega)).trans ((congrFun (congrFun e3 _) _).trans ((gset_ne (by omega)).trans hv1)))))))))) ?_
  refine g_dup_x1 (n := 57) X dX4_write_56 rfl rfl rfl ?_
  refine g_iconst (n := 58) X dX4_write_57 rfl ?_
  refine g_iadd (n := 59) (z := v1 + 1) X dX4_write_58 (by omega) rfl ?_
  refine gp_4_5 (n := 62) X (by decide) (gsz hsz (by decide)) lay_9 kw_1_72 dX4_write_59 rfl ?_
  refine G.nm (fun M12 e13 => ?_)
  have IM12 : gI sz M12 := gI.set IM10 rc_9_5.1 (by omega) e13
  have CM12 : gC sz M12 := gC.set CM10 rc_9_5.2.1 e13
  exact hq _ _ _ _ dX4_write_62 ⟨v1, hv1, rv1, M2, e3, M4, e5, M6, e7, M8, e9, M10, e11, M12, e13, rfl, rfl⟩
theorem rc_15_7 : gRg 15 7 = (0, 6) ∧ gCr 15 7 = false ∧ gG 15 7 = 14 := by decide +kernel
theorem dX2_addChoice_0 : decode cX2_addChoice 0 = .ok (.aload_n 0, 1) := dc_42 (by decide +kernel)
theorem dX2_addChoice_1 : decode cX2_addChoice 1 = .ok (.getfield 24, 3) := dc_180 0 24 (by decide +kernel)
theorem kw_1_104 : (Jvm.Cond.fieldLink "ParishUnion$House" (24 : Nat) "ParishUnion$House" "choiceFor" "[I") ∈ gT := gT_of (tb_1 _ (List.mem_of_getElem? (i := 104) rfl)) rfl
theorem rf_15_4 {sz : Nat} {M : gM} (I : gI sz M) (h : (15 : Int) < (sz : Int)) : M 15 4 = 20 + 1 := gI.rf I (by decide) h (by decide +kernel)
theorem dX2_addChoice_4 : decode cX2_addChoice 4 = .ok (.aload_n 0, 1) := dc_42 (by decide +kernel)
theorem dX2_addChoice_5 : decode cX2_addChoice 5 = .ok (.getfield 43, 3) := dc_180 0 43 (by decide +kernel)
theorem kw_1_107 : (Jvm.Cond.fieldLink "ParishUnion$House" (43 : Nat) "ParishUnion$House" "choices" "I") ∈ gT := gT_of (tb_1 _ (List.mem_of_getElem? (i := 107) rfl)) rfl
theorem dX2_addChoice_8 : decode cX2_addChoice 8 = .ok (.iload_n 1, 1) := dc_27 (by decide +kernel)
theorem dX2_addChoice_9 : decode cX2_addChoice 9 = .ok (.iastore, 1) := dc_79 (by decide +kernel)
theorem ra_20 (k : Int) : gRg 20 k = (0, 4) ∧ gCr 20 k = false ∧ gG 20 k = 14 := ⟨rfl, rfl, rfl⟩
theorem dX2_addChoice_10 : decode cX2_addChoice 10 = .ok (.aload_n 0, 1) := dc_42 (by decide +kernel)
theorem dX2_addChoice_11 : decode cX2_addChoice 11 = .ok (.getfield 27, 3) := dc_180 0 27 (by decide +kernel)
theorem kw_1_105 : (Jvm.Cond.fieldLink "ParishUnion$House" (27 : Nat) "ParishUnion$House" "choiceMore" "[I") ∈ gT := gT_of (tb_1 _ (List.mem_of_getElem? (i := 105) rfl)) rfl
theorem rf_15_5 {sz : Nat} {M : gM} (I : gI sz M) (h : (15 : Int) < (sz : Int)) : M 15 5 = 21 + 1 := gI.rf I (by decide) h (by decide +kernel)
theorem dX2_addChoice_14 : decode cX2_addChoice 14 = .ok (.aload_n 0, 1) := dc_42 (by decide +kernel)
theorem dX2_addChoice_15 : decode cX2_addChoice 15 = .ok (.getfield 43, 3) := dc_180 0 43 (by decide +kernel)
theorem dX2_addChoice_18 : decode cX2_addChoice 18 = .ok (.iload_n 2, 1) := dc_28 (by decide +kernel)
theorem dX2_addChoice_19 : decode cX2_addChoice 19 = .ok (.iastore, 1) := dc_79 (by decide +kernel)
theorem ra_21 (k : Int) : gRg 21 k = (-2147483648, 2147483647) ∧ gCr 21 k = false ∧ gG 21 k = 14 := ⟨rfl, rfl, rfl⟩
theorem dX2_addChoice_20 : decode cX2_addChoice 20 = .ok (.aload_n 0, 1) := dc_42 (by decide +kernel)
theorem dX2_addChoice_21 : decode cX2_addChoice 21 = .ok (.getfield 30, 3) := dc_180 0 30 (by decide +kernel)
theorem kw_1_106 : (Jvm.Cond.fieldLink "ParishUnion$House" (30 : Nat) "ParishUnion$House" "choiceCost" "[I") ∈ gT := gT_of (tb_1 _ (List.mem_of_getElem? (i := 106) rfl)) rfl
theorem rf_15_6 {sz : Nat} {M : gM} (I : gI sz M) (h : (15 : Int) < (sz : Int)) : M 15 6 = 22 + 1 := gI.rf I (by decide) h (by decide +kernel)
theorem dX2_addChoice_24 : decode cX2_addChoice 24 = .ok (.aload_n 0, 1) := dc_42 (by decide +kernel)
theorem dX2_addChoice_25 : decode cX2_addChoice 25 = .ok (.getfield 43, 3) := dc_180 0 43 (by decide +kernel)
theorem dX2_addChoice_28 : decode cX2_addChoice 28 = .ok (.iload_n 3, 1) := dc_29 (by decide +kernel)
theorem dX2_addChoice_29 : decode cX2_addChoice 29 = .ok (.iastore, 1) := dc_79 (by decide +kernel)
theorem ra_22 (k : Int) : gRg 22 k = (-2147483648, 2147483647) ∧ gCr 22 k = false ∧ gG 22 k = 14 := ⟨rfl, rfl, rfl⟩
theorem dX2_addChoice_30 : decode cX2_addChoice 30 = .ok (.aload_n 0, 1) := dc_42 (by decide +kernel)
theorem dX2_addChoice_31 : decode cX2_addChoice 31 = .ok (.dup, 1) := dc_89 (by decide +kernel)
theorem dX2_addChoice_32 : decode cX2_addChoice 32 = .ok (.getfield 43, 3) := dc_180 0 43 (by decide +kernel)
theorem dX2_addChoice_35 : decode cX2_addChoice 35 = .ok (.dup_x1, 1) := dc_90 (by decide +kernel)
theorem dX2_addChoice_36 : decode cX2_addChoice 36 = .ok (.iconst 1, 1) := dc_4 (by decide +kernel)
theorem dX2_addChoice_37 : decode cX2_addChoice 37 = .ok (.iadd, 1) := dc_96 (by decide +kernel)
theorem dX2_addChoice_38 : decode cX2_addChoice 38 = .ok (.putfield 43, 3) := dc_181 0 43 (by decide +kernel)
theorem dX2_addChoice_41 : decode cX2_addChoice 41 = .ok (.ireturn, 1) := dc_172 (by decide +kernel)
abbrev R_X2_addChoice : Room := { frames := 0, cells := 0, slots := 0, locals := 0 }
set_option maxRecDepth 100000 in
set_option maxHeartbeats 4000000 in
theorem s_X2_addChoice {l : Launch} {n0 : Nat} {D : va_G} {cA : Nat → ClassId} {M : gM} (a : Int) (r_a : 0 ≤ a ∧ a ≤ 4) (b : Int) (r_b : -2147483648 ≤ b ∧ b ≤ 2147483647) (c : Int) (r_c : -2147483648 ≤ c ∧ c ≤ 2147483647) {sz : Nat} (hsz : 206 ≤ sz) (I : gI sz M) (C : gC sz M) (q_15_7 : 0 ≤ M 15 7 ∧ M 15 7 ≤ 5)  : Met l yX2_addChoice (gWsOf yX2_addChoice cX2_addChoice 4 (Option.some Jvm.ClassFile.FieldType.int)) R_X2_addChoice (gPc n0 D cA [gA n0 15, gJ a, gJ b, gJ c] M sz) (gQi n0 D cA sz (fun z Mz => ∃ v1 : Int, M 15 7 = v1 ∧ (0 ≤ v1 ∧ v1 ≤ 6) ∧ ∃ M2 : gM, M2 = gset M 20 v1 a ∧ ∃ M4 : gM, M4 = gset M2 21 v1 b ∧ ∃ M6 : gM, M6 = gset M4 22 v1 c ∧ ∃ M8 : gM, M8 = gset M6 15 7 (v1 + 1) ∧ z = v1 ∧ M8 = Mz)) 0 0 (fun q => n0 ≤ q) := by
  refine gMetI [gA n0 15, gJ a, gJ b, gJ c] (by decide) (Nat.le_of_ble_eq_true rfl) ⟨rfl, rfl⟩ ?_
  intro p e s m args below meth cd Q X hq
  have X : gCx p s m args meth cd n0 D cA "ParishUnion$House" cX2_addChoice 4 := X
  show G p l e R_X2_addChoice s m args below meth cd n0 D cA 4 Q 0 0 M sz 0 [(0, gA n0 15), (1, gJ a), (2, gJ b), (3, gJ c)] []
  obtain ⟨v1, hv1, rv1⟩ := gRd I (by decide) (gsz hsz (by decide)) rc_15_7.1
  refine g_aload_n (n := 1) X 0 dX2_addChoice_0 rfl rfl rfl ?_
  refine gg_2_4 (n := 4) (z := 20) X (by decide) (gsz hsz (by decide)) lay_15 kw_1_104 dX2_addChoice_1 rfl (rf_15_4 I (gsz hsz (by decide))) (by decide) ?_
  refine g_aload_n (n := 5) X 0 dX2_addChoice_4 rfl rfl rfl ?_
  refine gg_2_7 (n := 8) (z := v1) X (by decide) (gsz hsz (by decide)) lay_15 kw_1_107 dX2_addChoice_5 rfl hv1 ?_
  refine g_iload_n (n := 9) X 1 dX2_addChoice_8 rfl rfl rfl ?_
  refine g_iast (n := 10) X (by decide) (gsz hsz (by decide)) lay_20 (by omega) (by omega) (by decide) dX2_addChoice_9 rfl ?_
  refine G.nm (fun M2 e3 => ?_)
  have IM2 : gI sz M2 := gI.set I (ra_20 v1).1 (by omega) e3
  have CM2 : gC sz M2 := gC.set C (ra_20 v1).2.1 e3
  refine g_aload_n (n := 11) X 0 dX2_addChoice_10 rfl rfl rfl ?_
  refine gg_2_5 (n := 14) (z := 21) X (by decide) (gsz hsz (by decide)) lay_15 kw_1_105 dX2_addChoice_11 rfl (rf_15_5 IM2 (gsz hsz (by decide))) (by decide) ?_
  refine g_aload_n (n := 15) X 0 dX2_addChoice_14 rfl rfl rfl ?_
  refine gg_2_7 (n := 18) (z := v1) X (by decide) (gsz hsz (by decide)) lay_15 kw_1_107 dX2_addChoice_15 rfl ((congrFun (congrFun e3 _) _).trans ((gset_ne (by omega)).trans hv1)) ?_
  refine g_iload_n (n := 19) X 2 dX2_addChoice_18 rfl rfl rfl ?_
  refine g_iast (n := 20) X (by decide) (gsz hsz (by decide)) lay_21 (by omega) (by omega) (by decide) dX2_addChoice_19 rfl ?_
  refine G.nm (fun M4 e5 => ?_)
  have IM4 : gI sz M4 := gI.set IM2 (ra_21 v1).1 (by omega) e5
  have CM4 : gC sz M4 := gC.set CM2 (ra_21 v1).2.1 e5
  refine g_aload_n (n := 21) X 0 dX2_addChoice_20 rfl rfl rfl ?_
  refine gg_2_6 (n := 24) (z := 22) X (by decide) (gsz hsz (by decide)) lay_15 kw_1_106 dX2_addChoice_21 rfl (rf_15_6 IM4 (gsz hsz (by decide))) (by decide) ?_
  refine g_aload_n (n := 25) X 0 dX2_addChoice_24 rfl rfl rfl ?_
  refine gg_2_7 (n := 28) (z := v1) X (by decide) (gsz hsz (by decide)) lay_15 kw_1_107 dX2_addChoice_25 rfl ((congrFun (congrFun e5 _) _).trans ((gset_ne (by omega)).trans ((congrFun (congrFun e3 _) _).trans ((gset_ne (by omega)).trans hv1)))) ?_
  refine g_iload_n (n := 29) X 3 dX2_addChoice_28 rfl rfl rfl ?_
  refine g_iast (n := 30) X (by decide) (gsz hsz (by decide)) lay_22 (by omega) (by omega) (by decide) dX2_addChoice_29 rfl ?_
  refine G.nm (fun M6 e7 => ?_)
  have IM6 : gI sz M6 := gI.set IM4 (ra_22 v1).1 (by omega) e7
  have CM6 : gC sz M6 := gC.set CM4 (ra_22 v1).2.1 e7
  refine g_aload_n (n := 31) X 0 dX2_addChoice_30 rfl rfl rfl ?_
  refine g_dup (n := 32) X dX2_addChoice_31 rfl rfl ?_
  refine gg_2_7 (n := 35) (z := v1) X (by decide) (gsz hsz (by decide)) lay_15 kw_1_107 dX2_addChoice_32 rfl ((congrFun (congrFun e7 _) _).trans ((gset_ne (by omega)).trans ((congrFun (congrFun e5 _) _).trans ((gset_ne (by omega)).trans ((congrFun (congrFun e3 _) _).trans ((gset_ne (by omega)).trans hv1)))))) ?_
  refine g_dup_x1 (n := 36) X dX2_addChoice_35 rfl rfl rfl ?_
  refine g_iconst (n := 37) X dX2_addChoice_36 rfl ?_
  refine g_iadd (n := 38) (z := v1 + 1) X dX2_addChoice_37 (by omega) rfl ?_
  refine gp_2_7 (n := 41) X (by decide) (gsz hsz (by decide)) lay_15 kw_1_107 dX2_addChoice_38 rfl ?_
  refine G.nm (fun M8 e9 => ?_)
  have IM8 : gI sz M8 := gI.set IM6 rc_15_7.1 (by omega) e9
  have CM8 : gC sz M8 := gC.set CM6 rc_15_7.2.1 e9
  exact hq _ _ _ _ dX2_addChoice_41 ⟨v1, hv1, rv1, M2, e3, M4, e5, M6, e7, M8, e9, rfl, rfl⟩
theorem dX2_costOfSet_0 : decode cX2_costOfSet 0 = .ok (.iconst 0, 1) := dc_3 (by decide +kernel)
theorem dX2_costOfSet_1 : decode cX2_costOfSet 1 = .ok (.istore_n 2, 1) := dc_61 (by decide +kernel)
theorem dX2_costOfSet_2 : decode cX2_costOfSet 2 = .ok (.iconst 0, 1) := dc_3 (by decide +kernel)
theorem dX2_costOfSet_3 : decode cX2_costOfSet 3 = .ok (.istore_n 3, 1) := dc_62 (by decide +kernel)
theorem dX2_costOfSet_4 : decode cX2_costOfSet 4 = .ok (.iload_n 3, 1) := dc_29 (by decide +kernel)
theorem dX2_costOfSet_5 : decode cX2_costOfSet 5 = .ok (.aload_n 0, 1) := dc_42 (by decide +kernel)
theorem dX2_costOfSet_6 : decode cX2_costOfSet 6 = .ok (.getfield 43, 3) := dc_180 0 43 (by decide +kernel)
theorem dX2_costOfSet_9 : decode cX2_costOfSet 9 = .ok (.if_icmp .ge 24, 3) := dc_162 0 24 24 (by decide +kernel)
theorem dX2_costOfSet_33 : decode cX2_costOfSet 33 = .ok (.iload_n 2, 1) := dc_28 (by decide +kernel)
theorem dX2_costOfSet_34 : decode cX2_costOfSet 34 = .ok (.ireturn, 1) := dc_172 (by decide +kernel)
theorem dX2_costOfSet_12 : decode cX2_costOfSet 12 = .ok (.iload_n 2, 1) := dc_28 (by decide +kernel)
theorem dX2_costOfSet_13 : decode cX2_costOfSet 13 = .ok (.iload_n 1, 1) := dc_27 (by decide +kernel)
theorem dX2_costOfSet_14 : decode cX2_costOfSet 14 = .ok (.iload_n 3, 1) := dc_29 (by decide +kernel)
theorem dX2_costOfSet_15 : decode cX2_costOfSet 15 = .ok (.ishr, 1) := dc_122 (by decide +kernel)
theorem dX2_costOfSet_16 : decode cX2_costOfSet 16 = .ok (.iconst 1, 1) := dc_4 (by decide +kernel)
theorem dX2_costOfSet_17 : decode cX2_costOfSet 17 = .ok (.iand, 1) := dc_126 (by decide +kernel)
theorem dX2_costOfSet_18 : decode cX2_costOfSet 18 = .ok (.aload_n 0, 1) := dc_42 (by decide +kernel)
theorem dX2_costOfSet_19 : decode cX2_costOfSet 19 = .ok (.getfield 30, 3) := dc_180 0 30 (by decide +kernel)
theorem dX2_costOfSet_22 : decode cX2_costOfSet 22 = .ok (.iload_n 3, 1) := dc_29 (by decide +kernel)
theorem dX2_costOfSet_23 : decode cX2_costOfSet 23 = .ok (.iaload, 1) := dc_46 (by decide +kernel)
theorem dX2_costOfSet_24 : decode cX2_costOfSet 24 = .ok (.imul, 1) := dc_104 (by decide +kernel)
theorem dX2_costOfSet_25 : decode cX2_costOfSet 25 = .ok (.iadd, 1) := dc_96 (by decide +kernel)
theorem dX2_costOfSet_26 : decode cX2_costOfSet 26 = .ok (.istore_n 2, 1) := dc_61 (by decide +kernel)
theorem dX2_costOfSet_27 : decode cX2_costOfSet 27 = .ok (.iinc 3 1, 3) := dc_132 3 1 1 (by decide +kernel)
theorem dX2_costOfSet_30 : decode cX2_costOfSet 30 = .ok (.goto (-26), 3) := dc_167 255 230 (-26) (by decide +kernel)
abbrev R_X2_costOfSet : Room := { frames := 0, cells := 0, slots := 0, locals := 0 }
set_option maxRecDepth 100000 in
set_option maxHeartbeats 4000000 in
theorem s_X2_costOfSet {l : Launch} {n0 : Nat} {D : va_G} {cA : Nat → ClassId} {M : gM} (a : Int) (r_a : -2147483648 ≤ a ∧ a ≤ 2147483647) {sz : Nat} (hsz : 206 ≤ sz) (I : gI sz M) (C : gC sz M)   : Met l yX2_costOfSet (gWsOf yX2_costOfSet cX2_costOfSet 4 (Option.some Jvm.ClassFile.FieldType.int)) R_X2_costOfSet (gPc n0 D cA [gA n0 15, gJ a] M sz) (gQi n0 D cA sz (fun z M1 => M = M1 ∧ (-2147483648 ≤ z ∧ z ≤ 2147483647))) 0 0 (fun q => n0 ≤ q) := by
  refine gMetI [gA n0 15, gJ a] (by decide) (Nat.le_of_ble_eq_true rfl) ⟨rfl, rfl⟩ ?_
  intro p e s m args below meth cd Q X hq
  have X : gCx p s m args meth cd n0 D cA "ParishUnion$House" cX2_costOfSet 4 := X
  show G p l e R_X2_costOfSet s m args below meth cd n0 D cA 4 Q 0 0 M sz 0 [(0, gA n0 15), (1, gJ a)] []
  refine g_iconst (n := 1) X dX2_costOfSet_0 rfl ?_
  refine g_istore_n (n := 2) (L' := [(2, gJ 0), (0, gA n0 15), (1, gJ a)]) X dX2_costOfSet_1 rfl (by decide) rfl rfl ?_
  refine g_iconst (n := 3) X dX2_costOfSet_2 rfl ?_
  refine g_istore_n (n := 4) (L' := [(3, gJ 0), (2, gJ 0), (0, gA n0 15), (1, gJ a)]) X dX2_costOfSet_3 rfl (by decide) rfl rfl ?_
  have j4 : ∀ (N39 : Nat) (v1 v2 : Int) , (-2147483648 ≤ v1 ∧ v1 ≤ 2147483647) → (0 ≤ v2 ∧ v2 ≤ 6) → (6 - v2).toNat < N39 → G p l e R_X2_costOfSet s m args below meth cd n0 D cA 4 Q 0 0 M sz 4 [(0, gA n0 15), (1, gJ a), (2, gJ v1), (3, gJ v2)] [] := by
    intro N39; induction N39 with
    | zero => intro v1 v2 rv1 rv2 hm41; exfalso; omega
    | succ N39 ih40 =>
      intro v1 v2 rv1 rv2 hm41
      refine g_iload_n (n := 5) X 3 dX2_costOfSet_4 rfl rfl rfl ?_
      refine g_aload_n (n := 6) X 0 dX2_costOfSet_5 rfl rfl rfl ?_
      obtain ⟨v42, hv42, rv42⟩ := gRd I (by decide) (gsz hsz (by decide)) rc_15_7.1
      refine gg_2_7 (n := 9) (z := v42) X (by decide) (gsz hsz (by decide)) lay_15 kw_1_107 dX2_costOfSet_6 rfl hv42 ?_
      refine g_icmp_ge (n := 12) (tgt := 33) X dX2_costOfSet_9 (by decide) (by omega) (by omega) rfl (fun c43 => ?_) (fun c43 => ?_)
      · refine g_iload_n (n := 34) X 2 dX2_costOfSet_33 rfl rfl rfl ?_
        exact hq _ _ _ _ dX2_costOfSet_34 ⟨rfl, by omega⟩
      · refine g_iload_n (n := 13) X 2 dX2_costOfSet_12 rfl rfl rfl ?_
        refine g_iload_n (n := 14) X 1 dX2_costOfSet_13 rfl rfl rfl ?_
        refine g_iload_n (n := 15) X 3 dX2_costOfSet_14 rfl rfl rfl ?_
        refine g_ishrA (n := 16) X dX2_costOfSet_15 rfl (fun v44 rv44 xv44 => ?_)
        clear xv44
        refine g_iconst (n := 17) X dX2_costOfSet_16 rfl ?_
        refine g_iandC (n := 18) X dX2_costOfSet_17 (by decide) rfl (fun v45 rv45 xv45 => ?_)
        clear xv45
        refine g_aload_n (n := 19) X 0 dX2_costOfSet_18 rfl rfl rfl ?_
        refine gg_2_6 (n := 22) (z := 22) X (by decide) (gsz hsz (by decide)) lay_15 kw_1_106 dX2_costOfSet_19 rfl (rf_15_6 I (gsz hsz (by decide))) (by decide) ?_
        refine g_iload_n (n := 23) X 3 dX2_costOfSet_22 rfl rfl rfl ?_
        obtain ⟨v46, hv46, rv46⟩ := gRd I (by decide) (gsz hsz (by decide)) (ra_22 v2).1
        refine g_iald2 (n := 24) (v := v46) X (by decide) (gsz hsz (by decide)) lay_22 (by omega) (by omega) (by decide) dX2_costOfSet_23 rfl hv46 ?_
        refine g_imulA (n := 25) X dX2_costOfSet_24 rfl (fun v47 rv47 xv47 => ?_)
        clear xv47
        refine g_iaddA (n := 26) X dX2_costOfSet_25 rfl (fun v48 rv48 xv48 => ?_)
        clear xv48
        refine g_istore_n (n := 27) (L' := [(2, gJ v48), (0, gA n0 15), (1, gJ a), (3, gJ v2)]) X dX2_costOfSet_26 rfl (by decide) rfl rfl ?_
        refine g_iinc (n := 30) (w := v2 + 1) (L' := [(3, gJ (v2 + 1)), (2, gJ v48), (0, gA n0 15), (1, gJ a)]) X 3 dX2_costOfSet_27 rfl rfl (by decide) rfl rfl ?_
        refine g_goto (tgt := 4) X dX2_costOfSet_30 (by decide) ?_
        refine G.sub (L' := [(0, gA n0 15), (1, gJ a), (2, gJ v48), (3, gJ (v2 + 1))]) [2, 3, 1, 0] rfl ?_
        exact ih40 v48 (v2 + 1) (by omega) (by omega) (by omega)
  refine G.sub (L' := [(0, gA n0 15), (1, gJ a), (2, gJ 0), (3, gJ 0)]) [2, 3, 1, 0] rfl ?_
  exact j4 _ 0 0 (by omega) (by omega) (Nat.lt_succ_self _)
theorem dX2_doChoices_0 : decode cX2_doChoices 0 = .ok (.iconst 0, 1) := dc_3 (by decide +kernel)
theorem dX2_doChoices_1 : decode cX2_doChoices 1 = .ok (.istore_n 2, 1) := dc_61 (by decide +kernel)
theorem dX2_doChoices_2 : decode cX2_doChoices 2 = .ok (.iload_n 2, 1) := dc_28 (by decide +kernel)
theorem dX2_doChoices_3 : decode cX2_doChoices 3 = .ok (.aload_n 0, 1) := dc_42 (by decide +kernel)
theorem dX2_doChoices_4 : decode cX2_doChoices 4 = .ok (.getfield 43, 3) := dc_180 0 43 (by decide +kernel)
theorem dX2_doChoices_7 : decode cX2_doChoices 7 = .ok (.if_icmp .ge 76, 3) := dc_162 0 76 76 (by decide +kernel)
theorem dX2_doChoices_83 : decode cX2_doChoices 83 = .ok (.return_, 1) := dc_177 (by decide +kernel)
theorem dX2_doChoices_10 : decode cX2_doChoices 10 = .ok (.iload_n 1, 1) := dc_27 (by decide +kernel)
theorem dX2_doChoices_11 : decode cX2_doChoices 11 = .ok (.iload_n 2, 1) := dc_28 (by decide +kernel)
theorem dX2_doChoices_12 : decode cX2_doChoices 12 = .ok (.ishr, 1) := dc_122 (by decide +kernel)
theorem dX2_doChoices_13 : decode cX2_doChoices 13 = .ok (.iconst 1, 1) := dc_4 (by decide +kernel)
theorem dX2_doChoices_14 : decode cX2_doChoices 14 = .ok (.iand, 1) := dc_126 (by decide +kernel)
theorem dX2_doChoices_15 : decode cX2_doChoices 15 = .ok (.aload_n 0, 1) := dc_42 (by decide +kernel)
theorem dX2_doChoices_16 : decode cX2_doChoices 16 = .ok (.getfield 27, 3) := dc_180 0 27 (by decide +kernel)
theorem dX2_doChoices_19 : decode cX2_doChoices 19 = .ok (.iload_n 2, 1) := dc_28 (by decide +kernel)
theorem dX2_doChoices_20 : decode cX2_doChoices 20 = .ok (.iaload, 1) := dc_46 (by decide +kernel)
theorem dX2_doChoices_21 : decode cX2_doChoices 21 = .ok (.imul, 1) := dc_104 (by decide +kernel)
theorem dX2_doChoices_22 : decode cX2_doChoices 22 = .ok (.istore_n 3, 1) := dc_62 (by decide +kernel)
theorem dX2_doChoices_23 : decode cX2_doChoices 23 = .ok (.aload_n 0, 1) := dc_42 (by decide +kernel)
theorem dX2_doChoices_24 : decode cX2_doChoices 24 = .ok (.getfield 24, 3) := dc_180 0 24 (by decide +kernel)
theorem dX2_doChoices_27 : decode cX2_doChoices 27 = .ok (.iload_n 2, 1) := dc_28 (by decide +kernel)
theorem dX2_doChoices_28 : decode cX2_doChoices 28 = .ok (.iaload, 1) := dc_46 (by decide +kernel)
theorem dX2_doChoices_29 : decode cX2_doChoices 29 = .ok (.istore 4, 2) := dc_54 4 (by decide +kernel)
theorem dX2_doChoices_31 : decode cX2_doChoices 31 = .ok (.iload 4, 2) := dc_21 4 (by decide +kernel)
theorem dX2_doChoices_33 : decode cX2_doChoices 33 = .ok (.iconst 4, 1) := dc_7 (by decide +kernel)
theorem dX2_doChoices_34 : decode cX2_doChoices 34 = .ok (.if_icmp .ne 22, 3) := dc_160 0 22 22 (by decide +kernel)
theorem dX2_doChoices_56 : decode cX2_doChoices 56 = .ok (.aload_n 0, 1) := dc_42 (by decide +kernel)
theorem dX2_doChoices_57 : decode cX2_doChoices 57 = .ok (.getfield 9, 3) := dc_180 0 9 (by decide +kernel)
theorem kw_1_95 : (Jvm.Cond.fieldLink "ParishUnion$House" (9 : Nat) "ParishUnion$House" "beds" "[I") ∈ gT := gT_of (tb_1 _ (List.mem_of_getElem? (i := 95) rfl)) rfl
theorem rf_15_0 {sz : Nat} {M : gM} (I : gI sz M) (h : (15 : Int) < (sz : Int)) : M 15 0 = 16 + 1 := gI.rf I (by decide) h (by decide +kernel)
theorem dX2_doChoices_60 : decode cX2_doChoices 60 = .ok (.iload 4, 2) := dc_21 4 (by decide +kernel)
theorem dX2_doChoices_62 : decode cX2_doChoices 62 = .ok (.bipush 99, 2) := dc_16 99 99 (by decide +kernel)
theorem dX2_doChoices_64 : decode cX2_doChoices 64 = .ok (.aload_n 0, 1) := dc_42 (by decide +kernel)
theorem dX2_doChoices_65 : decode cX2_doChoices 65 = .ok (.getfield 9, 3) := dc_180 0 9 (by decide +kernel)
theorem dX2_doChoices_68 : decode cX2_doChoices 68 = .ok (.iload 4, 2) := dc_21 4 (by decide +kernel)
theorem dX2_doChoices_70 : decode cX2_doChoices 70 = .ok (.iaload, 1) := dc_46 (by decide +kernel)
theorem ra_16 (k : Int) : gRg 16 k = (-2147483648, 2147483647) ∧ gCr 16 k = false ∧ gG 16 k = 11 := ⟨rfl, rfl, rfl⟩
theorem dX2_doChoices_71 : decode cX2_doChoices 71 = .ok (.iload_n 3, 1) := dc_29 (by decide +kernel)
theorem dX2_doChoices_72 : decode cX2_doChoices 72 = .ok (.iadd, 1) := dc_96 (by decide +kernel)
theorem dX2_doChoices_73 : decode cX2_doChoices 73 = .ok (.invokestatic 49, 3) := dc_184 0 49 (by decide +kernel)
theorem kw_5_183 : (Jvm.Cond.methodLink "ParishUnion$House" (49 : Nat) ({ cls := "java/lang/Math", name := "min", desc := "(II)I" } : Jvm.MethodName)) ∈ gT := gT_of (tb_5 _ (List.mem_of_getElem? (i := 183) rfl)) rfl
theorem dX2_doChoices_76 : decode cX2_doChoices 76 = .ok (.iastore, 1) := dc_79 (by decide +kernel)
theorem dX2_doChoices_77 : decode cX2_doChoices 77 = .ok (.iinc 2 1, 3) := dc_132 2 1 1 (by decide +kernel)
theorem dX2_doChoices_80 : decode cX2_doChoices 80 = .ok (.goto (-78), 3) := dc_167 255 178 (-78) (by decide +kernel)
theorem dX2_doChoices_37 : decode cX2_doChoices 37 = .ok (.aload_n 0, 1) := dc_42 (by decide +kernel)
theorem dX2_doChoices_38 : decode cX2_doChoices 38 = .ok (.sipush 9999, 3) := dc_17 39 15 9999 (by decide +kernel)
theorem dX2_doChoices_41 : decode cX2_doChoices 41 = .ok (.aload_n 0, 1) := dc_42 (by decide +kernel)
theorem dX2_doChoices_42 : decode cX2_doChoices 42 = .ok (.getfield 46, 3) := dc_180 0 46 (by decide +kernel)
theorem kw_1_109 : (Jvm.Cond.fieldLink "ParishUnion$House" (46 : Nat) "ParishUnion$House" "store" "I") ∈ gT := gT_of (tb_1 _ (List.mem_of_getElem? (i := 109) rfl)) rfl
theorem rc_15_8 : gRg 15 8 = (-2147483648, 2147483647) ∧ gCr 15 8 = false ∧ gG 15 8 = 11 := by decide +kernel
theorem dX2_doChoices_45 : decode cX2_doChoices 45 = .ok (.iload_n 3, 1) := dc_29 (by decide +kernel)
theorem dX2_doChoices_46 : decode cX2_doChoices 46 = .ok (.iadd, 1) := dc_96 (by decide +kernel)
theorem dX2_doChoices_47 : decode cX2_doChoices 47 = .ok (.invokestatic 49, 3) := dc_184 0 49 (by decide +kernel)
theorem dX2_doChoices_50 : decode cX2_doChoices 50 = .ok (.putfield 46, 3) := dc_181 0 46 (by decide +kernel)
theorem dX2_doChoices_53 : decode cX2_doChoices 53 = .ok (.goto 24, 3) := dc_167 0 24 24 (by decide +kernel)
abbrev R_X2_doChoices : Room := { frames := 4, cells := 0, slots := 0, locals := 120 }
set_option maxRecDepth 100000 in
set_option maxHeartbeats 4000000 in
theorem s_X2_doChoices {l : Launch} {n0 : Nat} {D : va_G} {cA : Nat → ClassId} {M : gM} (a : Int) (r_a : -2147483648 ≤ a ∧ a ≤ 2147483647) {sz : Nat} (hsz : 206 ≤ sz) (I : gI sz M) (C : gC sz M)   : Met l yX2_doChoices (gWsOf yX2_doChoices cX2_doChoices 5 (Option.none : Option Jvm.ClassFile.FieldType)) R_X2_doChoices (gPc n0 D cA [gA n0 15, gJ a] M sz) (gQv n0 D cA sz (fun M1 => gI sz M1 ∧ gC sz M1 ∧ gFr 2048 M M1)) 0 0 (fun q => n0 ≤ q) := by
  refine gMetV [gA n0 15, gJ a] (by decide) (Nat.le_of_ble_eq_true rfl) ⟨rfl, rfl⟩ ?_
  intro p e s m args below meth cd Q X hq
  have X : gCx p s m args meth cd n0 D cA "ParishUnion$House" cX2_doChoices 5 := X
  show G p l e R_X2_doChoices s m args below meth cd n0 D cA 5 Q 0 0 M sz 0 [(0, gA n0 15), (1, gJ a)] []
  refine g_iconst (n := 1) X dX2_doChoices_0 rfl ?_
  refine g_istore_n (n := 2) (L' := [(2, gJ 0), (0, gA n0 15), (1, gJ a)]) X dX2_doChoices_1 rfl (by decide) rfl rfl ?_
  have j3 : ∀ (N148 : Nat) (v1 : Int) (M2 : gM) , (0 ≤ v1 ∧ v1 ≤ 6) → gI sz M2 → gC sz M2 → gFr 2048 M M2 → (6 - v1).toNat < N148 → G p l e R_X2_doChoices s m args below meth cd n0 D cA 5 Q 0 0 M2 sz 2 [(0, gA n0 15), (1, gJ a), (2, gJ v1)] [] := by
    intro N148; induction N148 with
    | zero => intro v1 M2 rv1 IM2 CM2 FM2 hm150; exfalso; omega
    | succ N148 ih149 =>
      intro v1 M2 rv1 IM2 CM2 FM2 hm150
      refine g_iload_n (n := 3) X 2 dX2_doChoices_2 rfl rfl rfl ?_
      refine g_aload_n (n := 4) X 0 dX2_doChoices_3 rfl rfl rfl ?_
      obtain ⟨v151, hv151, rv151⟩ := gRd IM2 (by decide) (gsz hsz (by decide)) rc_15_7.1
      refine gg_2_7 (n := 7) (z := v151) X (by decide) (gsz hsz (by decide)) lay_15 kw_1_107 dX2_doChoices_4 rfl hv151 ?_
      refine g_icmp_ge (n := 10) (tgt := 83) X dX2_doChoices_7 (by decide) (by omega) (by omega) rfl (fun c152 => ?_) (fun c152 => ?_)
      · exact hq _ _ _ dX2_doChoices_83 ⟨IM2, CM2, (gFr.c gFr.rf FM2 rfl)⟩
      · refine g_iload_n (n := 11) X 1 dX2_doChoices_10 rfl rfl rfl ?_
        refine g_iload_n (n := 12) X 2 dX2_doChoices_11 rfl rfl rfl ?_
        refine g_ishrA (n := 13) X dX2_doChoices_12 rfl (fun v153 rv153 xv153 => ?_)
        clear xv153
        refine g_iconst (n := 14) X dX2_doChoices_13 rfl ?_
        refine g_iandC (n := 15) X dX2_doChoices_14 (by decide) rfl (fun v154 rv154 xv154 => ?_)
        clear xv154
        refine g_aload_n (n := 16) X 0 dX2_doChoices_15 rfl rfl rfl ?_
        refine gg_2_5 (n := 19) (z := 21) X (by decide) (gsz hsz (by decide)) lay_15 kw_1_105 dX2_doChoices_16 rfl (rf_15_5 IM2 (gsz hsz (by decide))) (by decide) ?_
        refine g_iload_n (n := 20) X 2 dX2_doChoices_19 rfl rfl rfl ?_
        obtain ⟨v155, hv155, rv155⟩ := gRd IM2 (by decide) (gsz hsz (by decide)) (ra_21 v1).1
        refine g_iald2 (n := 21) (v := v155) X (by decide) (gsz hsz (by decide)) lay_21 (by omega) (by omega) (by decide) dX2_doChoices_20 rfl hv155 ?_
        refine g_imulA (n := 22) X dX2_doChoices_21 rfl (fun v156 rv156 xv156 => ?_)
        clear xv156
        refine g_istore_n (n := 23) (L' := [(3, gJ v156), (0, gA n0 15), (1, gJ a), (2, gJ v1)]) X dX2_doChoices_22 rfl (by decide) rfl rfl ?_
        refine g_aload_n (n := 24) X 1 dX2_doChoices_23 rfl rfl rfl ?_
        refine gg_2_4 (n := 27) (z := 20) X (by decide) (gsz hsz (by decide)) lay_15 kw_1_104 dX2_doChoices_24 rfl (rf_15_4 IM2 (gsz hsz (by decide))) (by decide) ?_
        refine g_iload_n (n := 28) X 3 dX2_doChoices_27 rfl rfl rfl ?_
        obtain ⟨v157, hv157, rv157⟩ := gRd IM2 (by decide) (gsz hsz (by decide)) (ra_20 v1).1
        refine g_iald2 (n := 29) (v := v157) X (by decide) (gsz hsz (by decide)) lay_20 (by omega) (by omega) (by decide) dX2_doChoices_28 rfl hv157 ?_
        refine g_istore (n := 31) (L' := [(4, gJ v157), (3, gJ v156), (0, gA n0 15), (1, gJ a), (2, gJ v1)]) X dX2_doChoices_29 (by decide) rfl rfl ?_
        refine g_iload (n := 33) X 0 dX2_doChoices_31 rfl rfl ?_
        refine g_iconst (n := 34) X dX2_doChoices_33 rfl ?_
        refine g_icmp_ne (n := 37) (tgt := 56) X dX2_doChoices_34 (by decide) (by omega) (by omega) rfl (fun c158 => ?_) (fun c158 => ?_)
        · refine g_aload_n (n := 57) X 2 dX2_doChoices_56 rfl rfl rfl ?_
          refine gg_2_0 (n := 60) (z := 16) X (by decide) (gsz hsz (by decide)) lay_15 kw_1_95 dX2_doChoices_57 rfl (rf_15_0 IM2 (gsz hsz (by decide))) (by decide) ?_
          refine g_iload (n := 62) X 0 dX2_doChoices_60 rfl rfl ?_
          refine g_bipush (n := 64) X dX2_doChoices_62 (by decide +kernel) rfl ?_
          refine g_aload_n (n := 65) X 2 dX2_doChoices_64 rfl rfl rfl ?_
          refine gg_2_0 (n := 68) (z := 16) X (by decide) (gsz hsz (by decide)) lay_15 kw_1_95 dX2_doChoices_65 rfl (rf_15_0 IM2 (gsz hsz (by decide))) (by decide) ?_
          refine g_iload (n := 70) X 0 dX2_doChoices_68 rfl rfl ?_
          obtain ⟨v159, hv159, rv159⟩ := gRd IM2 (by decide) (gsz hsz (by decide)) (ra_16 v157).1
          refine g_iald2 (n := 71) (v := v159) X (by decide) (gsz hsz (by decide)) lay_16 (by omega) (by omega) (by decide) dX2_doChoices_70 rfl hv159 ?_
          refine g_iload_n (n := 72) X 1 dX2_doChoices_71 rfl rfl rfl ?_
          refine g_iaddA (n := 73) X dX2_doChoices_72 rfl (fun v160 rv160 xv160 => ?_)
          clear xv160
          refine g_mmin (n := 76) X kw_5_183 kw_3_45 kw_1_14 kw_3_46 (by omega) (by omega) (Nat.le_of_ble_eq_true rfl) (Nat.le_of_ble_eq_true rfl) (Nat.le_of_ble_eq_true rfl) (Nat.le_of_ble_eq_true rfl) dX2_doChoices_73 rfl (fun x161 hx161 => ?_)
          have rx161 : -2147483648 ≤ x161 ∧ x161 ≤ 99 := by omega
          refine g_iast (n := 77) X (by decide) (gsz hsz (by decide)) lay_16 (by omega) (by omega) (by decide) dX2_doChoices_76 rfl ?_
          refine G.nm (fun M162 e163 => ?_)
          have IM162 : gI sz M162 := gI.set IM2 (ra_16 v157).1 (by omega) e163
          have CM162 : gC sz M162 := gC.set CM2 (ra_16 v157).2.1 e163
          refine g_iinc (n := 80) (w := v1 + 1) (L' := [(2, gJ (v1 + 1)), (4, gJ v157), (3, gJ v156), (0, gA n0 15), (1, gJ a)]) X 4 dX2_doChoices_77 rfl rfl (by decide) rfl rfl ?_
          refine g_goto (tgt := 2) X dX2_doChoices_80 (by decide) ?_
          refine G.sub (L' := [(0, gA n0 15), (1, gJ a), (2, gJ (v1 + 1))]) [3, 4, 0] rfl ?_
          exact ih149 (v1 + 1) M162 (by omega) IM162 CM162 (gFr.s (gFr.c gFr.rf FM2 rfl) e163 (ra_16 v157).2.2 rfl) (by omega)
        · refine g_aload_n (n := 38) X 2 dX2_doChoices_37 rfl rfl rfl ?_
          refine g_sipush (n := 41) X dX2_doChoices_38 (by decide +kernel) rfl ?_
          refine g_aload_n (n := 42) X 2 dX2_doChoices_41 rfl rfl rfl ?_
          obtain ⟨v164, hv164, rv164⟩ := gRd IM2 (by decide) (gsz hsz (by decide)) rc_15_8.1
          refine gg_2_8 (n := 45) (z := v164) X (by decide) (gsz hsz (by decide)) lay_15 kw_1_109 dX2_doChoices_42 rfl hv164 ?_
          refine g_iload_n (n := 46) X 1 dX2_doChoices_45 rfl rfl rfl ?_
          refine g_iaddA (n := 47) X dX2_doChoices_46 rfl (fun v165 rv165 xv165 => ?_)
          clear xv165
          refine g_mmin (n := 50) X kw_5_183 kw_3_45 kw_1_14 kw_3_46 (by omega) (by omega) (Nat.le_of_ble_eq_true rfl) (Nat.le_of_ble_eq_true rfl) (Nat.le_of_ble_eq_true rfl) (Nat.le_of_ble_eq_true rfl) dX2_doChoices_47 rfl (fun x166 hx166 => ?_)
          have rx166 : -2147483648 ≤ x166 ∧ x166 ≤ 9999 := by omega
          refine gp_2_8 (n := 53) X (by decide) (gsz hsz (by decide)) lay_15 kw_1_109 dX2_doChoices_50 rfl ?_
          refine G.nm (fun M167 e168 => ?_)
          have IM167 : gI sz M167 := gI.set IM2 rc_15_8.1 (by omega) e168
          have CM167 : gC sz M167 := gC.set CM2 rc_15_8.2.1 e168
          refine g_goto (tgt := 77) X dX2_doChoices_53 (by decide) ?_
          refine g_iinc (n := 80) (w := v1 + 1) (L' := [(2, gJ (v1 + 1)), (4, gJ v157), (3, gJ v156), (0, gA n0 15), (1, gJ a)]) X 4 dX2_doChoices_77 rfl rfl (by decide) rfl rfl ?_
          refine g_goto (tgt := 2) X dX2_doChoices_80 (by decide) ?_
          refine G.sub (L' := [(0, gA n0 15), (1, gJ a), (2, gJ (v1 + 1))]) [3, 4, 0] rfl ?_
          exact ih149 (v1 + 1) M167 (by omega) IM167 CM167 (gFr.s (gFr.c gFr.rf FM2 rfl) e168 rc_15_8.2.2 rfl) (by omega)
  refine G.sub (L' := [(0, gA n0 15), (1, gJ a), (2, gJ 0)]) [1, 2, 0] rfl ?_
  exact j3 _ 0 M (by omega) I C gFr.rf (Nat.lt_succ_self _)
theorem dX2_setRow_0 : decode cX2_setRow 0 = .ok (.lload_n 2, 1) := dc_32 (by decide +kernel)
theorem dX2_setRow_1 : decode cX2_setRow 1 = .ok (.lstore 5, 2) := dc_55 5 (by decide +kernel)
theorem dX2_setRow_3 : decode cX2_setRow 3 = .ok (.iload 4, 2) := dc_21 4 (by decide +kernel)
theorem dX2_setRow_5 : decode cX2_setRow 5 = .ok (.iconst 1, 1) := dc_4 (by decide +kernel)
theorem dX2_setRow_6 : decode cX2_setRow 6 = .ok (.isub, 1) := dc_100 (by decide +kernel)
theorem dX2_setRow_7 : decode cX2_setRow 7 = .ok (.istore 7, 2) := dc_54 7 (by decide +kernel)
theorem dX2_setRow_9 : decode cX2_setRow 9 = .ok (.iload 7, 2) := dc_21 7 (by decide +kernel)
theorem dX2_setRow_11 : decode cX2_setRow 11 = .ok (.ifCond .lt 36, 3) := dc_155 0 36 36 (by decide +kernel)
theorem dX2_setRow_14 : decode cX2_setRow 14 = .ok (.aload_n 0, 1) := dc_42 (by decide +kernel)
theorem dX2_setRow_15 : decode cX2_setRow 15 = .ok (.getfield 21, 3) := dc_180 0 21 (by decide +kernel)
theorem kw_1_103 : (Jvm.Cond.fieldLink "ParishUnion$House" (21 : Nat) "ParishUnion$House" "rowFrost" "[I") ∈ gT := gT_of (tb_1 _ (List.mem_of_getElem? (i := 103) rfl)) rfl
theorem rf_15_3 {sz : Nat} {M : gM} (I : gI sz M) (h : (15 : Int) < (sz : Int)) : M 15 3 = 19 + 1 := gI.rf I (by decide) h (by decide +kernel)
theorem dX2_setRow_18 : decode cX2_setRow 18 = .ok (.iload_n 1, 1) := dc_27 (by decide +kernel)
theorem dX2_setRow_19 : decode cX2_setRow 19 = .ok (.bipush 10, 2) := dc_16 10 10 (by decide +kernel)
theorem dX2_setRow_21 : decode cX2_setRow 21 = .ok (.imul, 1) := dc_104 (by decide +kernel)
theorem dX2_setRow_22 : decode cX2_setRow 22 = .ok (.iload 7, 2) := dc_21 7 (by decide +kernel)
theorem dX2_setRow_24 : decode cX2_setRow 24 = .ok (.iadd, 1) := dc_96 (by decide +kernel)
theorem dX2_setRow_25 : decode cX2_setRow 25 = .ok (.lload 5, 2) := dc_22 5 (by decide +kernel)
theorem dX2_setRow_27 : decode cX2_setRow 27 = .ok (.ldc2_w 55, 3) := dc_20 0 55 (by decide +kernel)
theorem kw_5_144 : (Jvm.Cond.constantLong "ParishUnion$House" (55 : Nat) (10 : Int64)) ∈ gT := gT_of (tb_5 _ (List.mem_of_getElem? (i := 144) rfl)) rfl
theorem dX2_setRow_30 : decode cX2_setRow 30 = .ok (.lrem, 1) := dc_113 (by decide +kernel)
theorem dX2_setRow_31 : decode cX2_setRow 31 = .ok (.l2i, 1) := dc_136 (by decide +kernel)
theorem dX2_setRow_32 : decode cX2_setRow 32 = .ok (.iastore, 1) := dc_79 (by decide +kernel)
theorem ra_19 (k : Int) : gRg 19 k = (-2147483648, 2147483647) ∧ gCr 19 k = false ∧ gG 19 k = 13 := ⟨rfl, rfl, rfl⟩
theorem dX2_setRow_33 : decode cX2_setRow 33 = .ok (.lload 5, 2) := dc_22 5 (by decide +kernel)
theorem dX2_setRow_35 : decode cX2_setRow 35 = .ok (.ldc2_w 55, 3) := dc_20 0 55 (by decide +kernel)
theorem dX2_setRow_38 : decode cX2_setRow 38 = .ok (.ldiv, 1) := dc_109 (by decide +kernel)
theorem dX2_setRow_39 : decode cX2_setRow 39 = .ok (.lstore 5, 2) := dc_55 5 (by decide +kernel)
theorem dX2_setRow_41 : decode cX2_setRow 41 = .ok (.iinc 7 (-1), 3) := dc_132 7 255 (-1) (by decide +kernel)
theorem dX2_setRow_44 : decode cX2_setRow 44 = .ok (.goto (-35), 3) := dc_167 255 221 (-35) (by decide +kernel)
theorem dX2_setRow_47 : decode cX2_setRow 47 = .ok (.aload_n 0, 1) := dc_42 (by decide +kernel)
theorem dX2_setRow_48 : decode cX2_setRow 48 = .ok (.getfield 18, 3) := dc_180 0 18 (by decide +kernel)
theorem kw_1_101 : (Jvm.Cond.fieldLink "ParishUnion$House" (18 : Nat) "ParishUnion$House" "rowSize" "[I") ∈ gT := gT_of (tb_1 _ (List.mem_of_getElem? (i := 101) rfl)) rfl
theorem rf_15_2 {sz : Nat} {M : gM} (I : gI sz M) (h : (15 : Int) < (sz : Int)) : M 15 2 = 18 + 1 := gI.rf I (by decide) h (by decide +kernel)
theorem dX2_setRow_51 : decode cX2_setRow 51 = .ok (.iload_n 1, 1) := dc_27 (by decide +kernel)
theorem dX2_setRow_52 : decode cX2_setRow 52 = .ok (.iload 4, 2) := dc_21 4 (by decide +kernel)
theorem dX2_setRow_54 : decode cX2_setRow 54 = .ok (.iastore, 1) := dc_79 (by decide +kernel)
theorem ra_18 (k : Int) : gRg 18 k = (0, 10) ∧ gCr 18 k = false ∧ gG 18 k = 13 := ⟨rfl, rfl, rfl⟩
theorem dX2_setRow_55 : decode cX2_setRow 55 = .ok (.return_, 1) := dc_177 (by decide +kernel)
abbrev R_X2_setRow : Room := { frames := 0, cells := 0, slots := 0, locals := 0 }
set_option maxRecDepth 100000 in
set_option maxHeartbeats 4000000 in
theorem s_X2_setRow {l : Launch} {n0 : Nat} {D : va_G} {cA : Nat → ClassId} {M : gM} (a : Int) (r_a : 0 ≤ a ∧ a ≤ 2) (b : Int) (r_b : -9223372036854775808 ≤ b ∧ b ≤ 9223372036854775807) (c : Int) (r_c : 1 ≤ c ∧ c ≤ 10) {sz : Nat} (hsz : 206 ≤ sz) (I : gI sz M) (C : gC sz M)   : Met l yX2_setRow (gWsOf yX2_setRow cX2_setRow 8 (Option.none : Option Jvm.ClassFile.FieldType)) R_X2_setRow (gPc n0 D cA [gA n0 15, gJ a, gV b, gJ c] M sz) (gQv n0 D cA sz (fun M1 => gI sz M1 ∧ gC sz M1 ∧ gFr 8192 M M1)) 0 0 (fun q => n0 ≤ q) := by
  refine gMetV [gA n0 15, gJ a, gV b, gJ c] (by decide) (Nat.le_of_ble_eq_true rfl) ⟨rfl, rfl⟩ ?_
  intro p e s m args below meth cd Q X hq
  have X : gCx p s m args meth cd n0 D cA "ParishUnion$House" cX2_setRow 8 := X
  show G p l e R_X2_setRow s m args below meth cd n0 D cA 8 Q 0 0 M sz 0 [(0, gA n0 15), (1, gJ a), (2, gV b), (4, gJ c)] []
  refine g_lload_n (n := 1) X 2 dX2_setRow_0 rfl rfl rfl ?_
  refine g_lstore (n := 3) (L' := [(5, gV b), (0, gA n0 15), (1, gJ a), (2, gV b), (4, gJ c)]) X dX2_setRow_1 (by decide) rfl rfl ?_
  refine g_iload (n := 5) X 4 dX2_setRow_3 rfl rfl ?_
  refine g_iconst (n := 6) X dX2_setRow_5 rfl ?_
  refine g_isub (n := 7) (z := c - 1) X dX2_setRow_6 (by omega) rfl ?_
  refine g_istore (n := 9) (L' := [(7, gJ (c - 1)), (5, gV b), (0, gA n0 15), (1, gJ a), (2, gV b), (4, gJ c)]) X dX2_setRow_7 (by decide) rfl rfl ?_
  have j4 : ∀ (N19 : Nat) (v1 v2 : Int) (M3 : gM) , (-9223372036854775808 ≤ v1 ∧ v1 ≤ 9223372036854775807) → (-1 ≤ v2 ∧ v2 ≤ 9) → gI sz M3 → gC sz M3 → gFr 8192 M M3 → (v2 + 1).toNat < N19 → G p l e R_X2_setRow s m args below meth cd n0 D cA 8 Q 0 0 M3 sz 9 [(0, gA n0 15), (1, gJ a), (4, gJ c), (5, gV v1), (7, gJ v2)] [] := by
    intro N19; induction N19 with
    | zero => intro v1 v2 M3 rv1 rv2 IM3 CM3 FM3 hm21; exfalso; omega
    | succ N19 ih20 =>
      intro v1 v2 M3 rv1 rv2 IM3 CM3 FM3 hm21
      refine g_iload (n := 11) X 4 dX2_setRow_9 rfl rfl ?_
      refine g_if_lt (n := 14) (tgt := 47) X dX2_setRow_11 (by decide) (by omega) rfl (fun c22 => ?_) (fun c22 => ?_)
      · refine g_aload_n (n := 48) X 0 dX2_setRow_47 rfl rfl rfl ?_
        refine gg_2_2 (n := 51) (z := 18) X (by decide) (gsz hsz (by decide)) lay_15 kw_1_101 dX2_setRow_48 rfl (rf_15_2 IM3 (gsz hsz (by decide))) (by decide) ?_
        refine g_iload_n (n := 52) X 1 dX2_setRow_51 rfl rfl rfl ?_
        refine g_iload (n := 54) X 2 dX2_setRow_52 rfl rfl ?_
        refine g_iast (n := 55) X (by decide) (gsz hsz (by decide)) lay_18 (by omega) (by omega) (by decide) dX2_setRow_54 rfl ?_
        refine G.nm (fun M23 e24 => ?_)
        have IM23 : gI sz M23 := gI.set IM3 (ra_18 a).1 (by omega) e24
        have CM23 : gC sz M23 := gC.set CM3 (ra_18 a).2.1 e24
        exact hq _ _ _ dX2_setRow_55 ⟨IM23, CM23, (gFr.s (gFr.c gFr.rf FM3 rfl) e24 (ra_18 a).2.2 rfl)⟩
      · refine g_aload_n (n := 15) X 0 dX2_setRow_14 rfl rfl rfl ?_
        refine gg_2_3 (n := 18) (z := 19) X (by decide) (gsz hsz (by decide)) lay_15 kw_1_103 dX2_setRow_15 rfl (rf_15_3 IM3 (gsz hsz (by decide))) (by decide) ?_
        refine g_iload_n (n := 19) X 1 dX2_setRow_18 rfl rfl rfl ?_
        refine g_bipush (n := 21) X dX2_setRow_19 (by decide +kernel) rfl ?_
        refine g_imul (n := 22) (z := a * 10) X dX2_setRow_21 rfl rfl ?_
        refine g_iload (n := 24) X 4 dX2_setRow_22 rfl rfl ?_
        refine g_iadd (n := 25) (z := (a * 10) + v2) X dX2_setRow_24 rfl rfl ?_
        refine g_lload (n := 27) X 3 dX2_setRow_25 rfl rfl ?_
        refine g_ldc2 (n := 30) (z := 10) X dX2_setRow_27 kw_5_144 (by decide +kernel) rfl ?_
        refine g_lremA (n := 31) X dX2_setRow_30 (by decide +kernel) rfl (fun v25 rv25 xv25 => ?_)
        clear xv25
        refine g_l2iA (n := 32) X dX2_setRow_31 rfl (fun v26 rv26 xv26 => ?_)
        clear xv26
        refine g_iast (n := 33) X (by decide) (gsz hsz (by decide)) lay_19 (by omega) (by omega) (by decide) dX2_setRow_32 rfl ?_
        refine G.nm (fun M27 e28 => ?_)
        have IM27 : gI sz M27 := gI.set IM3 (ra_19 ((a * 10) + v2)).1 (by omega) e28
        have CM27 : gC sz M27 := gC.set CM3 (ra_19 ((a * 10) + v2)).2.1 e28
        refine g_lload (n := 35) X 3 dX2_setRow_33 rfl rfl ?_
        refine g_ldc2 (n := 38) (z := 10) X dX2_setRow_35 kw_5_144 (by decide +kernel) rfl ?_
        refine g_ldivA (n := 39) X dX2_setRow_38 (by decide +kernel) rfl (fun v29 rv29 xv29 => ?_)
        clear xv29
        refine g_lstore (n := 41) (L' := [(5, gV v29), (0, gA n0 15), (1, gJ a), (4, gJ c), (7, gJ v2)]) X dX2_setRow_39 (by decide) rfl rfl ?_
        refine g_iinc (n := 44) (w := v2 - 1) (L' := [(7, gJ (v2 - 1)), (5, gV v29), (0, gA n0 15), (1, gJ a), (4, gJ c)]) X 4 dX2_setRow_41 rfl rfl (by decide) rfl rfl ?_
        refine g_goto (tgt := 9) X dX2_setRow_44 (by decide) ?_
        refine G.sub (L' := [(0, gA n0 15), (1, gJ a), (4, gJ c), (5, gV v29), (7, gJ (v2 - 1))]) [2, 3, 4, 1, 0] rfl ?_
        exact ih20 v29 (v2 - 1) M27 (by omega) (by omega) IM27 CM27 (gFr.s (gFr.c gFr.rf FM3 rfl) e28 (ra_19 ((a * 10) + v2)).2.2 rfl) (by omega)
  refine G.sub (L' := [(0, gA n0 15), (1, gJ a), (4, gJ c), (5, gV b), (7, gJ (c - 1))]) [2, 3, 5, 1, 0] rfl ?_
  exact j4 _ b (c - 1) M (by omega) (by omega) I C gFr.rf (Nat.lt_succ_self _)
theorem dX2_tellRow_0 : decode cX2_tellRow 0 = .ok (.iconst 0, 1) := dc_3 (by decide +kernel)
theorem dX2_tellRow_1 : decode cX2_tellRow 1 = .ok (.istore_n 3, 1) := dc_62 (by decide +kernel)
theorem dX2_tellRow_2 : decode cX2_tellRow 2 = .ok (.iload_n 3, 1) := dc_29 (by decide +kernel)
theorem dX2_tellRow_3 : decode cX2_tellRow 3 = .ok (.aload_n 0, 1) := dc_42 (by decide +kernel)
theorem dX2_tellRow_4 : decode cX2_tellRow 4 = .ok (.getfield 18, 3) := dc_180 0 18 (by decide +kernel)
theorem dX2_tellRow_7 : decode cX2_tellRow 7 = .ok (.iload_n 1, 1) := dc_27 (by decide +kernel)
theorem dX2_tellRow_8 : decode cX2_tellRow 8 = .ok (.iaload, 1) := dc_46 (by decide +kernel)
theorem dX2_tellRow_9 : decode cX2_tellRow 9 = .ok (.if_icmp .ge 37, 3) := dc_162 0 37 37 (by decide +kernel)
theorem dX2_tellRow_46 : decode cX2_tellRow 46 = .ok (.return_, 1) := dc_177 (by decide +kernel)
theorem dX2_tellRow_12 : decode cX2_tellRow 12 = .ok (.iload_n 2, 1) := dc_28 (by decide +kernel)
theorem dX2_tellRow_13 : decode cX2_tellRow 13 = .ok (.iload_n 3, 1) := dc_29 (by decide +kernel)
theorem dX2_tellRow_14 : decode cX2_tellRow 14 = .ok (.iadd, 1) := dc_96 (by decide +kernel)
theorem dX2_tellRow_15 : decode cX2_tellRow 15 = .ok (.sipush 300, 3) := dc_17 1 44 300 (by decide +kernel)
theorem dX2_tellRow_18 : decode cX2_tellRow 18 = .ok (.if_icmp .gt 28, 3) := dc_163 0 28 28 (by decide +kernel)
theorem dX2_tellRow_21 : decode cX2_tellRow 21 = .ok (.aload_n 0, 1) := dc_42 (by decide +kernel)
theorem dX2_tellRow_22 : decode cX2_tellRow 22 = .ok (.getfield 15, 3) := dc_180 0 15 (by decide +kernel)
theorem kw_1_98 : (Jvm.Cond.fieldLink "ParishUnion$House" (15 : Nat) "ParishUnion$House" "frost" "[I") ∈ gT := gT_of (tb_1 _ (List.mem_of_getElem? (i := 98) rfl)) rfl
theorem rf_15_1 {sz : Nat} {M : gM} (I : gI sz M) (h : (15 : Int) < (sz : Int)) : M 15 1 = 17 + 1 := gI.rf I (by decide) h (by decide +kernel)
theorem dX2_tellRow_25 : decode cX2_tellRow 25 = .ok (.iload_n 2, 1) := dc_28 (by decide +kernel)
theorem dX2_tellRow_26 : decode cX2_tellRow 26 = .ok (.iload_n 3, 1) := dc_29 (by decide +kernel)
theorem dX2_tellRow_27 : decode cX2_tellRow 27 = .ok (.iadd, 1) := dc_96 (by decide +kernel)
theorem dX2_tellRow_28 : decode cX2_tellRow 28 = .ok (.aload_n 0, 1) := dc_42 (by decide +kernel)
theorem dX2_tellRow_29 : decode cX2_tellRow 29 = .ok (.getfield 21, 3) := dc_180 0 21 (by decide +kernel)
theorem dX2_tellRow_32 : decode cX2_tellRow 32 = .ok (.iload_n 1, 1) := dc_27 (by decide +kernel)
theorem dX2_tellRow_33 : decode cX2_tellRow 33 = .ok (.bipush 10, 2) := dc_16 10 10 (by decide +kernel)
theorem dX2_tellRow_35 : decode cX2_tellRow 35 = .ok (.imul, 1) := dc_104 (by decide +kernel)
theorem dX2_tellRow_36 : decode cX2_tellRow 36 = .ok (.iload_n 3, 1) := dc_29 (by decide +kernel)
theorem dX2_tellRow_37 : decode cX2_tellRow 37 = .ok (.iadd, 1) := dc_96 (by decide +kernel)
theorem dX2_tellRow_38 : decode cX2_tellRow 38 = .ok (.iaload, 1) := dc_46 (by decide +kernel)
theorem dX2_tellRow_39 : decode cX2_tellRow 39 = .ok (.iastore, 1) := dc_79 (by decide +kernel)
theorem ra_17 (k : Int) : gRg 17 k = (-2147483648, 2147483647) ∧ gCr 17 k = false ∧ gG 17 k = 12 := ⟨rfl, rfl, rfl⟩
theorem dX2_tellRow_40 : decode cX2_tellRow 40 = .ok (.iinc 3 1, 3) := dc_132 3 1 1 (by decide +kernel)
theorem dX2_tellRow_43 : decode cX2_tellRow 43 = .ok (.goto (-41), 3) := dc_167 255 215 (-41) (by decide +kernel)
abbrev R_X2_tellRow : Room := { frames := 0, cells := 0, slots := 0, locals := 0 }
set_option maxRecDepth 100000 in
set_option maxHeartbeats 4000000 in
theorem s_X2_tellRow {l : Launch} {n0 : Nat} {D : va_G} {cA : Nat → ClassId} {M : gM} (a : Int) (r_a : 0 ≤ a ∧ a ≤ 2) (b : Int) (r_b : 0 ≤ b ∧ b ≤ 300) {sz : Nat} (hsz : 206 ≤ sz) (I : gI sz M) (C : gC sz M)   : Met l yX2_tellRow (gWsOf yX2_tellRow cX2_tellRow 4 (Option.none : Option Jvm.ClassFile.FieldType)) R_X2_tellRow (gPc n0 D cA [gA n0 15, gJ a, gJ b] M sz) (gQv n0 D cA sz (fun M1 => gI sz M1 ∧ gC sz M1 ∧ gFr 4096 M M1)) 0 0 (fun q => n0 ≤ q) := by
  refine gMetV [gA n0 15, gJ a, gJ b] (by decide) (Nat.le_of_ble_eq_true rfl) ⟨rfl, rfl⟩ ?_
  intro p e s m args below meth cd Q X hq
  have X : gCx p s m args meth cd n0 D cA "ParishUnion$House" cX2_tellRow 4 := X
  show G p l e R_X2_tellRow s m args below meth cd n0 D cA 4 Q 0 0 M sz 0 [(0, gA n0 15), (1, gJ a), (2, gJ b)] []
  refine g_iconst (n := 1) X dX2_tellRow_0 rfl ?_
  refine g_istore_n (n := 2) (L' := [(3, gJ 0), (0, gA n0 15), (1, gJ a), (2, gJ b)]) X dX2_tellRow_1 rfl (by decide) rfl rfl ?_
  have j3 : ∀ (N34 : Nat) (v1 : Int) (M2 : gM) , (0 ≤ v1 ∧ v1 ≤ 10) → gI sz M2 → gC sz M2 → gFr 4096 M M2 → (10 - v1).toNat < N34 → G p l e R_X2_tellRow s m args below meth cd n0 D cA 4 Q 0 0 M2 sz 2 [(0, gA n0 15), (1, gJ a), (2, gJ b), (3, gJ v1)] [] := by
    intro N34; induction N34 with
    | zero => intro v1 M2 rv1 IM2 CM2 FM2 hm36; exfalso; omega
    | succ N34 ih35 =>
      intro v1 M2 rv1 IM2 CM2 FM2 hm36
      refine g_iload_n (n := 3) X 3 dX2_tellRow_2 rfl rfl rfl ?_
      refine g_aload_n (n := 4) X 0 dX2_tellRow_3 rfl rfl rfl ?_
      refine gg_2_2 (n := 7) (z := 18) X (by decide) (gsz hsz (by decide)) lay_15 kw_1_101 dX2_tellRow_4 rfl (rf_15_2 IM2 (gsz hsz (by decide))) (by decide) ?_
      refine g_iload_n (n := 8) X 1 dX2_tellRow_7 rfl rfl rfl ?_
      obtain ⟨v37, hv37, rv37⟩ := gRd IM2 (by decide) (gsz hsz (by decide)) (ra_18 a).1
      refine g_iald2 (n := 9) (v := v37) X (by decide) (gsz hsz (by decide)) lay_18 (by omega) (by omega) (by decide) dX2_tellRow_8 rfl hv37 ?_
      refine g_icmp_ge (n := 12) (tgt := 46) X dX2_tellRow_9 (by decide) (by omega) (by omega) rfl (fun c38 => ?_) (fun c38 => ?_)
      · exact hq _ _ _ dX2_tellRow_46 ⟨IM2, CM2, (gFr.c gFr.rf FM2 rfl)⟩
      · refine g_iload_n (n := 13) X 2 dX2_tellRow_12 rfl rfl rfl ?_
        refine g_iload_n (n := 14) X 3 dX2_tellRow_13 rfl rfl rfl ?_
        refine g_iadd (n := 15) (z := b + v1) X dX2_tellRow_14 rfl rfl ?_
        refine g_sipush (n := 18) X dX2_tellRow_15 (by decide +kernel) rfl ?_
        refine g_icmp_gt (n := 21) (tgt := 46) X dX2_tellRow_18 (by decide) (by omega) (by omega) rfl (fun c39 => ?_) (fun c39 => ?_)
        · exact hq _ _ _ dX2_tellRow_46 ⟨IM2, CM2, (gFr.c gFr.rf FM2 rfl)⟩
        · refine g_aload_n (n := 22) X 0 dX2_tellRow_21 rfl rfl rfl ?_
          refine gg_2_1 (n := 25) (z := 17) X (by decide) (gsz hsz (by decide)) lay_15 kw_1_98 dX2_tellRow_22 rfl (rf_15_1 IM2 (gsz hsz (by decide))) (by decide) ?_
          refine g_iload_n (n := 26) X 2 dX2_tellRow_25 rfl rfl rfl ?_
          refine g_iload_n (n := 27) X 3 dX2_tellRow_26 rfl rfl rfl ?_
          refine g_iadd (n := 28) (z := b + v1) X dX2_tellRow_27 rfl rfl ?_
          refine g_aload_n (n := 29) X 0 dX2_tellRow_28 rfl rfl rfl ?_
          refine gg_2_3 (n := 32) (z := 19) X (by decide) (gsz hsz (by decide)) lay_15 kw_1_103 dX2_tellRow_29 rfl (rf_15_3 IM2 (gsz hsz (by decide))) (by decide) ?_
          refine g_iload_n (n := 33) X 1 dX2_tellRow_32 rfl rfl rfl ?_
          refine g_bipush (n := 35) X dX2_tellRow_33 (by decide +kernel) rfl ?_
          refine g_imul (n := 36) (z := a * 10) X dX2_tellRow_35 rfl rfl ?_
          refine g_iload_n (n := 37) X 3 dX2_tellRow_36 rfl rfl rfl ?_
          refine g_iadd (n := 38) (z := (a * 10) + v1) X dX2_tellRow_37 rfl rfl ?_
          obtain ⟨v40, hv40, rv40⟩ := gRd IM2 (by decide) (gsz hsz (by decide)) (ra_19 ((a * 10) + v1)).1
          refine g_iald2 (n := 39) (v := v40) X (by decide) (gsz hsz (by decide)) lay_19 (by omega) (by omega) (by decide) dX2_tellRow_38 rfl hv40 ?_
          refine g_iast (n := 40) X (by decide) (gsz hsz (by decide)) lay_17 (by omega) (by omega) (by decide) dX2_tellRow_39 rfl ?_
          refine G.nm (fun M41 e42 => ?_)
          have IM41 : gI sz M41 := gI.set IM2 (ra_17 (b + v1)).1 (by omega) e42
          have CM41 : gC sz M41 := gC.set CM2 (ra_17 (b + v1)).2.1 e42
          refine g_iinc (n := 43) (w := v1 + 1) (L' := [(3, gJ (v1 + 1)), (0, gA n0 15), (1, gJ a), (2, gJ b)]) X 3 dX2_tellRow_40 rfl rfl (by decide) rfl rfl ?_
          refine g_goto (tgt := 2) X dX2_tellRow_43 (by decide) ?_
          refine G.sub (L' := [(0, gA n0 15), (1, gJ a), (2, gJ b), (3, gJ (v1 + 1))]) [1, 2, 3, 0] rfl ?_
          exact ih35 (v1 + 1) M41 (by omega) IM41 CM41 (gFr.s (gFr.c gFr.rf FM2 rfl) e42 (ra_17 (b + v1)).2.2 rfl) (by omega)
  refine G.sub (L' := [(0, gA n0 15), (1, gJ a), (2, gJ b), (3, gJ 0)]) [1, 2, 3, 0] rfl ?_
  exact j3 _ 0 M (by omega) I C gFr.rf (Nat.lt_succ_self _)
